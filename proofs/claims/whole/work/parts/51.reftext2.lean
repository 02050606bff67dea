/-! the reference: a text *)
-/
theorem zTR_h {t : zTkT} {tok val at_ : Int32} {p : Nat} (h : zTR t tok val at_) (hp : p < 3) : ((tok = 3 ∧ val = nI p) ↔ t.1 = nI (7 + p)) := by
  have np : ¬ nI (7 + p) = -1 ∧ ¬ nI (7 + p) = 0 ∧ ¬ nI (7 + p) = -2 ∧ ¬ nI (7 + p) = 40 ∧ ¬ nI (7 + p) = 41 ∧ ¬ nI (7 + p) = 59 ∧ ¬ nI (7 + p) = 43 ∧ ¬ nI (7 + p) = 45 ∧ ¬ nI (7 + p) = 42 ∧ ¬ nI (7 + p) = 60 ∧ ¬ nI (7 + p) = 61 :=
    (by decide +kernel : ∀ p, p < 3 → ¬ nI (7 + p) = -1 ∧ ¬ nI (7 + p) = 0 ∧ ¬ nI (7 + p) = -2 ∧ ¬ nI (7 + p) = 40 ∧ ¬ nI (7 + p) = 41 ∧ ¬ nI (7 + p) = 59 ∧ ¬ nI (7 + p) = 43 ∧ ¬ nI (7 + p) = 45 ∧ ¬ nI (7 + p) = 42 ∧ ¬ nI (7 + p) = 60 ∧ ¬ nI (7 + p) = 61) p hp
  obtain ⟨q1, q2, q3, q4, q5, q6, q7, q8, q9, q10, q11⟩ := np
  rcases h with ⟨h1, h2, -⟩ | ⟨-, -, h | ⟨k, h1, h2, h3, h4, h5⟩ | ⟨k, h1, h2, h3, h4⟩ | ⟨k, h1, h2, h3, h4⟩ | ⟨h1, h2⟩ | ⟨h1, h2⟩⟩
  · rw [h1, h2]; exact ⟨fun z => absurd z.1 (by decide), fun z => absurd z.symm q1⟩
  · rw [h.1, h.2.1]; exact ⟨fun z => absurd z.1 (by decide), fun z => absurd z.symm q2⟩
  · rw [h3, h4]
    exact ⟨fun z => absurd z.1 (by decide), fun z => by have := (nI_eq (by omega) (by omega)).mp z; omega⟩
  · rw [h2, h3, h4]
    exact ⟨fun z => by have := (nI_eq (by omega) (by omega)).mp z.2; rw [this], fun z => ⟨rfl, by have := (nI_eq (by omega) (by omega)).mp z; congr 1; omega⟩⟩
  · rw [h3, h4]
    exact ⟨fun z => by have := (nI_eq (b := 3) (by omega) (by decide)).mp z.1; omega, fun z => by have := (nI_eq (by omega) (by omega)).mp z; omega⟩
  · rw [h2]
    constructor
    · intro z
      rcases h1 with e | e | e | e | e | e | e | e <;> rw [e] at z <;> exact absurd z.1 (by decide)
    · intro z
      rcases h1 with e | e | e | e | e | e | e | e <;> rw [e] at z
      · exact absurd z.symm q4
      · exact absurd z.symm q5
      · exact absurd z.symm q6
      · exact absurd z.symm q7
      · exact absurd z.symm q8
      · exact absurd z.symm q9
      · exact absurd z.symm q10
      · exact absurd z.symm q11
  · rw [h1, h2]; exact ⟨fun z => absurd z.1 (by decide), fun z => absurd z.symm q3⟩
theorem zTR_0 {t : zTkT} {tok val at_ : Int32} (h : zTR t tok val at_) : tok = 0 ↔ t.1 = -1 := by
  rcases h with ⟨h1, h2, -⟩ | ⟨h0, -, h | ⟨k, h1, h2, h3, h4, h5⟩ | ⟨k, h1, h2, h3, h4⟩ | ⟨k, h1, h2, h3, h4⟩ | ⟨h1, h2⟩ | ⟨h1, h2⟩⟩
  · rw [h1, h2]; decide
  · rw [h.1, h.2.1]; decide
  · exact ⟨fun z => by rw [h4] at z; exact absurd z (by decide), fun z => absurd z h0⟩
  · exact ⟨fun z => by rw [h3] at z; exact absurd z (by decide), fun z => absurd z h0⟩
  · exact ⟨fun z => by rw [h4] at z; exact absurd z (nI_ne0 (by omega) (by omega)), fun z => absurd z h0⟩
  · refine ⟨fun z => ?_, fun z => absurd z h0⟩
    rw [h2] at z
    rcases h1 with e | e | e | e | e | e | e | e <;> rw [e] at z <;> exact absurd z (by decide)
  · rw [h1, h2]; decide
def zXF (M M1 : ab_M) (w : Nat) : Prop := (∀ c, c ≠ 0 → c ≠ 13 → c ≠ 14 → c ≠ 25 → M1 c = M c) ∧ (∀ j, ¬ (50 ≤ j ∧ j ≤ 53) → ¬ (56 ≤ j ∧ j ≤ 58) → M1 0 j = M 0 j) ∧ (∀ j, j < 200 * w → M1 13 j = M 13 j) ∧ ∀ j, j < 4 * w → M1 14 j = M 14 j
def zXS (M M1 : ab_M) (n w r i : Nat) (Os : List (List Int32)) : Prop := zXF M M1 w ∧ i ≤ n ∧ M1 0 50 = nI i ∧ M1 0 58 = nI Os.flatten.length ∧ Os.flatten.length ≤ i ∧ M1 13 = zPut (M 13) (200 * w) (Os.flatten.map zRc) ∧ Os.length + r = 3 ∧ ∀ j, j < Os.length → M1 14 (4 * w + j) = nI (Os.take j).flatten.length
def zReadR (M : ab_M) (n w : Nat) (res : zTr) (o : Option Value) (M2 : ab_M) : Prop := (∀ c, c ≠ 0 → c ≠ 13 → c ≠ 14 → c ≠ 25 → M2 c = M c) ∧ (∀ j, j ≠ 20 → j ≠ 23 → ¬ (50 ≤ j ∧ j ≤ 53) → ¬ (56 ≤ j ∧ j ≤ 58) → M2 0 j = M 0 j) ∧ M2 0 20 = 0 ∧ (∀ j, j < 200 * w → M2 13 j = M 13 j) ∧ (∀ j, j < 4 * w → M2 14 j = M 14 j) ∧ ((∃ p, res = .inl p ∧ p ≤ n ∧ o = some (.int (-100 - nI p)) ∧ M2 0 23 = M 0 23) ∨ ∃ O0 O1 O2 : List Int32, res = .inr [O0, O1, O2] ∧ o = some (.int (nI w)) ∧ M2 0 23 = nI (w + 1) ∧ O0.length + O1.length + O2.length ≤ 160 ∧ M2 14 (4 * w) = 0 ∧ M2 14 (4 * w + 1) = nI O0.length ∧ M2 14 (4 * w + 2) = nI (O0.length + O1.length) ∧ M2 14 (4 * w + 3) = nI (O0.length + O1.length + O2.length) ∧ ∀ (j : Nat) (x : Int32), (O0 ++ O1 ++ O2)[j]? = some x → M2 13 (200 * w + j) = zRc x)
def zt_X12_text : ab_T := ab_lq (α := Nat × Nat) (fun x r M N => r = [] ∧ M 0 23 = nI x.2 ∧ x.2 ≤ 6 ∧ (x.2 < 6 → zTpR M N x.1))
  (fun x M N o M2 N2 => N2 = N ∧ ((x.2 = 6 ∧ o = some (.int (-4)) ∧ M2 = M) ∨ (x.2 < 6 ∧ ∃ res : zTr, zTx (M 12) x.1 3 0 res ∧ zReadR M x.1 x.2 res o M2)))
theorem zt_X12_text_mono : ab_mono zt_X12_text := ab_lq_mono _ _
theorem zV_X12_text : ab_recv zw_M vwCl RX12 zt_X12_text := ab_lq_v
def zp_X12_text : ab_P := [(0, .aload_n 0, 1, [0], []),
  (1, .getfield 68, 4, [], []),
  (4, .bipush 6, 6, [], [6]),
  (6, .if_icmp .ne 6, 9, [12], []),
  (9, .bipush (-4), 11, [], [(-4)]),
  (11, .ireturn, 12, [], []),
  (12, .aload_n 0, 13, [0], []),
  (13, .iconst 0, 14, [], [0]),
  (14, .putfield 201, 17, [], []),
  (17, .aload_n 0, 18, [0], []),
  (18, .iconst 0, 19, [], [0]),
  (19, .putfield 217, 22, [], []),
  (22, .iconst 1, 23, [], [1]),
  (23, .istore_n 1, 24, [1], []),
  (24, .iconst 0, 25, [], [0]),
  (25, .istore_n 2, 26, [2], []),
  (26, .iload_n 2, 27, [2], []),
  (27, .iconst 3, 28, [], [3]),
  (28, .if_icmp .ge 73, 31, [101], []),
  (31, .iload_n 1, 32, [1], []),
  (32, .ifCond .eq 69, 35, [101], []),
  (35, .aload_n 0, 36, [0], []),
  (36, .invokevirtual 239, 39, [], []),
  (39, .aload_n 0, 40, [0], []),
  (40, .getfield 207, 43, [], []),
  (43, .iconst 3, 44, [], [3]),
  (44, .if_icmp .ne 15, 47, [59], []),
  (47, .aload_n 0, 48, [0], []),
  (48, .getfield 210, 51, [], []),
  (51, .iload_n 2, 52, [2], []),
  (52, .if_icmp .ne 7, 55, [59], []),
  (55, .iconst 1, 56, [], [1]),
  (56, .goto 4, 59, [60], []),
  (59, .iconst 0, 60, [], [0]),
  (60, .istore_n 1, 61, [1], []),
  (61, .aload_n 0, 62, [0], []),
  (62, .getfield 65, 65, [], []),
  (65, .iconst 4, 66, [], [4]),
  (66, .aload_n 0, 67, [0], []),
  (67, .getfield 68, 70, [], []),
  (70, .imul, 71, [], []),
  (71, .iload_n 2, 72, [2], []),
  (72, .iadd, 73, [], []),
  (73, .aload_n 0, 74, [0], []),
  (74, .getfield 217, 77, [], []),
  (77, .iastore, 78, [], []),
  (78, .iload_n 1, 79, [1], []),
  (79, .ifCond .eq 14, 82, [93], []),
  (82, .aload_n 0, 83, [0], []),
  (83, .invokevirtual 253, 86, [], []),
  (86, .ifCond .eq 7, 89, [93], []),
  (89, .iconst 1, 90, [], [1]),
  (90, .goto 4, 93, [94], []),
  (93, .iconst 0, 94, [], [0]),
  (94, .istore_n 1, 95, [1], []),
  (95, .iinc 2 1, 98, [], [1]),
  (98, .goto (-72), 101, [26], []),
  (101, .iload_n 1, 102, [1], []),
  (102, .ifCond .eq 20, 105, [122], []),
  (105, .aload_n 0, 106, [0], []),
  (106, .invokevirtual 239, 109, [], []),
  (109, .aload_n 0, 110, [0], []),
  (110, .getfield 207, 113, [], []),
  (113, .ifCond .ne 7, 116, [120], []),
  (116, .iconst 1, 117, [], [1]),
  (117, .goto 4, 120, [121], []),
  (120, .iconst 0, 121, [], [0]),
  (121, .istore_n 1, 122, [1], []),
  (122, .aload_n 0, 123, [0], []),
  (123, .getfield 65, 126, [], []),
  (126, .iconst 4, 127, [], [4]),
  (127, .aload_n 0, 128, [0], []),
  (128, .getfield 68, 131, [], []),
  (131, .imul, 132, [], []),
  (132, .iconst 3, 133, [], [3]),
  (133, .iadd, 134, [], []),
  (134, .aload_n 0, 135, [0], []),
  (135, .getfield 217, 138, [], []),
  (138, .iastore, 139, [], []),
  (139, .aload_n 0, 140, [0], []),
  (140, .iconst 0, 141, [], [0]),
  (141, .putfield 196, 144, [], []),
  (144, .iload_n 1, 145, [1], []),
  (145, .ifCond .ne 11, 148, [156], []),
  (148, .bipush (-100), 150, [], [(-100)]),
  (150, .aload_n 0, 151, [0], []),
  (151, .getfield 204, 154, [], []),
  (154, .isub, 155, [], []),
  (155, .ireturn, 156, [], []),
  (156, .aload_n 0, 157, [0], []),
  (157, .dup, 158, [], []),
  (158, .getfield 68, 161, [], []),
  (161, .iconst 1, 162, [], [1]),
  (162, .iadd, 163, [], []),
  (163, .putfield 68, 166, [], []),
  (166, .aload_n 0, 167, [0], []),
  (167, .getfield 68, 170, [], []),
  (170, .iconst 1, 171, [], [1]),
  (171, .isub, 172, [], []),
  (172, .ireturn, 173, [], [])]
theorem zo_X12_text : ab_ok cX12_text zp_X12_text = true := by decide +kernel
def zg_X12_text : ab_G := (zw_M, [], zf_X12, zc_X12, [], [(239, 1, zt_X12_next), (253, 1, zt_X12_eRead)], [])
theorem zm_X12_text : ab_MG zg_X12_text := ab_MGof (List.forall_mem_cons.mpr ⟨zt_X12_next_mono, List.forall_mem_cons.mpr ⟨zt_X12_eRead_mono, List.forall_mem_nil _⟩⟩) (List.forall_mem_nil _)
abbrev zr_X12_text (Q : ab_R) : ab_K := ab_Run zg_X12_text zp_X12_text (some .int) 3 Q
set_option maxRecDepth 20000 in
theorem zv_X12_text_0 {Q : ab_R} {M : ab_M} {N : ab_N}  (h : ((M 0 23) = (6 : Int32) → Q (some (.int (-4 : Int32))) M N) ∧ (¬ ((M 0 23) = (6 : Int32)) → let z1 : Nat → Int32 := upd (M 0) 50 (0 : Int32); let z2 : Nat → Int32 := upd (z1) 58 (0 : Int32); zr_X12_text Q 26 [some (.ref 0), some (.int (1 : Int32)), some (.int (0 : Int32))] [] (ab_u (ab_u M 0 z1) 0 z2) N)) : zr_X12_text Q 0 [some (.ref 0)] [] M N := ab_Run_s zm_X12_text (sp := [(26, [true, true, true]), (39, [true, false, true]), (60, [true, false, true]), (86, [true, false, true]), (109, [true, false, false]), (122, [true, true, false])]) 102 h
set_option maxRecDepth 20000 in
theorem zv_X12_text_26 {Q : ab_R} {M : ab_M} {N : ab_N} (l1 : Int32) (l2 : Int32) (h : ((3 : Int32) ≤ l2 → (l1 = 0 → zr_X12_text Q 122 [some (.ref 0), some (.int l1), none] [] M N) ∧ (¬ (l1 = 0) → zt_X12_next [.ref 0] M N (fun r M2 N2 => zr_X12_text Q 109 [some (.ref 0), none, none] (ab_ol r []) M2 N2))) ∧ (¬ ((3 : Int32) ≤ l2) → (l1 = 0 → (l1 = 0 → zr_X12_text Q 122 [some (.ref 0), some (.int l1), none] [] M N) ∧ (¬ (l1 = 0) → zt_X12_next [.ref 0] M N (fun r M2 N2 => zr_X12_text Q 109 [some (.ref 0), none, none] (ab_ol r []) M2 N2))) ∧ (¬ (l1 = 0) → zt_X12_next [.ref 0] M N (fun r M2 N2 => zr_X12_text Q 39 [some (.ref 0), none, some (.int l2)] (ab_ol r []) M2 N2)))) : zr_X12_text Q 26 [some (.ref 0), some (.int l1), some (.int l2)] [] M N := ab_Run_s zm_X12_text (sp := [(26, [true, true, true]), (39, [true, false, true]), (60, [true, false, true]), (86, [true, false, true]), (109, [true, false, false]), (122, [true, true, false])]) 102 h
set_option maxRecDepth 20000 in
theorem zv_X12_text_39 {Q : ab_R} {M : ab_M} {N : ab_N} (l2 : Int32) (h : ((M 0 52) = (3 : Int32) → ((M 0 53) = l2 → zr_X12_text Q 60 [some (.ref 0), none, some (.int l2)] [.int (1 : Int32)] M N) ∧ (¬ ((M 0 53) = l2) → zr_X12_text Q 60 [some (.ref 0), none, some (.int l2)] [.int (0 : Int32)] M N)) ∧ (¬ ((M 0 52) = (3 : Int32)) → zr_X12_text Q 60 [some (.ref 0), none, some (.int l2)] [.int (0 : Int32)] M N)) : zr_X12_text Q 39 [some (.ref 0), none, some (.int l2)] [] M N := ab_Run_s zm_X12_text (sp := [(26, [true, true, true]), (39, [true, false, true]), (60, [true, false, true]), (86, [true, false, true]), (109, [true, false, false]), (122, [true, true, false])]) 102 h
set_option maxRecDepth 20000 in
theorem zv_X12_text_60 {Q : ab_R} {M : ab_M} {N : ab_N} (l2 : Int32) (s0 : Int32) (h : vp_in (((4 : Int32) * (M 0 23)) + l2) 24 ∧ (let z1 : Nat → Int32 := upd (M 14) (((4 : Int32) * (M 0 23)) + l2).toNatClampNeg (M 0 58); (s0 = 0 → zr_X12_text Q 26 [some (.ref 0), some (.int (0 : Int32)), some (.int (l2 + (1 : Int32)))] [] (ab_u M 14 z1) N) ∧ (¬ (s0 = 0) → zt_X12_eRead [.ref 0] (ab_u M 14 z1) N (fun r M2 N2 => zr_X12_text Q 86 [some (.ref 0), none, some (.int l2)] (ab_ol r []) M2 N2)))) : zr_X12_text Q 60 [some (.ref 0), none, some (.int l2)] [.int s0] M N := ab_Run_s zm_X12_text (sp := [(26, [true, true, true]), (39, [true, false, true]), (60, [true, false, true]), (86, [true, false, true]), (109, [true, false, false]), (122, [true, true, false])]) 102 h
set_option maxRecDepth 20000 in
theorem zv_X12_text_86 {Q : ab_R} {M : ab_M} {N : ab_N} (l2 : Int32) (s0 : Int32) (h : (s0 = 0 → zr_X12_text Q 26 [some (.ref 0), some (.int (0 : Int32)), some (.int (l2 + (1 : Int32)))] [] M N) ∧ (¬ (s0 = 0) → zr_X12_text Q 26 [some (.ref 0), some (.int (1 : Int32)), some (.int (l2 + (1 : Int32)))] [] M N)) : zr_X12_text Q 86 [some (.ref 0), none, some (.int l2)] [.int s0] M N := ab_Run_s zm_X12_text (sp := [(26, [true, true, true]), (39, [true, false, true]), (60, [true, false, true]), (86, [true, false, true]), (109, [true, false, false]), (122, [true, true, false])]) 102 h
set_option maxRecDepth 20000 in
theorem zv_X12_text_109 {Q : ab_R} {M : ab_M} {N : ab_N}  (h : ((M 0 52) = 0 → zr_X12_text Q 122 [some (.ref 0), some (.int (1 : Int32)), none] [] M N) ∧ (¬ ((M 0 52) = 0) → zr_X12_text Q 122 [some (.ref 0), some (.int (0 : Int32)), none] [] M N)) : zr_X12_text Q 109 [some (.ref 0), none, none] [] M N := ab_Run_s zm_X12_text (sp := [(26, [true, true, true]), (39, [true, false, true]), (60, [true, false, true]), (86, [true, false, true]), (109, [true, false, false]), (122, [true, true, false])]) 102 h
set_option maxRecDepth 20000 in
theorem zv_X12_text_122 {Q : ab_R} {M : ab_M} {N : ab_N} (l1 : Int32) (h : vp_in (((4 : Int32) * (M 0 23)) + (3 : Int32)) 24 ∧ (let z1 : Nat → Int32 := upd (M 14) (((4 : Int32) * (M 0 23)) + (3 : Int32)).toNatClampNeg (M 0 58); let z2 : Nat → Int32 := upd (M 0) 20 (0 : Int32); (l1 = 0 → Q (some (.int ((-100 : Int32) - (z2 51)))) (ab_u (ab_u M 14 z1) 0 z2) N) ∧ (¬ (l1 = 0) → let z3 : Nat → Int32 := upd (z2) 23 ((z2 23) + (1 : Int32)); Q (some (.int ((z3 23) - (1 : Int32)))) (ab_u (ab_u (ab_u M 14 z1) 0 z2) 0 z3) N))) : zr_X12_text Q 122 [some (.ref 0), some (.int l1), none] [] M N := ab_Run_s zm_X12_text (sp := [(26, [true, true, true]), (39, [true, false, true]), (60, [true, false, true]), (86, [true, false, true]), (109, [true, false, false]), (122, [true, true, false])]) 102 h
section Tx
variable {Q : ab_R} {N : ab_N} {M : ab_M} {n w : Nat}
theorem zL_X12_text_b (h23 : M 0 23 = nI w) (hw : w < 6) (hk : ∀ (res : zTr) (o : Option Value) (M2 : ab_M), zTx (M 12) n 3 0 res → zReadR M n w res o M2 → Q o M2 N) {M1 : ab_M} {p : Nat} (hF : zXF M M1 w) (h51 : M1 0 51 = nI p) (hp : p ≤ n) (hx : zTx (M 12) n 3 0 (.inl p)) : zr_X12_text Q 122 [some (.ref 0), some (.int 0), none] [] M1 N := by
  obtain ⟨f1, f2, f3, f4⟩ := hF
  have e23 : M1 0 23 = nI w := (f2 23 (by omega) (by omega)).trans h23
  refine zv_X12_text_122 _ ?_
  rw [e23, show (4 : Int32) * nI w + 3 = nI (4 * w + 3) by rw [show (4 : Int32) = nI 4 from rfl, pk_mul, show (3 : Int32) = nI 3 from rfl, nI_add], nI_clamp (show 4 * w + 3 < 2 ^ 31 by omega)]
  refine ⟨nI_in_ (by omega), ?_⟩
  intro z1 z2
  refine ⟨fun _ => hk _ _ _ hx ⟨fun c a b d e => by rw [ab_u_ne _ _ a, ab_u_ne _ _ d]; exact f1 c a b d e, fun j a b d e => ?_, ?_, fun j hj => ?_, fun j hj => ?_, Or.inl ⟨p, rfl, hp, ?_, ?_⟩⟩, fun c => absurd rfl c⟩
  · rw [ab_u_eq]; simp only [z2]; rw [upd_ne _ _ a]; exact f2 j d e
  · rw [ab_u_eq]; simp only [z2]; rw [upd_eq]
  · rw [ab_u_ne _ _ (by decide), ab_u_ne _ _ (by decide)]; exact f3 j hj
  · rw [ab_u_ne _ _ (by decide), ab_u_eq]; simp only [z1]; rw [upd_ne _ _ (by omega)]; exact f4 j hj
  · simp only [z2]; rw [upd_ne _ _ (by decide), h51]
  · rw [ab_u_eq]; simp only [z2]; rw [upd_ne _ _ (by decide), e23, h23]
theorem zL_X12_text (h23 : M 0 23 = nI w) (hw : w < 6) (hT : zTpR M N n) (hk : ∀ (res : zTr) (o : Option Value) (M2 : ab_M), zTx (M 12) n 3 0 res → zReadR M n w res o M2 → Q o M2 N) : ∀ (r i : Nat) (Os : List (List Int32)) (M1 : ab_M), zXS M M1 n w r i Os → (∀ res, zTx (M 12) n r i res → zTx (M 12) n 3 0 (zTg Os res)) → zr_X12_text Q 26 [some (.ref 0), some (.int 1), some (.int (nI Os.length))] [] M1 N := by
  obtain ⟨hn, h20, h12, hW⟩ := id hT
  intro r
  induction r with
  | zero =>
    intro i Os M1 g hG
    obtain ⟨g1, g2, g3, g4, g5, g6, g7, g8⟩ := id g
    obtain ⟨b1, b2, b3, b4, b5⟩ := zTk_b (M 12) g2
    have l3 : Os.length = 3 := by omega
    have e12 : M1 12 = M 12 := g1.1 12 (by decide) (by decide) (by decide) (by decide)
    have hTM : zTpR M1 N n := ⟨hn, by rw [g1.2.1 20 (by omega) (by omega), h20], by rw [e12]; exact h12, hW⟩
    refine zv_X12_text_26 _ _ ⟨fun _ => ⟨fun c => absurd c (by decide), fun _ => ?_⟩, fun c => absurd (show nI 3 ≤ nI Os.length from nI_le (by omega) (by omega)) c⟩
    refine ⟨(n, i), _, rfl, ⟨rfl, hTM, g2, g3⟩, ?_⟩
    rintro o M2 N ⟨rfl, rfl, f, rfl, f0, f51, fR⟩
    dsimp only at f0 f51 fR
    rw [e12] at f51 fR
    have hF : zXF M (ab_u M1 0 f) w := ⟨fun c a b d e => by rw [ab_u_ne _ _ a]; exact g1.1 c a b d e, fun j a b => by rw [ab_u_eq, f0 j (by omega) (by omega) (by omega) (by omega)]; exact g1.2.1 j a b, fun j hj => by rw [ab_u_ne _ _ (by decide)]; exact g1.2.2.1 j hj, fun j hj => by rw [ab_u_ne _ _ (by decide)]; exact g1.2.2.2 j hj⟩
    refine zv_X12_text_109 ⟨fun c => ?_, fun c => zL_X12_text_b h23 hw hk hF (by rw [ab_u_eq, f51]) b3 (hG (.inl _) (Or.inr ⟨fun z => c (by rw [ab_u_eq]; exact (zTR_0 fR).mpr z), rfl⟩))⟩
    rw [ab_u_eq] at c
    have e0 := (zTR_0 fR).mp c
    have e23 : ab_u M1 0 f 0 23 = nI w := (hF.2.1 23 (by omega) (by omega)).trans h23
    have e58 : ab_u M1 0 f 0 58 = nI Os.flatten.length := by rw [ab_u_eq, f0 58 (by decide) (by decide) (by decide) (by decide), g4]
    refine zv_X12_text_122 _ ?_
    rw [e23, e58, show (4 : Int32) * nI w + 3 = nI (4 * w + 3) by rw [show (4 : Int32) = nI 4 from rfl, pk_mul, show (3 : Int32) = nI 3 from rfl, nI_add], nI_clamp (show 4 * w + 3 < 2 ^ 31 by omega)]
    refine ⟨nI_in_ (by omega), ?_⟩
    intro z1 z2
    refine ⟨fun c => absurd c (by decide), fun _ => ?_⟩
    intro z3
    have e3 : z3 23 = nI (w + 1) := by simp only [z3, z2]; rw [upd_eq, upd_ne _ _ (by decide), e23, nI_1]
    rw [e3, nI_pred]
    have z1e : z1 (4 * w + 3) = ab_u M1 0 f 0 58 := by
      simp only [z1]
      rw [upd_eq, e58]
    match Os, l3 with
    | [O0, O1, O2], _ =>
      simp only [List.flatten_cons, List.flatten_nil, List.append_nil, List.length_append, List.map_append] at g5 g6 e58
      have k0 := g8 0 (by simp)
      have k1 := g8 1 (by simp)
      have k2 := g8 2 (by simp)
      simp only [List.take_zero, List.take_succ_cons, List.flatten_nil, List.flatten_cons, List.append_nil, List.length_append, List.length_nil] at k0 k1 k2
      have m14 : ∀ j, j ≠ 4 * w + 3 → (ab_u (ab_u (ab_u (ab_u M1 0 f) 14 z1) 0 z2) 0 z3) 14 j = M1 14 j := fun j hj => by
        rw [ab_u_ne _ _ (by decide), ab_u_ne _ _ (by decide), ab_u_eq]
        simp only [z1]
        rw [upd_ne _ _ hj, ab_u_ne _ _ (by decide)]
      have m13 : (ab_u (ab_u (ab_u (ab_u M1 0 f) 14 z1) 0 z2) 0 z3) 13 = M1 13 := by
        rw [ab_u_ne _ _ (by decide), ab_u_ne _ _ (by decide), ab_u_ne _ _ (by decide), ab_u_ne _ _ (by decide)]
      refine hk _ _ _ (hG (.inr []) (Or.inl ⟨e0, rfl⟩)) ⟨fun c a b d e => ?_, fun j a b d e => ?_, ?_, fun j hj => ?_, fun j hj => ?_, Or.inr ⟨O0, O1, O2, rfl, rfl, ?_, by omega, ?_, ?_, ?_, ?_, ?_⟩⟩
      · rw [ab_u_ne _ _ a, ab_u_ne _ _ a, ab_u_ne _ _ d]; exact hF.1 c a b d e
      · rw [ab_u_eq]; simp only [z3, z2]; rw [upd_ne _ _ b, upd_ne _ _ a]; exact hF.2.1 j d e
      · rw [ab_u_eq]; simp only [z3, z2]; rw [upd_ne _ _ (by decide), upd_eq]
      · rw [m13]; exact g1.2.2.1 j hj
      · rw [m14 j (by omega)]; exact g1.2.2.2 j hj
      · rw [ab_u_eq, e3]
      · rw [m14 _ (by omega)]; exact k0
      · rw [m14 _ (by omega)]; exact k1
      · rw [m14 _ (by omega)]; exact k2
      · rw [ab_u_ne _ _ (by decide), ab_u_ne _ _ (by decide), ab_u_eq, z1e, e58, Nat.add_assoc]
      · intro j x hx
        rw [m13, g6]
        refine zPut_in _ _ _ _ _ ?_
        rw [← List.map_append, ← List.map_append, List.getElem?_map, ← List.append_assoc, hx]
        rfl
  | succ r ih =>
    intro i Os M1 g hG
    obtain ⟨g1, g2, g3, g4, g5, g6, g7, g8⟩ := id g
    obtain ⟨b1, b2, b3, b4, b5⟩ := zTk_b (M 12) g2
    have e12 : M1 12 = M 12 := g1.1 12 (by decide) (by decide) (by decide) (by decide)
    have hTM : zTpR M1 N n := ⟨hn, by rw [g1.2.1 20 (by omega) (by omega), h20], by rw [e12]; exact h12, hW⟩
    refine zv_X12_text_26 _ _ ⟨fun c => absurd c (nI_ge (b := 3) (by omega) (by decide)), fun _ => ⟨fun c => absurd c (by decide), fun _ => ?_⟩⟩
    refine ⟨(n, i), _, rfl, ⟨rfl, hTM, g2, g3⟩, ?_⟩
    rintro o M2 N ⟨rfl, rfl, f, rfl, f0, f51, fR⟩
    dsimp only at f0 f51 fR
    rw [e12] at f51 fR
    have hF : zXF M (ab_u M1 0 f) w := ⟨fun c a b d e => by rw [ab_u_ne _ _ a]; exact g1.1 c a b d e, fun j a b => by rw [ab_u_eq, f0 j (by omega) (by omega) (by omega) (by omega)]; exact g1.2.1 j a b, fun j hj => by rw [ab_u_ne _ _ (by decide)]; exact g1.2.2.1 j hj, fun j hj => by rw [ab_u_ne _ _ (by decide)]; exact g1.2.2.2 j hj⟩
    have e23 : ab_u M1 0 f 0 23 = nI w := (hF.2.1 23 (by omega) (by omega)).trans h23
    have e58 : ab_u M1 0 f 0 58 = nI Os.flatten.length := by rw [ab_u_eq, f0 58 (by decide) (by decide) (by decide) (by decide), g4]
    have e51 : ab_u M1 0 f 0 51 = nI (zTk (M 12) n i).2.2.1 := by rw [ab_u_eq, f51]
    have e50 : ab_u M1 0 f 0 50 = f 50 := by rw [ab_u_eq]
    have e13 : ab_u M1 0 f 13 = M1 13 := ab_u_ne _ _ (by decide)
    have e14 : ab_u M1 0 f 14 = M1 14 := ab_u_ne _ _ (by decide)
    have hh := zTR_h fR (show Os.length < 3 by omega)
    rw [show 7 + Os.length = 9 - r by omega] at hh
    have e52 : ab_u M1 0 f 0 52 = f 52 := by rw [ab_u_eq]
    have e53 : ab_u M1 0 f 0 53 = f 53 := by rw [ab_u_eq]
    generalize ab_u M1 0 f = M3 at *
    generalize ht : zTk (M 12) n i = tk at *
    have end0 : ∀ (M4 : ab_M) (l : Int32) (p : Nat), zXF M M4 w → M4 0 51 = nI p → p ≤ n → zTx (M 12) n (r + 1) i (.inl p) → zr_X12_text Q 26 [some (.ref 0), some (.int 0), some (.int l)] [] M4 N := by
      intro M4 l p a b c d
      have := zL_X12_text_b h23 hw hk a b c (hG _ d)
      exact zv_X12_text_26 _ _ ⟨fun _ => ⟨fun _ => this, fun z => absurd rfl z⟩, fun _ => ⟨fun _ => ⟨fun _ => this, fun z => absurd rfl z⟩, fun z => absurd rfl z⟩⟩
    have at60 : ∀ s : Int32, (s = 0 → ¬ tk.1 = nI (9 - r)) → (¬ s = 0 → tk.1 = nI (9 - r)) → zr_X12_text Q 60 [some (.ref 0), none, some (.int (nI Os.length))] [.int s] M3 N := by
      intro s s0 s1
      refine zv_X12_text_60 _ _ ?_
      rw [e23, e58, show (4 : Int32) * nI w + nI Os.length = nI (4 * w + Os.length) by rw [show (4 : Int32) = nI 4 from rfl, pk_mul, nI_add], nI_clamp (show 4 * w + Os.length < 2 ^ 31 by omega)]
      refine ⟨nI_in_ (by omega), ?_⟩
      intro z1
      have hF4 : zXF M (ab_u M3 14 z1) w := ⟨fun c a b d e => by rw [ab_u_ne _ _ d]; exact hF.1 c a b d e, fun j a b => by rw [ab_u_ne _ _ (by decide)]; exact hF.2.1 j a b, fun j hj => by rw [ab_u_ne _ _ (by decide)]; exact hF.2.2.1 j hj, fun j hj => by rw [ab_u_eq]; simp only [z1]; rw [upd_ne _ _ (by omega)]; exact hF.2.2.2 j hj⟩
      refine ⟨fun c => end0 _ _ _ hF4 (by rw [ab_u_ne _ _ (by decide), e51]) b3 (Or.inr ⟨by rw [ht]; exact s0 c, by rw [ht]⟩), fun c => ?_⟩
      have et := s1 c
      have nt : ¬ tk.1 = -1 := by
        rw [et]
        have := nI_m1 (m := 9 - r) (by omega)
        exact this
      have b6 := b5 nt
      have h4 : ∀ q, q ≠ 14 → ab_u M3 14 z1 q = M3 q := fun q hq => ab_u_ne _ _ hq
      have e124 : ab_u M3 14 z1 12 = M 12 := by rw [h4 12 (by decide)]; exact hF.1 12 (by decide) (by decide) (by decide) (by decide)
      have hT4 : zTpR (ab_u M3 14 z1) N n := ⟨hn, by rw [h4 0 (by decide), hF.2.1 20 (by omega) (by omega), h20], by rw [e124]; exact h12, hW⟩
      refine ⟨(n, tk.2.2.2, w, Os.flatten.length), _, rfl, ⟨rfl, hT4, by dsimp only; omega, by rw [h4 0 (by decide), e50]; exact zTR_at fR nt, by rw [h4 0 (by decide)]; exact e23, hw, by rw [h4 0 (by decide)]; exact e58, by dsimp only; omega⟩, ?_⟩
      rintro o M5 N ⟨rfl, ⟨p, y1, y2, rfl, y3, y4⟩ | ⟨i2, O, y1, y2, rfl, y3, y4, y5⟩⟩
      · dsimp only at y1 y2 y3 y4
        rw [e124] at y1
        have hF5 : zXF M M5 w := ⟨fun c a b d e => (y2.1 c a b e).trans (hF4.1 c a b d e), fun j a b => (y2.2.1 j a b).trans (hF4.2.1 j a b), fun j hj => (y2.2.2 j (by omega)).trans (hF4.2.2.1 j hj), fun j hj => by rw [y2.1 14 (by decide) (by decide) (by decide)]; exact hF4.2.2.2 j hj⟩
        exact zv_X12_text_86 _ _ ⟨fun _ => end0 M5 _ p hF5 y3 y4 (Or.inl ⟨by rw [ht]; exact et, Or.inl ⟨p, by rw [ht]; exact y1, rfl⟩⟩), fun c => absurd rfl c⟩
      · dsimp only at y1 y2 y3 y4 y5
        rw [e124] at y1
        have yF := zYR_F y2
        have hF5 : zXF M M5 w := ⟨fun c a b d e => (yF.1 c a b e).trans (hF4.1 c a b d e), fun j a b => (yF.2.1 j a b).trans (hF4.2.1 j a b), fun j hj => (yF.2.2 j (by omega)).trans (hF4.2.2.1 j hj), fun j hj => by rw [yF.1 14 (by decide) (by decide) (by decide)]; exact hF4.2.2.2 j hj⟩
        refine zv_X12_text_86 _ _ ⟨fun c => absurd c (by decide), fun _ => ?_⟩
        have fl : (Os ++ [O]).flatten = Os.flatten ++ O := by simp
        have ll : (Os ++ [O]).length = Os.length + 1 := by simp
        rw [nI_1, ← ll]
        refine ih i2 (Os ++ [O]) M5 ⟨hF5, y4, y3, ?_, ?_, ?_, by omega, fun j hj => ?_⟩ (fun res hx => ?_)
        · rw [y2.2.2.2.2.2.2.1, fl, List.length_append]
        · rw [fl, List.length_append]; exact y5
        · rw [y2.2.2.2.2.2.2.2.2.1, h4 13 (by decide), e13, g6, fl, List.map_append, zPut_app, List.length_map]
        · rw [yF.1 14 (by decide) (by decide) (by decide), ab_u_eq, List.take_append_of_le_length (by omega)]
          simp only [z1]
          by_cases e : j = Os.length
          · rw [e, upd_eq, List.take_length]
          · rw [upd_ne _ _ (by omega), e14]
            exact g8 j (by omega)
        · have := hG (match res with | .inl p => .inl p | .inr l => .inr (O :: l)) (Or.inl ⟨by rw [ht]; exact et, Or.inr ⟨i2, O, by rw [ht]; exact y1, ?_⟩⟩)
          · cases res with
            | inl p => exact this
            | inr l =>
              have e : (Os ++ [O]) ++ l = Os ++ O :: l := by simp
              show zTx (M 12) n 3 0 (.inr ((Os ++ [O]) ++ l))
              rw [e]
              exact this
          · cases res with
            | inl p => exact Or.inl ⟨p, hx, rfl⟩
            | inr l => exact Or.inr ⟨l, hx, rfl⟩
    refine zv_X12_text_39 _ ⟨fun c => ⟨fun c2 => ?_, fun c2 => ?_⟩, fun c => ?_⟩
    · exact at60 1 (fun z => absurd z (by decide)) (fun _ => hh.mp ⟨e52.symm.trans c, e53.symm.trans c2⟩)
    · exact at60 0 (fun _ z => c2 (e53.trans (hh.mpr z).2)) (fun z => absurd rfl z)
    · exact at60 0 (fun _ z => c (e52.trans (hh.mpr z).1)) (fun z => absurd rfl z)
end Tx
theorem zE_X12_text (as : List Value) (M : ab_M) (N : ab_N) (k : ab_R) (hT : zt_X12_text as M N k) : ab_cs as ≤ 3 ∧ zr_X12_text k 0 (ab_en as) [] M N := by
  obtain ⟨⟨n, w⟩, q, rfl, ⟨rfl, h23, hw, hx⟩, hk⟩ := hT
  dsimp only at h23 hw hx hk ⊢
  refine ⟨Nat.le_of_ble_eq_true rfl, zv_X12_text_0 ⟨fun c => ?_, fun c => ?_⟩⟩
  · rw [h23] at c
    exact hk _ _ _ ⟨rfl, Or.inl ⟨(nI_eq (b := 6) (by omega) (by decide)).mp c, rfl, rfl⟩⟩
  · have w6 : w < 6 := by
      have : ¬ w = 6 := fun z => c (by rw [h23, z]; rfl)
      omega
    intro z1 z2
    rw [ab_u_u]
    refine zL_X12_text h23 w6 (hx w6) (fun res o M2 a b => hk _ _ _ ⟨rfl, Or.inr ⟨w6, res, a, b⟩⟩) 3 0 [] _ ⟨⟨fun c a b d e => ab_u_ne _ _ a, fun j a b => ?_, fun j hj => by rw [ab_u_ne _ _ (by decide)], fun j hj => by rw [ab_u_ne _ _ (by decide)]⟩, Nat.zero_le _, ?_, ?_, Nat.le_refl _, ?_, rfl, fun j hj => absurd hj (by show ¬ j < 0; omega)⟩ (fun res z => by cases res <;> exact z)
    · rw [ab_u_eq]; simp only [z2, z1]; rw [upd_ne _ _ (by omega), upd_ne _ _ (by omega)]
    · rw [ab_u_eq]; simp only [z2, z1]; rw [upd_ne _ _ (by decide), upd_eq]; rfl
    · rw [ab_u_eq]; simp only [z2, z1]; rw [upd_eq]; rfl
    · rw [ab_u_ne _ _ (by decide)]; rfl
abbrev zR_X12_text : Room := { frames := 4, cells := 0, slots := 0, locals := 92 }
set_option maxRecDepth 20000 in
theorem zM_X12_text (l : Launch) : ab_Met l zw_M vwCl zZ_M yX12_text cX12_text 3 (some .int) zR_X12_text zt_X12_text := ab_ofRun (G := zg_X12_text) (P := zp_X12_text) rfl zo_X12_text (by decide +kernel) zl_cl zl_lamM zf_X12_ok ab_Tab_nil zc_X12_ok ab_Sta_nil (List.forall_mem_cons.mpr ⟨ab_callV zZ_M_ok (zM_X12_next l) (ab_in 1234 (by decide +kernel) rfl) (ab_in 1231 (by decide +kernel) rfl) (ab_in 1233 (by decide +kernel) rfl) (ab_inS (List.mem_of_getElem? (i := 28) (by decide +kernel)) rfl) (ab_in 17 (by decide +kernel) rfl) (by unfold ab_yok; decide +kernel) ⟨rfl, rfl⟩ (by decide) zV_X12_next, List.forall_mem_cons.mpr ⟨ab_callV zZ_M_ok (zM_X12_eRead l) (ab_in 1242 (by decide +kernel) rfl) (ab_in 1239 (by decide +kernel) rfl) (ab_in 1241 (by decide +kernel) rfl) (ab_inS (List.mem_of_getElem? (i := 30) (by decide +kernel)) rfl) (ab_in 17 (by decide +kernel) rfl) (by unfold ab_yok; decide +kernel) ⟨rfl, rfl⟩ (by decide) zV_X12_eRead, List.forall_mem_nil _⟩⟩) (List.forall_mem_nil _) zE_X12_text
