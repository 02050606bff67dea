/-! a text is read *)
-/
abbrev zTr : Type := Nat ⊕ List (List Int32)
/-- the parts that are left, from i on -/
def zTx (B : Nat → Int32) (n : Nat) : Nat → Nat → zTr → Prop
  | 0, i, res => ((zTk B n i).1 = -1 ∧ res = .inr []) ∨ (¬ (zTk B n i).1 = -1 ∧ res = .inl (zTk B n i).2.2.1)
  | r + 1, i, res => ((zTk B n i).1 = nI (9 - r) ∧ ((∃ p, zR B n (zTk B n i).2.2.2 [] [] true (.inl p) ∧ res = .inl p) ∨ ∃ (i2 : Nat) (O : List Int32), zR B n (zTk B n i).2.2.2 [] [] true (.inr (i2, O)) ∧ ((∃ p, zTx B n r i2 (.inl p) ∧ res = .inl p) ∨ ∃ l, zTx B n r i2 (.inr l) ∧ res = .inr (O :: l)))) ∨ (¬ (zTk B n i).1 = nI (9 - r) ∧ res = .inl (zTk B n i).2.2.1)
def zRead (M : ab_M) (n w : Nat) (res : zTr) (o : Option Value) (M2 : ab_M) : Prop := zFr [3, 4, 31, 32] M M2 ∧ M2 4 2 = M 4 2 ∧ (∀ j, j < w * 160 → M2 31 j = M 31 j) ∧ (∀ j, j < w * 3 → M2 32 j = M 32 j) ∧ (∀ j, j ≠ 2 → M2 3 j = M 3 j) ∧ ((∃ p, res = .inl p ∧ p ≤ n ∧ o = some (.int (-100 - nI p)) ∧ M2 3 2 = M 3 2) ∨ ∃ O0 O1 O2 : List Int32, res = .inr [O0, O1, O2] ∧ o = some (.int (nI w)) ∧ M2 3 2 = nI (w + 1) ∧ O0.length + O1.length + O2.length ≤ 160 ∧ M2 32 (w * 3) = nI (w * 160 + O0.length) ∧ M2 32 (w * 3 + 1) = nI (w * 160 + O0.length + O1.length) ∧ M2 32 (w * 3 + 2) = nI (w * 160 + O0.length + O1.length + O2.length) ∧ ∀ (j : Nat) (x : Int32), (O0 ++ O1 ++ O2)[j]? = some x → M2 31 (w * 160 + j) = x)
def zt_X8_read : ab_T := fun as M N k => match as with
  | [.ref q] => q = 4 ∧ ∃ n w : Nat, zTp M n ∧ M 3 2 = nI w ∧ w < 6 ∧ ∀ (res : zTr) (o : Option Value) (M2 : ab_M), zTx (M 34) n 3 0 res → zRead M n w res o M2 → k o M2 N
  | _ => False
theorem zt_X8_read_mono : ab_mono zt_X8_read := fun as M N k k2 hk h => by
  unfold zt_X8_read at h ⊢
  split at h
  · obtain ⟨a, n, w, b, c, d, f⟩ := h
    exact ⟨a, n, w, b, c, d, fun res o M2 p q => hk _ _ _ (f res o M2 p q)⟩
  · exact h
theorem zV_X8_read : ab_recv zw_C vwCl RX8 zt_X8_read := fun as M N k h => by
  unfold zt_X8_read at h
  split at h
  · obtain ⟨rfl, -⟩ := h
    exact ⟨_, _, _, _, _, _, rfl, rfl, rfl⟩
  · exact h.elim
theorem zAdv_raw {M1 : ab_M} {N : ab_N} {k : ab_R} {n j : Nat} (hT : zTp M1 n) (hj : j ≤ n) (h6 : M1 4 6 = nI j) (hk : ∀ f : Nat → Int32, f 2 = M1 4 2 → f 7 = M1 4 7 → zLa f (M1 34) n j → k none (ab_u M1 4 f) N) : zt_X8_advance [.ref 4] M1 N k := by
  refine ab_m0_i ⟨n, j, hT, hj, h6⟩ ?_
  rintro o M2 N2 ⟨rfl, rfl, f, rfl, f2, f7, hf⟩
  exact hk f f2 f7 (hf n j hT.1 hj hT.2.1 h6)
def zp_X8_read : ab_P := [(0, .aload_n 0, 1, [0], []),
  (1, .getfield 19, 4, [], []),
  (4, .getfield 23, 7, [], []),
  (7, .bipush 6, 9, [], [6]),
  (9, .if_icmp .lt 6, 12, [15], []),
  (12, .bipush (-4), 14, [], [(-4)]),
  (14, .ireturn, 15, [], []),
  (15, .aload_n 0, 16, [0], []),
  (16, .iconst 0, 17, [], [0]),
  (17, .putfield 28, 20, [], []),
  (20, .aload_n 0, 21, [0], []),
  (21, .aload_n 0, 22, [0], []),
  (22, .getfield 19, 25, [], []),
  (25, .getfield 23, 28, [], []),
  (28, .sipush 160, 31, [], [160]),
  (31, .imul, 32, [], []),
  (32, .putfield 31, 35, [], []),
  (35, .aload_n 0, 36, [0], []),
  (36, .invokevirtual 34, 39, [], []),
  (39, .iconst 0, 40, [], [0]),
  (40, .istore_n 1, 41, [1], []),
  (41, .iload_n 1, 42, [1], []),
  (42, .iconst 3, 43, [], [3]),
  (43, .if_icmp .ge 84, 46, [127], []),
  (46, .aload_n 0, 47, [0], []),
  (47, .getfield 37, 50, [], []),
  (50, .bipush 7, 52, [], [7]),
  (52, .iload_n 1, 53, [1], []),
  (53, .iadd, 54, [], []),
  (54, .if_icmp .eq 11, 57, [65], []),
  (57, .bipush (-100), 59, [], [(-100)]),
  (59, .aload_n 0, 60, [0], []),
  (60, .getfield 40, 63, [], []),
  (63, .isub, 64, [], []),
  (64, .ireturn, 65, [], []),
  (65, .aload_n 0, 66, [0], []),
  (66, .invokevirtual 34, 69, [], []),
  (69, .aload_n 0, 70, [0], []),
  (70, .iconst 0, 71, [], [0]),
  (71, .invokevirtual 43, 74, [], []),
  (74, .ifCond .eq 12, 77, [86], []),
  (77, .aload_n 0, 78, [0], []),
  (78, .getfield 37, 81, [], []),
  (81, .bipush 59, 83, [], [59]),
  (83, .if_icmp .eq 11, 86, [94], []),
  (86, .bipush (-100), 88, [], [(-100)]),
  (88, .aload_n 0, 89, [0], []),
  (89, .getfield 40, 92, [], []),
  (92, .isub, 93, [], []),
  (93, .ireturn, 94, [], []),
  (94, .aload_n 0, 95, [0], []),
  (95, .getfield 19, 98, [], []),
  (98, .getfield 47, 101, [], []),
  (101, .aload_n 0, 102, [0], []),
  (102, .getfield 19, 105, [], []),
  (105, .getfield 23, 108, [], []),
  (108, .iconst 3, 109, [], [3]),
  (109, .imul, 110, [], []),
  (110, .iload_n 1, 111, [1], []),
  (111, .iadd, 112, [], []),
  (112, .aload_n 0, 113, [0], []),
  (113, .getfield 31, 116, [], []),
  (116, .iastore, 117, [], []),
  (117, .aload_n 0, 118, [0], []),
  (118, .invokevirtual 34, 121, [], []),
  (121, .iinc 1 1, 124, [], [1]),
  (124, .goto (-83), 127, [41], []),
  (127, .aload_n 0, 128, [0], []),
  (128, .getfield 37, 131, [], []),
  (131, .iconst (-1), 132, [], [(-1)]),
  (132, .if_icmp .eq 11, 135, [143], []),
  (135, .bipush (-100), 137, [], [(-100)]),
  (137, .aload_n 0, 138, [0], []),
  (138, .getfield 40, 141, [], []),
  (141, .isub, 142, [], []),
  (142, .ireturn, 143, [], []),
  (143, .aload_n 0, 144, [0], []),
  (144, .getfield 19, 147, [], []),
  (147, .dup, 148, [], []),
  (148, .getfield 23, 151, [], []),
  (151, .iconst 1, 152, [], [1]),
  (152, .iadd, 153, [], []),
  (153, .putfield 23, 156, [], []),
  (156, .aload_n 0, 157, [0], []),
  (157, .getfield 19, 160, [], []),
  (160, .getfield 23, 163, [], []),
  (163, .iconst 1, 164, [], [1]),
  (164, .isub, 165, [], []),
  (165, .ireturn, 166, [], [])]
theorem zo_X8_read : ab_ok cX8_read zp_X8_read = true := by decide +kernel
def zg_X8_read : ab_G := (zw_C, zs_tab, zf_X8, zc_X8, [], [(34, 1, zt_X8_advance), (43, 2, zt_X8_either 6)], [])
theorem zm_X8_read : ab_MG zg_X8_read := ab_MGof (List.forall_mem_cons.mpr ⟨zt_X8_advance_mono, List.forall_mem_cons.mpr ⟨zt_X8_either_mono _, List.forall_mem_nil _⟩⟩) (List.forall_mem_nil _)
abbrev zr_X8_read (Q : ab_R) : ab_K := ab_Run zg_X8_read zp_X8_read (some .int) 2 Q
set_option maxRecDepth 20000 in
theorem zv_X8_read_0 {Q : ab_R} {M : ab_M} {N : ab_N}  (h : ((M 3 2) < (6 : Int32) → let z1 : Nat → Int32 := upd (M 4) 6 (0 : Int32); let z2 : Nat → Int32 := upd (z1) 7 ((M 3 2) * (160 : Int32)); zt_X8_advance [.ref 4] (ab_u (ab_u M 4 z1) 4 z2) N (fun r M2 N2 => zr_X8_read Q 39 [some (.ref 4), none] (ab_ol r []) M2 N2)) ∧ (¬ ((M 3 2) < (6 : Int32)) → Q (some (.int (-4 : Int32))) M N)) : zr_X8_read Q 0 [some (.ref 4)] [] M N := ab_Run_s zm_X8_read (sp := [(39, [true, false]), (41, [true, true]), (69, [true, true]), (74, [true, true]), (121, [true, true])]) 91 h
set_option maxRecDepth 20000 in
theorem zv_X8_read_39 {Q : ab_R} {M : ab_M} {N : ab_N}  (h : zr_X8_read Q 41 [some (.ref 4), some (.int (0 : Int32))] [] M N) : zr_X8_read Q 39 [some (.ref 4), none] [] M N := ab_Run_s zm_X8_read (sp := [(39, [true, false]), (41, [true, true]), (69, [true, true]), (74, [true, true]), (121, [true, true])]) 91 h
set_option maxRecDepth 20000 in
theorem zv_X8_read_41 {Q : ab_R} {M : ab_M} {N : ab_N} (l1 : Int32) (h : ((3 : Int32) ≤ l1 → ((M 4 3) = (-1 : Int32) → let z1 : Nat → Int32 := upd (M 3) 2 ((M 3 2) + (1 : Int32)); Q (some (.int ((z1 2) - (1 : Int32)))) (ab_u M 3 z1) N) ∧ (¬ ((M 4 3) = (-1 : Int32)) → Q (some (.int ((-100 : Int32) - (M 4 5)))) M N)) ∧ (¬ ((3 : Int32) ≤ l1) → ((M 4 3) = ((7 : Int32) + l1) → zt_X8_advance [.ref 4] M N (fun r M2 N2 => zr_X8_read Q 69 [some (.ref 4), some (.int l1)] (ab_ol r []) M2 N2)) ∧ (¬ ((M 4 3) = ((7 : Int32) + l1)) → Q (some (.int ((-100 : Int32) - (M 4 5)))) M N))) : zr_X8_read Q 41 [some (.ref 4), some (.int l1)] [] M N := ab_Run_s zm_X8_read (sp := [(39, [true, false]), (41, [true, true]), (69, [true, true]), (74, [true, true]), (121, [true, true])]) 91 h
set_option maxRecDepth 20000 in
theorem zv_X8_read_69 {Q : ab_R} {M : ab_M} {N : ab_N} (l1 : Int32) (h : zt_X8_either 6 [.ref 4, .int (0 : Int32)] M N (fun r M2 N2 => zr_X8_read Q 74 [some (.ref 4), some (.int l1)] (ab_ol r []) M2 N2)) : zr_X8_read Q 69 [some (.ref 4), some (.int l1)] [] M N := ab_Run_s zm_X8_read (sp := [(39, [true, false]), (41, [true, true]), (69, [true, true]), (74, [true, true]), (121, [true, true])]) 91 h
set_option maxRecDepth 20000 in
theorem zv_X8_read_74 {Q : ab_R} {M : ab_M} {N : ab_N} (l1 : Int32) (s0 : Int32) (h : (s0 = 0 → Q (some (.int ((-100 : Int32) - (M 4 5)))) M N) ∧ (¬ (s0 = 0) → ((M 4 3) = (59 : Int32) → vp_in (((M 3 2) * (3 : Int32)) + l1) 18 ∧ (let z1 : Nat → Int32 := upd (M 32) (((M 3 2) * (3 : Int32)) + l1).toNatClampNeg (M 4 7); zt_X8_advance [.ref 4] (ab_u M 32 z1) N (fun r M2 N2 => zr_X8_read Q 121 [some (.ref 4), some (.int l1)] (ab_ol r []) M2 N2))) ∧ (¬ ((M 4 3) = (59 : Int32)) → Q (some (.int ((-100 : Int32) - (M 4 5)))) M N))) : zr_X8_read Q 74 [some (.ref 4), some (.int l1)] [.int s0] M N := ab_Run_s zm_X8_read (sp := [(39, [true, false]), (41, [true, true]), (69, [true, true]), (74, [true, true]), (121, [true, true])]) 91 h
set_option maxRecDepth 20000 in
theorem zv_X8_read_121 {Q : ab_R} {M : ab_M} {N : ab_N} (l1 : Int32) (h : zr_X8_read Q 41 [some (.ref 4), some (.int (l1 + (1 : Int32)))] [] M N) : zr_X8_read Q 121 [some (.ref 4), some (.int l1)] [] M N := ab_Run_s zm_X8_read (sp := [(39, [true, false]), (41, [true, true]), (69, [true, true]), (74, [true, true]), (121, [true, true])]) 91 h
def zRdS (M M1 : ab_M) (n w r i : Nat) (Os : List (List Int32)) : Prop := (∀ c, c ≠ 4 → c ≠ 31 → c ≠ 32 → M1 c = M c) ∧ M1 4 2 = M 4 2 ∧ zLa (M1 4) (M 34) n i ∧ i ≤ n ∧ M1 4 7 = nI (w * 160 + Os.flatten.length) ∧ Os.flatten.length ≤ i ∧ M1 31 = zPut (M 31) (w * 160) Os.flatten ∧ Os.length + r = 3 ∧ (∀ j, j < Os.length → M1 32 (w * 3 + j) = nI (w * 160 + (Os.take (j + 1)).flatten.length)) ∧ ∀ j, j < w * 3 → M1 32 j = M 32 j
def zTg (Os : List (List Int32)) : zTr → zTr
  | .inl p => .inl p
  | .inr l => .inr (Os ++ l)
theorem zL_X8_read {Q : ab_R} {M : ab_M} {N : ab_N} {n w : Nat} (hT : zTp M n) (h3 : M 3 2 = nI w) (hw : w < 6) (hk : ∀ (res : zTr) (o : Option Value) (M2 : ab_M), zTx (M 34) n 3 0 res → zRead M n w res o M2 → Q o M2 N) : ∀ (r i : Nat) (Os : List (List Int32)) (M1 : ab_M), zRdS M M1 n w r i Os → (∀ res, zTx (M 34) n r i res → zTx (M 34) n 3 0 (zTg Os res)) → zr_X8_read Q 41 [some (.ref 4), some (.int (nI Os.length))] [] M1 N := by
  have hn := hT.1
  -- a fault, from anywhere
  have bad : ∀ (M1 : ab_M) (p : Nat), (∀ c, c ≠ 4 → c ≠ 31 → c ≠ 32 → M1 c = M c) → M1 4 2 = M 4 2 → (∀ j, j < w * 160 → M1 31 j = M 31 j) → (∀ j, j < w * 3 → M1 32 j = M 32 j) → p ≤ n → zTx (M 34) n 3 0 (.inl p) → Q (some (.int (-100 - nI p))) M1 N := by
    intro M1 p g1 g2 g3 g4 hp hx
    refine hk _ _ _ hx ⟨fun c hc => ?_, g2, g3, g4, fun j _ => by rw [g1 3 (by decide) (by decide) (by decide)], Or.inl ⟨p, rfl, hp, rfl, by rw [g1 3 (by decide) (by decide) (by decide)]⟩⟩
    simp only [List.mem_cons, List.not_mem_nil, or_false, not_or] at hc
    exact g1 c hc.2.1 hc.2.2.1 hc.2.2.2
  intro r
  induction r with
  | zero =>
    intro i Os M1 g hG
    obtain ⟨g1, g2, g3, g4, g5, g6, g7, g8, g9, g10⟩ := g
    obtain ⟨b1, b2, b3, b4, b5⟩ := zTk_b (M 34) g4
    have l3 : Os.length = 3 := by omega
    rw [l3]
    have gl : ∀ j, j < w * 160 → M1 31 j = M 31 j := fun j hj => by rw [g7, zPut_lo _ _ _ _ (Or.inl hj)]
    refine zv_X8_read_41 _ ⟨fun _ => ?_, fun c => absurd (show nI 3 ≤ nI 3 from nI_le (by omega) (by omega)) c⟩
    rw [g3.1, g3.2.2.1, g1 3 (by decide) (by decide) (by decide), h3]
    refine ⟨fun c => ?_, fun c => bad M1 _ g1 g2 gl g10 b3 (hG (.inl _) (Or.inr ⟨c, rfl⟩))⟩
    intro z1
    match Os, l3 with
    | [O0, O1, O2], _ =>
      have e3 : z1 2 - 1 = nI w := by simp only [z1, upd_eq]; rw [nI_1, nI_pred]
      rw [e3]
      simp only [List.flatten_cons, List.flatten_nil, List.append_nil, List.length_append] at g5 g6 g7
      refine hk _ _ _ (hG (.inr []) (Or.inl ⟨c, rfl⟩)) ⟨fun q hq => ?_, ?_, fun j hj => ?_, fun j hj => ?_, fun j hj => ?_, Or.inr ⟨O0, O1, O2, rfl, rfl, ?_, by omega, ?_, ?_, ?_, ?_⟩⟩
      · simp only [List.mem_cons, List.not_mem_nil, or_false, not_or] at hq
        rw [ab_u_ne _ _ hq.1]
        exact g1 q hq.2.1 hq.2.2.1 hq.2.2.2
      · rw [ab_u_ne _ _ (by decide), g2]
      · rw [ab_u_ne _ _ (by decide)]; exact gl j hj
      · rw [ab_u_ne _ _ (by decide)]; exact g10 j hj
      · rw [ab_u_eq]; simp only [z1]; rw [upd_ne _ _ hj]
      · rw [ab_u_eq]; simp only [z1]; rw [upd_eq, nI_1]
      · rw [ab_u_ne _ _ (by decide)]
        have := g9 0 (by simp)
        simp at this
        exact this
      · rw [ab_u_ne _ _ (by decide)]
        have := g9 1 (by simp)
        simp at this
        rw [this, Nat.add_assoc]
      · rw [ab_u_ne _ _ (by decide)]
        have := g9 2 (by simp)
        simp at this
        rw [this]
        congr 1
        omega
      · intro j x hx
        rw [ab_u_ne _ _ (by decide), g7]
        rw [List.append_assoc] at hx
        exact zPut_in _ _ _ _ _ hx
  | succ r ih =>
    intro i Os M1 g hG
    obtain ⟨g1, g2, g3, g4, g5, g6, g7, g8, g9, g10⟩ := id g
    obtain ⟨b1, b2, b3, b4, b5⟩ := zTk_b (M 34) g4
    have gl : ∀ j, j < w * 160 → M1 31 j = M 31 j := fun j hj => by rw [g7, zPut_lo _ _ _ _ (Or.inl hj)]
    have e34 : M1 34 = M 34 := g1 34 (by decide) (by decide) (by decide)
    have e31 : M1 3 = M 3 := g1 3 (by decide) (by decide) (by decide)
    have hTp1 : zTp M1 n := ⟨hn, by rw [g2, hT.2.1], by rw [e34]; exact hT.2.2⟩
    refine zv_X8_read_41 _ ⟨fun c => absurd c (show ¬ nI 3 ≤ nI Os.length from nI_ge (by omega) (by omega)), fun _ => ?_⟩
    rw [g3.1, g3.2.2.1]
    have e7 : (7 : Int32) + nI Os.length = nI (9 - r) := by
      rw [show (7 : Int32) = nI 7 from rfl, nI_add, show 7 + Os.length = 9 - r by omega]
    rw [e7]
    refine ⟨fun c => ?_, fun c => bad M1 _ g1 g2 gl g10 b3 (hG (.inl _) (Or.inr ⟨c, rfl⟩))⟩
    have hne : ¬ (zTk (M 34) n i).1 = -1 := fun z => nI_m1 (m := 9 - r) (by omega) (c.symm.trans z)
    have hp : zPp M1 n w i (w * 160 + Os.flatten.length) := ⟨hTp1, by rw [e31, h3], hw, by rw [e34]; exact g3, g4, g5, by omega, by omega⟩
    refine zAdv_call hp (zPf_rf hp) (by rw [e34]; exact hne) (fun M2 k2 => zv_X8_read_69 _ ?_)
    rw [e34] at k2
    refine zP_call (e := 6) (o := 0) hp k2 (by simp; omega) (by omega) (by omega) rfl (fun b M3 i2 C k3 hP => zv_X8_read_74 _ _ ?_)
    rw [List.nil_append] at k3
    rw [e34] at hP
    obtain ⟨q1, q2, q3, q4, q5, q6⟩ := k3
    rw [e34] at q3
    have hl2 := hP.1
    obtain ⟨d1, d2, d3, d4, d5⟩ := zTk_b (M 34) q4
    have cn : zCnd 1 true (M 34) n 0 (zTk (M 34) n i).2.2.2 [] true := ⟨trivial, rfl, fun _ => rfl, fun z => absurd z (by decide)⟩
    have a1 : ∀ c, c ≠ 4 → c ≠ 31 → c ≠ 32 → M3 c = M c := fun c x y z => (q1 c x y).trans (g1 c x y z)
    have a2 : M3 4 2 = M 4 2 := q2.trans g2
    have a3 : ∀ j, j < w * 160 → M3 31 j = M 31 j := fun j hj => by rw [q6, zPut_lo _ _ _ _ (Or.inl (by omega))]; exact gl j hj
    have a4 : ∀ j, j < w * 3 → M3 32 j = M 32 j := fun j hj => by rw [q1 32 (by decide) (by decide)]; exact g10 j hj
    have bad2 : zR (M 34) n (zTk (M 34) n i).2.2.2 [] [] true (.inl (zTk (M 34) n i2).2.2.1) → Q (some (.int (-100 - M3 4 5))) M3 N := fun h => by
      rw [q3.2.2.1]
      exact bad M3 _ a1 a2 a3 a4 d3 (hG (.inl _) (Or.inl ⟨c, Or.inl ⟨_, h, rfl⟩⟩))
    refine ⟨fun e0 => ?_, fun e0 => ?_⟩
    · rcases hP.2 with ⟨rfl, -⟩ | ⟨-, hb⟩
      · exact absurd e0 (by decide)
      · exact bad2 (hb [] [] true cn)
    · rcases hP.2 with ⟨rfl, hx, hc, hg⟩ | ⟨z, -⟩
      · rw [q3.1]
        refine ⟨fun c4 => ?_, fun c4 => bad2 ?_⟩
        · have hne2 : ¬ (zTk (M 34) n i2).1 = -1 := by rw [c4]; decide
          have ncm : ¬ zCm (zTk (M 34) n i2).1 := by rw [c4]; unfold zCm; decide
          have yd : zR (M 34) n (zTk (M 34) n i).2.2.2 [] [] true (.inr ((zTk (M 34) n i2).2.2.2, C)) := hg (fun _ => ncm) [] [] true cn _ (zV_low trivial (zA_semi c4))
          have eix : nI w * 3 + nI Os.length = nI (w * 3 + Os.length) := by rw [zN_mul w 3 3, nI_add]
          rw [q1 3 (by decide) (by decide), e31, h3, eix]
          refine ⟨nI_in_ (by omega), ?_⟩
          intro z1
          have ez : z1 = upd (M3 32) (w * 3 + Os.length) (nI (w * 160 + Os.flatten.length + C.length)) := by
            simp only [z1]
            rw [nI_clamp (by omega), q5]
          clear_value z1
          subst ez
          refine zAdv_raw (n := n) (j := (zTk (M 34) n i2).2.2.2) ⟨hn, ?_, ?_⟩ (d5 hne2).2 ?_ (fun f f2 f7 hf => zv_X8_read_121 _ ?_)
          · rw [ab_u_ne _ _ (by decide), a2, hT.2.1]
          · rw [ab_u_ne _ _ (by decide), a1 34 (by decide) (by decide) (by decide)]; exact hT.2.2
          · rw [ab_u_ne _ _ (by decide)]; exact q3.2.2.2
          rw [nI_1]
          have ln : (Os ++ [C]).length = Os.length + 1 := by simp
          rw [← ln]
          have fl : (Os ++ [C]).flatten = Os.flatten ++ C := by simp
          refine ih (zTk (M 34) n i2).2.2.2 (Os ++ [C]) _ ⟨fun q x y z => ?_, ?_, ?_, (d5 hne2).2, ?_, ?_, ?_, by rw [ln]; omega, fun j hj => ?_, fun j hj => ?_⟩ (fun res hres => ?_)
          · rw [ab_u_ne _ _ x, ab_u_ne _ _ z]; exact a1 q x y z
          · rw [ab_u_eq, f2, ab_u_ne _ _ (by decide), a2]
          · rw [ab_u_eq]
            rw [ab_u_ne _ _ (by decide), a1 34 (by decide) (by decide) (by decide)] at hf
            exact hf
          · rw [ab_u_eq, f7, ab_u_ne _ _ (by decide), q5, fl, List.length_append, Nat.add_assoc]
          · rw [fl, List.length_append]; omega
          · rw [ab_u_ne _ _ (by decide), ab_u_ne _ _ (by decide), q6, g7, fl, zPut_app]
          · rw [ab_u_ne _ _ (by decide), ab_u_eq]
            by_cases ej : j = Os.length
            · subst ej
              rw [upd_eq, List.take_of_length_le (by rw [ln]; omega), fl, List.length_append, Nat.add_assoc]
            · rw [upd_ne _ _ (by omega), q1 32 (by decide) (by decide), g9 j (by omega), List.take_append_of_le_length (by omega)]
          · rw [ab_u_ne _ _ (by decide), ab_u_eq, upd_ne _ _ (by omega)]; exact a4 j hj
          · cases res with
            | inl p => exact hG (.inl p) (Or.inl ⟨c, Or.inr ⟨_, _, yd, Or.inl ⟨p, hres, rfl⟩⟩⟩)
            | inr l =>
              have := hG (.inr (C :: l)) (Or.inl ⟨c, Or.inr ⟨_, _, yd, Or.inr ⟨l, hres, rfl⟩⟩⟩)
              simpa [zTg] using this
        · by_cases cm : zCm (zTk (M 34) n i2).1
          · exact hc rfl cm [] [] true cn
          · refine hg (fun _ => cm) [] [] true cn _ (zV_low trivial (zA_top c4 ?_))
            simp only [List.mem_cons, List.not_mem_nil, or_false, not_or] at hx
            unfold zCm at cm
            unfold zSg
            grind
      · exact absurd z e0
theorem zE_X8_read (as : List Value) (M : ab_M) (N : ab_N) (k : ab_R) (hT : zt_X8_read as M N k) : ab_cs as ≤ 2 ∧ zr_X8_read k 0 (ab_en as) [] M N := by
  unfold zt_X8_read at hT
  split at hT
  case h_2 => exact hT.elim
  obtain ⟨rfl, n, w, hT, h3, hw, hk⟩ := hT
  refine ⟨Nat.le_of_ble_eq_true rfl, zv_X8_read_0 ?_⟩
  rw [h3]
  refine ⟨fun _ => ?_, fun c => absurd (show nI w < nI 6 from nI_lt hw (by omega)) c⟩
  intro z1 z2
  have ez : z2 = upd (upd (M 4) 6 0) 7 (nI (w * 160)) := by simp only [z2, z1]; rw [zN_mul w 160 160]
  clear_value z2
  subst ez
  rw [ab_u_u]
  refine zAdv_raw (n := n) (j := 0) ⟨hT.1, by rw [ab_u_eq, upd_ne _ _ (by decide), upd_ne _ _ (by decide), hT.2.1], by rw [ab_u_ne _ _ (by decide)]; exact hT.2.2⟩ (Nat.zero_le _) (by rw [ab_u_eq, upd_ne _ _ (by decide), upd_eq]; rfl) (fun f f2 f7 hf => zv_X8_read_39 ?_)
  rw [ab_u_ne _ _ (by decide)] at hf
  rw [ab_u_eq] at f2 f7
  rw [ab_u_u]
  refine zL_X8_read hT h3 hw hk 3 0 [] _ ⟨fun q x y z => by rw [ab_u_ne _ _ x], by rw [ab_u_eq, f2, upd_ne _ _ (by decide), upd_ne _ _ (by decide)], by rw [ab_u_eq]; exact hf, Nat.zero_le _, by rw [ab_u_eq, f7, upd_eq]; rfl, Nat.le_refl _, by rw [ab_u_ne _ _ (by decide)]; rfl, rfl, fun j hj => absurd hj (by simp), fun j hj => by rw [ab_u_ne _ _ (by decide)]⟩ (fun res hres => ?_)
  cases res with
  | inl p => exact hres
  | inr l => exact hres
abbrev zR_X8_read : Room := { frames := 59, cells := 0, slots := 0, locals := 1763 }
set_option maxRecDepth 20000 in
theorem zM_X8_read (l : Launch) : ab_Met l zw_C vwCl zZ_C yX8_read cX8_read 2 (some .int) zR_X8_read zt_X8_read := ab_ofRun (G := zg_X8_read) (P := zp_X8_read) rfl zo_X8_read (by decide +kernel) zl_cl zl_lamC zf_X8_ok zs_tabOK zc_X8_ok ab_Sta_nil (List.forall_mem_cons.mpr ⟨ab_callV zZ_C_ok (zM_X8_advance l) (ab_in 440 (by decide +kernel) rfl) (ab_in 437 (by decide +kernel) rfl) (ab_in 439 (by decide +kernel) rfl) (ab_inS (List.mem_of_getElem? (i := 0) (by decide +kernel)) rfl) (ab_in 5 (by decide +kernel) rfl) (by unfold ab_yok; decide +kernel) ⟨rfl, rfl⟩ (by decide) zV_X8_advance, List.forall_mem_cons.mpr ⟨ab_callV zZ_C_ok (zM_X8_either l) (ab_in 468 (by decide +kernel) rfl) (ab_in 465 (by decide +kernel) rfl) (ab_in 467 (by decide +kernel) rfl) (ab_inS (List.mem_of_getElem? (i := 4) (by decide +kernel)) rfl) (ab_in 5 (by decide +kernel) rfl) (by unfold ab_yok; decide +kernel) ⟨rfl, rfl⟩ (by decide) (zV_X8_either 6), List.forall_mem_nil _⟩⟩) (List.forall_mem_nil _) zE_X8_read
