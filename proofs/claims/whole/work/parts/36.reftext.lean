/-! the reference: a text's worth *)
-/
/-- transformers with what is only thought of: x -/
def ab_lq {α : Type} (pre : α → List Value → ab_M → ab_N → Prop) (post : α → ab_M → ab_N → Option Value → ab_M → ab_N → Prop) : ab_T := fun as M N k => ∃ (x : α) (r : List Value), as = .ref 0 :: r ∧ pre x r M N ∧ ∀ (o : Option Value) (M2 : ab_M) (N2 : ab_N), post x M N o M2 N2 → k o M2 N2
theorem ab_lq_mono {α : Type} (pre : α → List Value → ab_M → ab_N → Prop) (post : α → ab_M → ab_N → Option Value → ab_M → ab_N → Prop) : ab_mono (ab_lq pre post) := fun as M N k k2 hk ⟨x, r, a, b, c⟩ => ⟨x, r, a, b, fun o M2 N2 hp => hk o M2 N2 (c o M2 N2 hp)⟩
theorem ab_lq_v {α : Type} {pre : α → List Value → ab_M → ab_N → Prop} {post : α → ab_M → ab_N → Option Value → ab_M → ab_N → Prop} : ab_recv zw_M vwCl RX12 (ab_lq pre post) := fun as M N k ⟨x, r, a, b, c⟩ => by
  subst a
  exact ⟨_, _, _, _, _, _, rfl, rfl, rfl⟩
def zRc (c : Int32) : Int32 := if 0 ≤ c then 100000 + c else if -7 < c then -1 - c else if c = -7 then 13 else if c = -8 then 19 else if c = -9 then 11 else if c = -10 then 12 else if c = -11 then 14 else if c = -12 then 15 else if c = -13 then 16 else if c = -14 then 17 else 18
def zOkC (c : Int32) : Prop := -15 ≤ c ∧ c ≤ 9999
def zWfH : Nat → List Int32 → Prop
  | h, [] => h = 1
  | h, c :: r => zOkC c ∧ (if -7 < c then zWfH (h + 1) r else if -9 < c then 1 ≤ h ∧ zWfH h r else 2 ≤ h ∧ zWfH (h - 1) r)
def zEvL (nm : Nat → Int32) : List Int32 → List Int32 → List Int32
  | [], st => st
  | c :: r, st => zEvL nm r (zStep nm c st)
theorem zEval_L {code nm : Nat → Int32} : ∀ (C : List Int32) (n : Nat) (st : List Int32), (∀ (j : Nat) (x : Int32), C[j]? = some x → code (n + j) = x) → zEval code nm n C.length st = zEvL nm C st
  | [], n, st, h => rfl
  | c :: r, n, st, h => by
    show zEval code nm (n + 1) r.length (zStep nm (code n) st) = zEvL nm r (zStep nm c st)
    rw [show code n = c from h 0 c rfl]
    refine zEval_L r (n + 1) _ (fun j x hj => ?_)
    rw [show n + 1 + j = n + (j + 1) by omega]
    exact h (j + 1) x hj
def zTextEq (d M : ab_M) (t : Nat) : Prop := ∃ O0 O1 O2 : List Int32, zWfH 0 O0 ∧ zWfH 0 O1 ∧ zWfH 0 O2 ∧ O0.length + O1.length + O2.length ≤ 160 ∧ d 32 (t * 3) = nI (t * 160 + O0.length) ∧ d 32 (t * 3 + 1) = nI (t * 160 + O0.length + O1.length) ∧ d 32 (t * 3 + 2) = nI (t * 160 + O0.length + O1.length + O2.length) ∧ (∀ (j : Nat) (x : Int32), (O0 ++ O1 ++ O2)[j]? = some x → d 31 (t * 160 + j) = x) ∧ M 14 (4 * t) = 0 ∧ M 14 (4 * t + 1) = nI O0.length ∧ M 14 (4 * t + 2) = nI (O0.length + O1.length) ∧ M 14 (4 * t + 3) = nI (O0.length + O1.length + O2.length) ∧ ∀ (j : Nat) (x : Int32), (O0 ++ O1 ++ O2)[j]? = some x → M 13 (200 * t + j) = zRc x
theorem zGet_mid {A B C : List Int32} {j : Nat} {x : Int32} (h : B[j]? = some x) : (A ++ B ++ C)[A.length + j]? = some x := by
  have hj : j < B.length := (List.getElem?_eq_some_iff.mp h).1
  rw [List.append_assoc, List.getElem?_append_right (by omega), Nat.add_sub_cancel_left, List.getElem?_append_left hj]
  exact h
theorem zTextEq_part {d M : ab_M} {w th : Nat} (h : zTextEq d M w) (h3 : d 3 3 = nI w) (hw : w < 6) (hth : th < 3) : ∃ (a : Nat) (O : List Int32), zWfH 0 O ∧ a + O.length ≤ 160 ∧ M 14 (4 * w + th) = nI a ∧ M 14 (4 * w + th + 1) = nI (a + O.length) ∧ (∀ (j : Nat) (x : Int32), O[j]? = some x → M 13 (200 * w + (a + j)) = zRc x) ∧ ∀ nm, zVal d th nm = zTop (zEvL nm O []) := by
  obtain ⟨O0, O1, O2, w0, w1, w2, hl, e0, e1, e2, ec, r0, r1, r2, r3, rc⟩ := h
  have hc : (d 3 3).toNatClampNeg = w := by rw [h3, nI_clamp (by omega)]
  have i0 : ∀ (j : Nat) (x : Int32), O0[j]? = some x → (O0 ++ O1 ++ O2)[0 + j]? = some x := fun j x hj => by
    have hj2 : j < O0.length := (List.getElem?_eq_some_iff.mp hj).1
    rw [Nat.zero_add, List.append_assoc, List.getElem?_append_left hj2]
    exact hj
  have i2 : ∀ (j : Nat) (x : Int32), O2[j]? = some x → (O0 ++ O1 ++ O2)[O0.length + O1.length + j]? = some x := fun j x hj => by
    rw [List.getElem?_append_right (by rw [List.length_append]; omega), List.length_append, Nat.add_sub_cancel_left]
    exact hj
  match th, hth with
  | 0, _ =>
    refine ⟨0, O0, w0, by omega, r0, by rw [Nat.zero_add]; exact r1, fun j x hj => rc _ _ (i0 j x hj), fun nm => ?_⟩
    unfold zVal zFrom zTo
    rw [if_pos rfl, hc, show w * 3 + 0 = w * 3 from rfl, e0, nI_clamp (by omega), show w * 160 + O0.length - w * 160 = O0.length by omega, zEval_L O0 (w * 160) [] (fun j x hj => by rw [← Nat.zero_add j]; exact ec _ _ (i0 j x hj))]
  | 1, _ =>
    refine ⟨O0.length, O1, w1, by omega, r1, r2, fun j x hj => rc _ _ (zGet_mid hj), fun nm => ?_⟩
    unfold zVal zFrom zTo
    rw [if_neg (by decide), hc, show w * 3 + 1 - 1 = w * 3 from rfl, e0, e1, nI_clamp (by omega), nI_clamp (by omega), show w * 160 + O0.length + O1.length - (w * 160 + O0.length) = O1.length by omega, zEval_L O1 _ [] (fun j x hj => by rw [Nat.add_assoc]; exact ec _ _ (zGet_mid hj))]
  | 2, _ =>
    refine ⟨O0.length + O1.length, O2, w2, by omega, r2, r3, fun j x hj => rc _ _ (i2 j x hj), fun nm => ?_⟩
    unfold zVal zFrom zTo
    rw [if_neg (by decide), hc, show w * 3 + 2 - 1 = w * 3 + 1 from rfl, e1, e2, nI_clamp (by omega), nI_clamp (by omega), show w * 160 + O0.length + O1.length + O2.length - (w * 160 + O0.length + O1.length) = O2.length by omega, zEval_L O2 _ [] (fun j x hj => by rw [show w * 160 + O0.length + O1.length + j = w * 160 + (O0.length + O1.length + j) by omega]; exact ec _ _ (i2 j x hj))]
def zLawR (d M : ab_M) : Prop := ∃ w : Nat, w < 6 ∧ d 3 3 = nI w ∧ M 0 24 = nI w ∧ zTextEq d M w
def zt_X12_worth : ab_T := ab_lq (α := ab_M × Nat) (fun x r M _ => r = [.int (nI x.2)] ∧ x.2 < 3 ∧ zLawR x.1 M) (fun x M N o M2 N2 => N2 = N ∧ zFr [26] M M2 ∧ o = some (.int (zVal x.1 x.2 (M 27))))
theorem zt_X12_worth_mono : ab_mono zt_X12_worth := ab_lq_mono _ _
theorem zV_X12_worth : ab_recv zw_M vwCl RX12 zt_X12_worth := ab_lq_v
def zp_X12_worth : ab_P := [(0, .iconst 0, 1, [], [0]),
  (1, .istore_n 2, 2, [2], []),
  (2, .aload_n 0, 3, [0], []),
  (3, .getfield 65, 6, [], []),
  (6, .iconst 4, 7, [], [4]),
  (7, .aload_n 0, 8, [0], []),
  (8, .getfield 193, 11, [], []),
  (11, .imul, 12, [], []),
  (12, .iload_n 1, 13, [1], []),
  (13, .iadd, 14, [], []),
  (14, .iaload, 15, [], []),
  (15, .istore_n 3, 16, [3], []),
  (16, .iload_n 3, 17, [3], []),
  (17, .aload_n 0, 18, [0], []),
  (18, .getfield 65, 21, [], []),
  (21, .iconst 4, 22, [], [4]),
  (22, .aload_n 0, 23, [0], []),
  (23, .getfield 193, 26, [], []),
  (26, .imul, 27, [], []),
  (27, .iload_n 1, 28, [1], []),
  (28, .iadd, 29, [], []),
  (29, .iconst 1, 30, [], [1]),
  (30, .iadd, 31, [], []),
  (31, .iaload, 32, [], []),
  (32, .if_icmp .ge 165, 35, [197], []),
  (35, .aload_n 0, 36, [0], []),
  (36, .getfield 62, 39, [], []),
  (39, .sipush 200, 42, [], [200]),
  (42, .aload_n 0, 43, [0], []),
  (43, .getfield 193, 46, [], []),
  (46, .imul, 47, [], []),
  (47, .iload_n 3, 48, [3], []),
  (48, .iadd, 49, [], []),
  (49, .iaload, 50, [], []),
  (50, .istore 4, 52, [], []),
  (52, .iload 4, 54, [], []),
  (54, .ldc 242, 56, [], []),
  (56, .if_icmp .ge 10, 59, [66], []),
  (59, .iload 4, 61, [], []),
  (61, .bipush 11, 63, [], [11]),
  (63, .if_icmp .ge 37, 66, [100], []),
  (66, .aload_n 0, 67, [0], []),
  (67, .getfield 138, 70, [], []),
  (70, .iload_n 2, 71, [2], []),
  (71, .iload 4, 73, [], []),
  (73, .bipush 11, 75, [], [11]),
  (75, .if_icmp .ge 13, 78, [88], []),
  (78, .aload_n 0, 79, [0], []),
  (79, .getfield 141, 82, [], []),
  (82, .iload 4, 84, [], []),
  (84, .iaload, 85, [], []),
  (85, .goto 8, 88, [93], []),
  (88, .iload 4, 90, [], []),
  (90, .ldc 242, 92, [], []),
  (92, .isub, 93, [], []),
  (93, .iastore, 94, [], []),
  (94, .iinc 2 1, 97, [], [1]),
  (97, .goto 94, 100, [191], []),
  (100, .iload 4, 102, [], []),
  (102, .bipush 13, 104, [], [13]),
  (104, .if_icmp .ne 30, 107, [134], []),
  (107, .aload_n 0, 108, [0], []),
  (108, .getfield 138, 111, [], []),
  (111, .iload_n 2, 112, [2], []),
  (112, .iconst 1, 113, [], [1]),
  (113, .isub, 114, [], []),
  (114, .aload_n 0, 115, [0], []),
  (115, .getfield 138, 118, [], []),
  (118, .iload_n 2, 119, [2], []),
  (119, .iconst 1, 120, [], [1]),
  (120, .isub, 121, [], []),
  (121, .iaload, 122, [], []),
  (122, .ifCond .ne 7, 125, [129], []),
  (125, .iconst 1, 126, [], [1]),
  (126, .goto 4, 129, [130], []),
  (129, .iconst 0, 130, [], [0]),
  (130, .iastore, 131, [], []),
  (131, .goto 60, 134, [191], []),
  (134, .iload 4, 136, [], []),
  (136, .bipush 19, 138, [], [19]),
  (138, .if_icmp .ne 23, 141, [161], []),
  (141, .aload_n 0, 142, [0], []),
  (142, .getfield 138, 145, [], []),
  (145, .iload_n 2, 146, [2], []),
  (146, .iconst 1, 147, [], [1]),
  (147, .isub, 148, [], []),
  (148, .aload_n 0, 149, [0], []),
  (149, .getfield 138, 152, [], []),
  (152, .iload_n 2, 153, [2], []),
  (153, .iconst 1, 154, [], [1]),
  (154, .isub, 155, [], []),
  (155, .iaload, 156, [], []),
  (156, .ineg, 157, [], []),
  (157, .iastore, 158, [], []),
  (158, .goto 33, 161, [191], []),
  (161, .iinc 2 (-1), 164, [], [(-1)]),
  (164, .aload_n 0, 165, [0], []),
  (165, .getfield 138, 168, [], []),
  (168, .iload_n 2, 169, [2], []),
  (169, .iconst 1, 170, [], [1]),
  (170, .isub, 171, [], []),
  (171, .iload 4, 173, [], []),
  (173, .aload_n 0, 174, [0], []),
  (174, .getfield 138, 177, [], []),
  (177, .iload_n 2, 178, [2], []),
  (178, .iconst 1, 179, [], [1]),
  (179, .isub, 180, [], []),
  (180, .iaload, 181, [], []),
  (181, .aload_n 0, 182, [0], []),
  (182, .getfield 138, 185, [], []),
  (185, .iload_n 2, 186, [2], []),
  (186, .iaload, 187, [], []),
  (187, .invokestatic 257, 190, [], []),
  (190, .iastore, 191, [], []),
  (191, .iinc 3 1, 194, [], [1]),
  (194, .goto (-178), 197, [16], []),
  (197, .aload_n 0, 198, [0], []),
  (198, .getfield 138, 201, [], []),
  (201, .iconst 0, 202, [], [0]),
  (202, .iaload, 203, [], []),
  (203, .ireturn, 204, [], [])]
theorem zo_X12_worth : ab_ok cX12_worth zp_X12_worth = true := by decide +kernel
def zg_X12_worth : ab_G := (zw_M, [], zf_X12, zc_X12, [], [], [(257, 3, zt_X12_two)])
theorem zm_X12_worth : ab_MG zg_X12_worth := ab_MGof (List.forall_mem_nil _) (List.forall_mem_cons.mpr ⟨ab_pure_mono _, List.forall_mem_nil _⟩)
abbrev zr_X12_worth (Q : ab_R) : ab_K := ab_Run zg_X12_worth zp_X12_worth (some .int) 5 Q
set_option maxRecDepth 20000 in
theorem zv_X12_worth_0 {Q : ab_R} {M : ab_M} {N : ab_N} (l1 : Int32) (h : vp_in (((4 : Int32) * (M 0 24)) + l1) 24 ∧ (zr_X12_worth Q 16 [some (.ref 0), some (.int l1), some (.int (0 : Int32)), some (.int (M 14 (((4 : Int32) * (M 0 24)) + l1).toNatClampNeg)), none] [] M N)) : zr_X12_worth Q 0 [some (.ref 0), some (.int l1)] [] M N := ab_Run_s zm_X12_worth (sp := [(16, [true, true, true, true, false]), (66, [true, true, true, true, true])]) 123 h
set_option maxRecDepth 20000 in
theorem zv_X12_worth_16 {Q : ab_R} {M : ab_M} {N : ab_N} (l1 : Int32) (l2 : Int32) (l3 : Int32) (h : vp_in ((((4 : Int32) * (M 0 24)) + l1) + (1 : Int32)) 24 ∧ (((M 14 ((((4 : Int32) * (M 0 24)) + l1) + (1 : Int32)).toNatClampNeg) ≤ l3 → vp_in (0 : Int32) 200 ∧ (Q (some (.int (M 26 0))) M N)) ∧ (¬ ((M 14 ((((4 : Int32) * (M 0 24)) + l1) + (1 : Int32)).toNatClampNeg) ≤ l3) → vp_in (((200 : Int32) * (M 0 24)) + l3) 1200 ∧ (((100000 : Int32) ≤ (M 13 (((200 : Int32) * (M 0 24)) + l3).toNatClampNeg) → zr_X12_worth Q 66 [some (.ref 0), some (.int l1), some (.int l2), some (.int l3), some (.int (M 13 (((200 : Int32) * (M 0 24)) + l3).toNatClampNeg))] [] M N) ∧ (¬ ((100000 : Int32) ≤ (M 13 (((200 : Int32) * (M 0 24)) + l3).toNatClampNeg)) → ((11 : Int32) ≤ (M 13 (((200 : Int32) * (M 0 24)) + l3).toNatClampNeg) → ((M 13 (((200 : Int32) * (M 0 24)) + l3).toNatClampNeg) = (13 : Int32) → vp_in (l2 - (1 : Int32)) 200 ∧ (((M 26 (l2 - (1 : Int32)).toNatClampNeg) = 0 → vp_in (l2 - (1 : Int32)) 200 ∧ (let z1 : Nat → Int32 := upd (M 26) (l2 - (1 : Int32)).toNatClampNeg (1 : Int32); zr_X12_worth Q 16 [some (.ref 0), some (.int l1), some (.int l2), some (.int (l3 + (1 : Int32))), none] [] (ab_u M 26 z1) N)) ∧ (¬ ((M 26 (l2 - (1 : Int32)).toNatClampNeg) = 0) → vp_in (l2 - (1 : Int32)) 200 ∧ (let z2 : Nat → Int32 := upd (M 26) (l2 - (1 : Int32)).toNatClampNeg (0 : Int32); zr_X12_worth Q 16 [some (.ref 0), some (.int l1), some (.int l2), some (.int (l3 + (1 : Int32))), none] [] (ab_u M 26 z2) N)))) ∧ (¬ ((M 13 (((200 : Int32) * (M 0 24)) + l3).toNatClampNeg) = (13 : Int32)) → ((M 13 (((200 : Int32) * (M 0 24)) + l3).toNatClampNeg) = (19 : Int32) → vp_in (l2 - (1 : Int32)) 200 ∧ (vp_in (l2 - (1 : Int32)) 200 ∧ (let z3 : Nat → Int32 := upd (M 26) (l2 - (1 : Int32)).toNatClampNeg (-(M 26 (l2 - (1 : Int32)).toNatClampNeg)); zr_X12_worth Q 16 [some (.ref 0), some (.int l1), some (.int l2), some (.int (l3 + (1 : Int32))), none] [] (ab_u M 26 z3) N))) ∧ (¬ ((M 13 (((200 : Int32) * (M 0 24)) + l3).toNatClampNeg) = (19 : Int32)) → vp_in ((l2 + (-1 : Int32)) - (1 : Int32)) 200 ∧ (vp_in (l2 + (-1 : Int32)) 200 ∧ (vp_in ((l2 + (-1 : Int32)) - (1 : Int32)) 200 ∧ (let z4 : Nat → Int32 := upd (M 26) ((l2 + (-1 : Int32)) - (1 : Int32)).toNatClampNeg (zj2 (M 13 (((200 : Int32) * (M 0 24)) + l3).toNatClampNeg) (M 26 ((l2 + (-1 : Int32)) - (1 : Int32)).toNatClampNeg) (M 26 (l2 + (-1 : Int32)).toNatClampNeg)); zr_X12_worth Q 16 [some (.ref 0), some (.int l1), some (.int (l2 + (-1 : Int32))), some (.int (l3 + (1 : Int32))), none] [] (ab_u M 26 z4) N)))))) ∧ (¬ ((11 : Int32) ≤ (M 13 (((200 : Int32) * (M 0 24)) + l3).toNatClampNeg)) → zr_X12_worth Q 66 [some (.ref 0), some (.int l1), some (.int l2), some (.int l3), some (.int (M 13 (((200 : Int32) * (M 0 24)) + l3).toNatClampNeg))] [] M N)))))) : zr_X12_worth Q 16 [some (.ref 0), some (.int l1), some (.int l2), some (.int l3), none] [] M N := ab_Run_s zm_X12_worth (sp := [(16, [true, true, true, true, false]), (66, [true, true, true, true, true])]) 123 h
set_option maxRecDepth 20000 in
theorem zv_X12_worth_66 {Q : ab_R} {M : ab_M} {N : ab_N} (l1 : Int32) (l2 : Int32) (l3 : Int32) (l4 : Int32) (h : ((11 : Int32) ≤ l4 → vp_in l2 200 ∧ (let z1 : Nat → Int32 := upd (M 26) l2.toNatClampNeg (l4 - (100000 : Int32)); zr_X12_worth Q 16 [some (.ref 0), some (.int l1), some (.int (l2 + (1 : Int32))), some (.int (l3 + (1 : Int32))), none] [] (ab_u M 26 z1) N)) ∧ (¬ ((11 : Int32) ≤ l4) → vp_in l4 6 ∧ (vp_in l2 200 ∧ (let z2 : Nat → Int32 := upd (M 26) l2.toNatClampNeg (M 27 l4.toNatClampNeg); zr_X12_worth Q 16 [some (.ref 0), some (.int l1), some (.int (l2 + (1 : Int32))), some (.int (l3 + (1 : Int32))), none] [] (ab_u M 26 z2) N)))) : zr_X12_worth Q 66 [some (.ref 0), some (.int l1), some (.int l2), some (.int l3), some (.int l4)] [] M N := ab_Run_s zm_X12_worth (sp := [(16, [true, true, true, true, false]), (66, [true, true, true, true, true])]) 123 h
theorem zC_c {c : Int32} (h : zOkC c) : (0 ≤ c ∧ c ≤ 9999) ∨ (-7 < c ∧ c < 0) ∨ c = -7 ∨ c = -8 ∨ c = -9 ∨ c = -10 ∨ c = -11 ∨ c = -12 ∨ c = -13 ∨ c = -14 ∨ c = -15 := by
  obtain ⟨h1, h2⟩ := h
  have g1 := Int32.le_iff_toInt_le.mp h1
  have g2 := Int32.le_iff_toInt_le.mp h2
  rw [show (-15 : Int32).toInt = -15 by decide] at g1
  rw [show (9999 : Int32).toInt = 9999 by decide] at g2
  by_cases c0 : 0 ≤ c.toInt
  · exact Or.inl ⟨Int32.le_iff_toInt_le.mpr c0, h2⟩
  by_cases c1 : -7 < c.toInt
  · exact Or.inr (Or.inl ⟨Int32.lt_iff_toInt_lt.mpr c1, Int32.lt_iff_toInt_lt.mpr (by show c.toInt < 0; omega)⟩)
  have e : ∀ z : Int32, c.toInt = z.toInt → c = z := fun z q => Int32.toInt_inj.mp q
  have : c.toInt = -7 ∨ c.toInt = -8 ∨ c.toInt = -9 ∨ c.toInt = -10 ∨ c.toInt = -11 ∨ c.toInt = -12 ∨ c.toInt = -13 ∨ c.toInt = -14 ∨ c.toInt = -15 := by omega
  rcases this with q | q | q | q | q | q | q | q | q
  · exact Or.inr (Or.inr (Or.inl (e _ q)))
  · exact Or.inr (Or.inr (Or.inr (Or.inl (e _ q))))
  · exact Or.inr (Or.inr (Or.inr (Or.inr (Or.inl (e _ q)))))
  · exact Or.inr (Or.inr (Or.inr (Or.inr (Or.inr (Or.inl (e _ q))))))
  · exact Or.inr (Or.inr (Or.inr (Or.inr (Or.inr (Or.inr (Or.inl (e _ q)))))))
  · exact Or.inr (Or.inr (Or.inr (Or.inr (Or.inr (Or.inr (Or.inr (Or.inl (e _ q))))))))
  · exact Or.inr (Or.inr (Or.inr (Or.inr (Or.inr (Or.inr (Or.inr (Or.inr (Or.inl (e _ q)))))))))
  · exact Or.inr (Or.inr (Or.inr (Or.inr (Or.inr (Or.inr (Or.inr (Or.inr (Or.inr (Or.inl (e _ q))))))))))
  · exact Or.inr (Or.inr (Or.inr (Or.inr (Or.inr (Or.inr (Or.inr (Or.inr (Or.inr (Or.inr (e _ q))))))))))
theorem zL_X12_worth {Q : ab_R} {N : ab_N} (M0 : ab_M) (w th en : Nat) (res : Int32) (hw : w < 6) (hth : th < 3) (hen : en ≤ 160) (h24 : M0 0 24 = nI w) (h14 : M0 14 (4 * w + th + 1) = nI en) (hq : ∀ M2, zFr [26] M0 M2 → Q (some (.int res)) M2 N) : ∀ (C : List Int32) (q : Nat) (st : List Int32) (M : ab_M), q + C.length = en → st.length ≤ q → (∀ (j : Nat) (x : Int32), C[j]? = some x → M0 13 (200 * w + (q + j)) = zRc x) → zWfH st.length C → zFr [26] M0 M → zStk (M 26) st.length st → zTop (zEvL (M0 27) C st) = res → zr_X12_worth Q 16 [some (.ref 0), some (.int (nI th)), some (.int (nI st.length)), some (.int (nI q)), none] [] M N := by
  intro C
  induction C with
  | nil =>
    intro q st M hq1 hst hc hwf hF hS hE
    have e1 : 4 * nI w + nI th + 1 = nI (4 * w + th + 1) := by rw [show (4 : Int32) = nI 4 from rfl, pk_mul, nI_add, nI_1]
    refine zv_X12_worth_16 _ _ _ ?_
    rw [hF 0 (by decide), hF 14 (by decide), h24, e1, nI_clamp (by omega), h14]
    refine ⟨nI_in_ (by omega), fun _ => ⟨ab_vpk (by decide), ?_⟩, fun c => absurd (nI_le (by simp at hq1; omega) (by omega)) c⟩
    match st, hwf, hS, hE with
    | [x], _, hS, hE =>
      rw [show M 26 0 = x from hS.1, show x = res from hE]
      exact hq M hF
  | cons c r ih =>
    intro q st M hq1 hst hc hwf hF hS hE
    have hlen : q + r.length + 1 = en := by rw [← hq1, List.length_cons]; omega
    have e1 : 4 * nI w + nI th + 1 = nI (4 * w + th + 1) := by rw [show (4 : Int32) = nI 4 from rfl, pk_mul, nI_add, nI_1]
    have e2 : 200 * nI w + nI q = nI (200 * w + q) := by rw [show (200 : Int32) = nI 200 from rfl, pk_mul, nI_add]
    have ec : M0 13 (200 * w + q) = zRc c := hc 0 c rfl
    have hcn : ∀ (j : Nat) (x : Int32), r[j]? = some x → M0 13 (200 * w + (q + 1 + j)) = zRc x := fun j x hj => by
      rw [show q + 1 + j = q + (j + 1) by omega]
      exact hc (j + 1) x hj
    obtain ⟨hok, hwf⟩ := hwf
    have hE : zTop (zEvL (M0 27) r (zStep (M0 27) c st)) = res := hE
    refine zv_X12_worth_16 _ _ _ ?_
    rw [hF 0 (by decide), hF 14 (by decide), hF 13 (by decide), h24, e1, e2, nI_clamp (by omega), nI_clamp (by omega), h14, ec]
    refine ⟨nI_in_ (by omega), fun c0 => absurd c0 (nI_ge (by omega) (by omega)), fun _ => ⟨nI_in_ (by omega), ?_⟩⟩
    rw [nI_1]
    -- a push
    have push : ∀ v : Int32, -7 < c → zStep (M0 27) c st = v :: st → zr_X12_worth Q 16 [some (.ref 0), some (.int (nI th)), some (.int (nI (st.length + 1))), some (.int (nI q + 1)), none] [] (ab_u M 26 (upd (M 26) st.length v)) N := by
      intro v hc7 hv
      rw [if_pos hc7] at hwf
      rw [hv] at hE
      rw [nI_1]
      exact ih (q + 1) (v :: st) _ (by omega) (by rw [List.length_cons]; omega) hcn hwf (zFr_u hF (by decide) _) ⟨by rw [ab_u_eq, upd_eq], by rw [ab_u_eq]; exact zStk_upd _ hS (Nat.le_refl _)⟩ hE
    -- one on top
    have one : ∀ (x v : Int32) (s : List Int32), st = x :: s → ¬ -7 < c → -9 < c → zStep (M0 27) c (x :: s) = v :: s → zr_X12_worth Q 16 [some (.ref 0), some (.int (nI th)), some (.int (nI st.length)), some (.int (nI (q + 1))), none] [] (ab_u M 26 (upd (M 26) s.length v)) N := by
      intro x v s es hc7 hc9 hv
      rw [if_neg hc7, if_pos hc9] at hwf
      subst es
      rw [hv] at hE
      exact ih (q + 1) (v :: s) _ (by omega) (by simpa using Nat.le_succ_of_le hst) hcn hwf.2 (zFr_u hF (by decide) _) ⟨by rw [ab_u_eq, upd_eq], by rw [ab_u_eq]; exact zStk_upd _ hS.2 (Nat.le_refl _)⟩ hE
    have two : ∀ (x y v : Int32) (s : List Int32), st = y :: x :: s → ¬ -7 < c → ¬ -9 < c → zStep (M0 27) c (y :: x :: s) = v :: s → zr_X12_worth Q 16 [some (.ref 0), some (.int (nI th)), some (.int (nI (s.length + 1))), some (.int (nI (q + 1))), none] [] (ab_u M 26 (upd (M 26) s.length v)) N := by
      intro x y v s es hc7 hc9 hv
      rw [if_neg hc7, if_neg hc9] at hwf
      subst es
      rw [hv] at hE
      exact ih (q + 1) (v :: s) _ (by omega) (by simp only [List.length_cons] at hst ⊢; omega) hcn hwf.2 (zFr_u hF (by decide) _) ⟨by rw [ab_u_eq, upd_eq], by rw [ab_u_eq]; exact zStk_upd _ hS.2.2 (Nat.le_refl _)⟩ hE
    have sub1 : ∀ n : Nat, nI (n + 1) - 1 = nI n := nI_pred
    -- the signs between two
    have bin : c = -9 ∨ c = -10 ∨ c = -11 ∨ c = -12 ∨ c = -13 ∨ c = -14 ∨ c = -15 → ¬ (100000 : Int32) ≤ zRc c ∧ (11 : Int32) ≤ zRc c ∧ ¬ zRc c = 13 ∧ ¬ zRc c = 19 ∧ ¬ -7 < c ∧ ¬ -9 < c ∧ ∀ a b, zj2 (zRc c) a b = zj c a b := by
      rintro (rfl | rfl | rfl | rfl | rfl | rfl | rfl) <;> exact ⟨by decide, by decide, by decide, by decide, by decide, by decide, fun _ _ => rfl⟩
    have hst160 : st.length ≤ 160 := by omega
    rcases zC_c hok with h | h | h | h | h
    · have r1 : zRc c = 100000 + c := by unfold zRc; rw [if_pos h.1]
      have r2 : (100000 : Int32) ≤ 100000 + c := by grind
      have r3 : (11 : Int32) ≤ 100000 + c := by grind
      have r4 : (100000 : Int32) + c - 100000 = c := by grind
      have c7 : -7 < c := by grind
      rw [r1]
      refine ⟨fun _ => zv_X12_worth_66 _ _ _ _ ⟨fun _ => ⟨nI_in_ (by omega), ?_⟩, fun z => absurd r3 z⟩, fun z => absurd r2 z⟩
      rw [nI_clamp (by omega), r4, nI_1]
      exact push c c7 (by unfold zStep; rw [if_pos c7, if_neg (by grind)])
    · have r1 : zRc c = -1 - c := by unfold zRc; rw [if_neg (by grind), if_pos h.1]
      have r2 : ¬ (100000 : Int32) ≤ -1 - c := by grind
      have r3 : ¬ (11 : Int32) ≤ -1 - c := by grind
      have r5 : vp_in (-1 - c) 6 := ab_vp 6 rfl (by grind) (by grind)
      rw [r1]
      refine ⟨fun z => absurd z r2, fun _ => ⟨fun z => absurd z r3, fun _ => zv_X12_worth_66 _ _ _ _ ⟨fun z => absurd z r3, fun _ => ⟨r5, nI_in_ (by omega), ?_⟩⟩⟩⟩
      rw [nI_clamp (by omega), hF 27 (by decide), nI_1]
      exact push _ h.1 (by unfold zStep; rw [if_pos h.1, if_pos h.2])
    · subst h
      rw [if_neg (by decide), if_pos (by decide)] at hwf
      match st, hwf, hS, hst160 with
      | x :: s, hwf, hS, hst160 =>
        rw [List.length_cons] at hst160
        have hx : M 26 s.length = x := hS.1
        rw [List.length_cons, sub1, nI_clamp (show s.length < 2 ^ 31 by omega), hx]
        refine ⟨fun z => absurd z (by decide), fun _ => ⟨fun _ => ⟨fun _ => ⟨nI_in_ (by omega), fun z => ⟨nI_in_ (by omega), ?_⟩, fun z => ⟨nI_in_ (by omega), ?_⟩⟩, fun z => absurd (by decide) z⟩, fun z => absurd (by decide) z⟩⟩
        · exact one x 1 s rfl (by decide) (by decide) (by simp only [zStep, if_neg (show ¬ (-7 : Int32) < -7 by decide), if_pos (show (-9 : Int32) < -7 by decide), if_neg (show ¬ (-7 : Int32) = -8 by decide), if_pos z])
        · exact one x 0 s rfl (by decide) (by decide) (by simp only [zStep, if_neg (show ¬ (-7 : Int32) < -7 by decide), if_pos (show (-9 : Int32) < -7 by decide), if_neg (show ¬ (-7 : Int32) = -8 by decide), if_neg z])
      | [], hwf, _, _ => exact absurd hwf.1 (by decide)
    · subst h
      rw [if_neg (by decide), if_pos (by decide)] at hwf
      match st, hwf, hS, hst160 with
      | x :: s, hwf, hS, hst160 =>
        rw [List.length_cons] at hst160
        have hx : M 26 s.length = x := hS.1
        rw [List.length_cons, sub1, nI_clamp (show s.length < 2 ^ 31 by omega), hx]
        refine ⟨fun z => absurd z (by decide), fun _ => ⟨fun _ => ⟨fun z => absurd z (by decide), fun _ => ⟨fun _ => ⟨nI_in_ (by omega), nI_in_ (by omega), ?_⟩, fun z => absurd (by decide) z⟩⟩, fun z => absurd (by decide) z⟩⟩
        exact one x (-x) s rfl (by decide) (by decide) (by simp only [zStep, if_neg (show ¬ (-7 : Int32) < -8 by decide), if_pos (show (-9 : Int32) < -8 by decide), if_pos])
      | [], hwf, _, _ => exact absurd hwf.1 (by decide)
    · obtain ⟨b1, b2, b3, b4, b5, b6, b7⟩ := bin h
      rw [if_neg b5, if_neg b6] at hwf
      match st, hwf, hS, hst160 with
      | y :: x :: s, hwf, hS, hst160 =>
        simp only [List.length_cons] at hst160
        have hy : M 26 (s.length + 1) = y := hS.1
        have hx : M 26 s.length = x := hS.2.1
        simp only [List.length_cons, pk_m1, sub1]
        rw [nI_clamp (show s.length < 2 ^ 31 by omega), nI_clamp (show s.length + 1 < 2 ^ 31 by omega), hx, hy, b7]
        refine ⟨fun z => absurd z b1, fun _ => ⟨fun _ => ⟨fun z => absurd z b3, fun _ => ⟨fun z => absurd z b4, fun _ => ⟨nI_in_ (by omega), nI_in_ (by omega), nI_in_ (by omega), ?_⟩⟩⟩, fun z => absurd b2 z⟩⟩
        exact two x y (zj c x y) s rfl b5 b6 (by simp only [zStep, if_neg b5, if_neg b6])
      | [_], hwf, _, _ => exact absurd hwf.1 (show ¬ 2 ≤ 1 by decide)
      | [], hwf, _, _ => exact absurd hwf.1 (by decide)
theorem zE_X12_worth (as : List Value) (M : ab_M) (N : ab_N) (k : ab_R) (hT : zt_X12_worth as M N k) : ab_cs as ≤ 5 ∧ zr_X12_worth k 0 (ab_en as) [] M N := by
  obtain ⟨⟨d, th⟩, r, rfl, ⟨rfl, hth, w, hw, h3, h24, hx⟩, hk⟩ := hT
  obtain ⟨a, O, o1, o2, o3, o4, o5, o6⟩ := zTextEq_part hx h3 hw hth
  refine ⟨Nat.le_of_ble_eq_true rfl, zv_X12_worth_0 _ ?_⟩
  have e1 : 4 * nI w + nI th = nI (4 * w + th) := by rw [show (4 : Int32) = nI 4 from rfl, pk_mul, nI_add]
  dsimp only at hth ⊢
  rw [h24, e1, nI_clamp (by omega), o3]
  refine ⟨nI_in_ (by omega), ?_⟩
  refine zL_X12_worth M w th (a + O.length) (zVal d th (M 27)) hw hth o2 h24 o4 (fun M2 hF => hk _ _ _ ⟨rfl, hF, rfl⟩) O a [] M rfl (Nat.zero_le _) o5 o1 (zFr_rf _ _) trivial (o6 (M 27)).symm
abbrev zR_X12_worth : Room := { frames := 1, cells := 0, slots := 0, locals := 22 }
set_option maxRecDepth 20000 in
theorem zM_X12_worth (l : Launch) : ab_Met l zw_M vwCl zZ_M yX12_worth cX12_worth 5 (some .int) zR_X12_worth zt_X12_worth := ab_ofRun (G := zg_X12_worth) (P := zp_X12_worth) rfl zo_X12_worth (by decide +kernel) zl_cl zl_lamM zf_X12_ok ab_Tab_nil zc_X12_ok ab_Sta_nil (List.forall_mem_nil _) (List.forall_mem_cons.mpr ⟨ab_callS zZ_M_ok (zM_X12_two l) (ab_in 1289 (by decide +kernel) rfl) (ab_in 1287 (by decide +kernel) rfl) (ab_in 1288 (by decide +kernel) rfl) (ab_in 17 (by decide +kernel) rfl) (by unfold ab_yok; decide +kernel) ⟨rfl, rfl⟩ (by decide), List.forall_mem_nil _⟩) zE_X12_worth
