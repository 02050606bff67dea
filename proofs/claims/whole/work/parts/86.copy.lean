/-! copy, piecesBy *)
-/
theorem zSub32 {a b : Nat} (ha : a < 2 ^ 31) (hb : b < 2 ^ 31) : (nI a - nI b).toInt = (a : Int) - b := by
  rw [Int32.toInt_sub, nI_toInt ha, nI_toInt hb]
  exact Int.bmod_eq_of_le (by omega) (by omega)
theorem zSubLt32 {z e a : Nat} (hz : z < 2 ^ 31) (he : e < 2 ^ 31) (ha : a < 2 ^ 31) : nI z - nI e < nI a ↔ z < a + e := by
  rw [Int32.lt_iff_toInt_lt, zSub32 hz he, nI_toInt ha]
  omega
theorem zLeSub32 {z e a : Nat} (hz : z < 2 ^ 31) (he : e < 2 ^ 31) (ha : a < 2 ^ 31) : nI a ≤ nI z - nI e ↔ a + e ≤ z := by
  rw [Int32.le_iff_toInt_le, zSub32 hz he, nI_toInt ha]
  omega
abbrev zCyO (Z : Nat → Int32) (s i o j n : Int32) : Prop := (0 ≤ n ∧ 0 ≤ i ∧ 0 ≤ j) ∧ i.toNatClampNeg + n.toNatClampNeg ≤ (Z s.toNatClampNeg).toNatClampNeg ∧ j.toNatClampNeg + n.toNatClampNeg ≤ (Z o.toNatClampNeg).toNatClampNeg
def zCyA (S Z : Nat → Int32) (s i o j n : Int32) : Int32 := if zQ4 s ∧ zQ4 o then (if S s.toNatClampNeg = -1 ∨ S o.toNatClampNeg = -1 then -11 else if S s.toNatClampNeg = S o.toNatClampNeg then (if zCyO Z s i o j n then n else -12) else -13) else -2
abbrev zCyV (S Z : Nat → Int32) (s i o j n : Int32) : Prop := (zQ4 s ∧ zQ4 o) ∧ ¬ (S s.toNatClampNeg = -1 ∨ S o.toNatClampNeg = -1) ∧ S s.toNatClampNeg = S o.toNatClampNeg ∧ zCyO Z s i o j n
def zCyF (S Z f : Nat → Int32) (s i o j n : Int32) : Nat → Int32 := if zCyV S Z s i o j n then va_cpy f f (40 * s.toNatClampNeg + i.toNatClampNeg) (40 * o.toNatClampNeg + j.toNatClampNeg) n.toNatClampNeg else f
theorem zCy_leaf {k : ab_R} {S Z : Nat → Int32} {s i o j n : Int32} {M : ab_M} {N : ab_N} {c : Nat} (hk : k (some (.int (zCyA S Z s i o j n))) (ab_u M c (zCyF S Z (M c) s i o j n)) N) : (¬ (zQ4 s ∧ zQ4 o) → k (some (.int (-2))) M N) ∧ ((zQ4 s ∧ zQ4 o) → (S s.toNatClampNeg = -1 ∨ S o.toNatClampNeg = -1) → k (some (.int (-11))) M N) ∧ ((zQ4 s ∧ zQ4 o) → ¬ (S s.toNatClampNeg = -1 ∨ S o.toNatClampNeg = -1) → ¬ S s.toNatClampNeg = S o.toNatClampNeg → k (some (.int (-13))) M N) ∧ ((zQ4 s ∧ zQ4 o) → ¬ (S s.toNatClampNeg = -1 ∨ S o.toNatClampNeg = -1) → S s.toNatClampNeg = S o.toNatClampNeg → ¬ zCyO Z s i o j n → k (some (.int (-12))) M N) ∧ (zCyV S Z s i o j n → k (some (.int n)) (ab_u M c (va_cpy (M c) (M c) (40 * s.toNatClampNeg + i.toNatClampNeg) (40 * o.toNatClampNeg + j.toNatClampNeg) n.toNatClampNeg)) N) := by
  unfold zCyA zCyF at hk
  refine ⟨fun h => ?_, fun h h2 => ?_, fun h h2 h3 => ?_, fun h h2 h3 h4 => ?_, fun h => ?_⟩
  · have nv : ¬ zCyV S Z s i o j n := fun z => h z.1
    rw [if_neg h, if_neg nv, ab_u_id rfl] at hk; exact hk
  · have nv : ¬ zCyV S Z s i o j n := fun z => z.2.1 h2
    rw [if_pos h, if_pos h2, if_neg nv, ab_u_id rfl] at hk; exact hk
  · have nv : ¬ zCyV S Z s i o j n := fun z => h3 z.2.2.1
    rw [if_pos h, if_neg h2, if_neg h3, if_neg nv, ab_u_id rfl] at hk; exact hk
  · have nv : ¬ zCyV S Z s i o j n := fun z => h4 z.2.2.2
    rw [if_pos h, if_neg h2, if_pos h3, if_neg h4, if_neg nv, ab_u_id rfl] at hk; exact hk
  · rw [if_pos h.1, if_neg h.2.1, if_pos h.2.2.1, if_pos h.2.2.2, if_pos h] at hk; exact hk
def zt_X11_copy : ab_T := ab_m5 0 (fun _ _ _ _ _ M _ => zSh M) (fun s i o j n M N r M2 N2 => M2 = ab_u M 45 (zCyF (M 43) (M 44) (M 45) s i o j n) ∧ N2 = N ∧ r = some (.int (zCyA (M 43) (M 44) s i o j n)))
theorem zt_X11_copy_mono : ab_mono zt_X11_copy := ab_m5_mono _ _ _
theorem zV_X11_copy : ab_recv zw_C vwCl RX11 zt_X11_copy := ab_m5_v rfl rfl
def zp_X11_copy : ab_P := [(0, .aload_n 0, 1, [0], []),
  (1, .getfield 76, 4, [], []),
  (4, .iload_n 1, 5, [1], []),
  (5, .invokevirtual 278, 8, [], []),
  (8, .ifCond .eq 14, 11, [22], []),
  (11, .aload_n 0, 12, [0], []),
  (12, .getfield 76, 15, [], []),
  (15, .iload_n 3, 16, [3], []),
  (16, .invokevirtual 278, 19, [], []),
  (19, .ifCond .ne 6, 22, [25], []),
  (22, .bipush (-2), 24, [], [(-2)]),
  (24, .ireturn, 25, [], []),
  (25, .aload_n 0, 26, [0], []),
  (26, .getfield 76, 29, [], []),
  (29, .getfield 279, 32, [], []),
  (32, .iload_n 1, 33, [1], []),
  (33, .iaload, 34, [], []),
  (34, .iconst (-1), 35, [], [(-1)]),
  (35, .if_icmp .eq 16, 38, [51], []),
  (38, .aload_n 0, 39, [0], []),
  (39, .getfield 76, 42, [], []),
  (42, .getfield 279, 45, [], []),
  (45, .iload_n 3, 46, [3], []),
  (46, .iaload, 47, [], []),
  (47, .iconst (-1), 48, [], [(-1)]),
  (48, .if_icmp .ne 6, 51, [54], []),
  (51, .bipush (-11), 53, [], [(-11)]),
  (53, .ireturn, 54, [], []),
  (54, .aload_n 0, 55, [0], []),
  (55, .getfield 76, 58, [], []),
  (58, .getfield 279, 61, [], []),
  (61, .iload_n 1, 62, [1], []),
  (62, .iaload, 63, [], []),
  (63, .aload_n 0, 64, [0], []),
  (64, .getfield 76, 67, [], []),
  (67, .getfield 279, 70, [], []),
  (70, .iload_n 3, 71, [3], []),
  (71, .iaload, 72, [], []),
  (72, .if_icmp .eq 6, 75, [78], []),
  (75, .bipush (-13), 77, [], [(-13)]),
  (77, .ireturn, 78, [], []),
  (78, .iload 5, 80, [], []),
  (80, .ifCond .lt 45, 83, [125], []),
  (83, .iload_n 2, 84, [2], []),
  (84, .ifCond .lt 41, 87, [125], []),
  (87, .iload 4, 89, [], []),
  (89, .ifCond .lt 36, 92, [125], []),
  (92, .iload_n 2, 93, [2], []),
  (93, .aload_n 0, 94, [0], []),
  (94, .getfield 76, 97, [], []),
  (97, .getfield 282, 100, [], []),
  (100, .iload_n 1, 101, [1], []),
  (101, .iaload, 102, [], []),
  (102, .iload 5, 104, [], []),
  (104, .isub, 105, [], []),
  (105, .if_icmp .gt 20, 108, [125], []),
  (108, .iload 4, 110, [], []),
  (110, .aload_n 0, 111, [0], []),
  (111, .getfield 76, 114, [], []),
  (114, .getfield 282, 117, [], []),
  (117, .iload_n 3, 118, [3], []),
  (118, .iaload, 119, [], []),
  (119, .iload 5, 121, [], []),
  (121, .isub, 122, [], []),
  (122, .if_icmp .le 6, 125, [128], []),
  (125, .bipush (-12), 127, [], [(-12)]),
  (127, .ireturn, 128, [], []),
  (128, .aload_n 0, 129, [0], []),
  (129, .getfield 76, 132, [], []),
  (132, .getfield 333, 135, [], []),
  (135, .iload_n 1, 136, [1], []),
  (136, .bipush 40, 138, [], [40]),
  (138, .imul, 139, [], []),
  (139, .iload_n 2, 140, [2], []),
  (140, .iadd, 141, [], []),
  (141, .aload_n 0, 142, [0], []),
  (142, .getfield 76, 145, [], []),
  (145, .getfield 333, 148, [], []),
  (148, .iload_n 3, 149, [3], []),
  (149, .bipush 40, 151, [], [40]),
  (151, .imul, 152, [], []),
  (152, .iload 4, 154, [], []),
  (154, .iadd, 155, [], []),
  (155, .iload 5, 157, [], []),
  (157, .invokestatic 313, 160, [], []),
  (160, .iload 5, 162, [], []),
  (162, .ireturn, 163, [], [])]
theorem zo_X11_copy : ab_ok cX11_copy zp_X11_copy = true := by decide +kernel
def zg_X11_copy : ab_G := (zw_C, zs_tab, zf_X11, zc_X11, [(144, 50), (147, 51)], [(278, 2, zt_X7_has)], [(313, 5, zt_acopy zw_C)])
theorem zm_X11_copy : ab_MG zg_X11_copy := ab_MGof (List.forall_mem_cons.mpr ⟨ab_pure_mono _, List.forall_mem_nil _⟩) (List.forall_mem_cons.mpr ⟨zt_acopy_mono _, List.forall_mem_nil _⟩)
abbrev zr_X11_copy (Q : ab_R) : ab_K := ab_Run zg_X11_copy zp_X11_copy (some .int) 6 Q
set_option maxRecDepth 20000 in
theorem zv_X11_copy_0 {Q : ab_R} {M : ab_M} {N : ab_N} (l1 : Int32) (l2 : Int32) (l3 : Int32) (l4 : Int32) (l5 : Int32) (h : ((ab_b (0 ≤ l1 ∧ l1 < 4)) = 0 → Q (some (.int (-2 : Int32))) M N) ∧ (¬ ((ab_b (0 ≤ l1 ∧ l1 < 4)) = 0) → ((ab_b (0 ≤ l3 ∧ l3 < 4)) = 0 → Q (some (.int (-2 : Int32))) M N) ∧ (¬ ((ab_b (0 ≤ l3 ∧ l3 < 4)) = 0) → vp_in l1 4 ∧ (((M 43 l1.toNatClampNeg) = (-1 : Int32) → Q (some (.int (-11 : Int32))) M N) ∧ (¬ ((M 43 l1.toNatClampNeg) = (-1 : Int32)) → vp_in l3 4 ∧ (((M 43 l3.toNatClampNeg) = (-1 : Int32) → Q (some (.int (-11 : Int32))) M N) ∧ (¬ ((M 43 l3.toNatClampNeg) = (-1 : Int32)) → vp_in l1 4 ∧ (vp_in l3 4 ∧ (((M 43 l1.toNatClampNeg) = (M 43 l3.toNatClampNeg) → (l5 < 0 → Q (some (.int (-12 : Int32))) M N) ∧ (¬ (l5 < 0) → (l2 < 0 → Q (some (.int (-12 : Int32))) M N) ∧ (¬ (l2 < 0) → (l4 < 0 → Q (some (.int (-12 : Int32))) M N) ∧ (¬ (l4 < 0) → vp_in l1 4 ∧ ((((M 44 l1.toNatClampNeg) - l5) < l2 → Q (some (.int (-12 : Int32))) M N) ∧ (¬ (((M 44 l1.toNatClampNeg) - l5) < l2) → vp_in l3 4 ∧ ((l4 ≤ ((M 44 l3.toNatClampNeg) - l5) → zt_acopy zw_C [.ref 45, .int ((l1 * (40 : Int32)) + l2), .ref 45, .int ((l3 * (40 : Int32)) + l4), .int l5] M N (fun r M2 N2 => zr_X11_copy Q 160 [none, none, none, none, none, some (.int l5)] (ab_ol r []) M2 N2)) ∧ (¬ (l4 ≤ ((M 44 l3.toNatClampNeg) - l5)) → Q (some (.int (-12 : Int32))) M N)))))))) ∧ (¬ ((M 43 l1.toNatClampNeg) = (M 43 l3.toNatClampNeg)) → Q (some (.int (-13 : Int32))) M N)))))))))) : zr_X11_copy Q 0 [some (.ref 0), some (.int l1), some (.int l2), some (.int l3), some (.int l4), some (.int l5)] [] M N := ab_Run_s zm_X11_copy (sp := [(160, [false, false, false, false, false, true])]) 89 h
set_option maxRecDepth 20000 in
theorem zv_X11_copy_160 {Q : ab_R} {M : ab_M} {N : ab_N} (l5 : Int32) (h : Q (some (.int l5)) M N) : zr_X11_copy Q 160 [none, none, none, none, none, some (.int l5)] [] M N := ab_Run_s zm_X11_copy (sp := [(160, [false, false, false, false, false, true])]) 89 h
theorem zE_X11_copy (as : List Value) (M : ab_M) (N : ab_N) (k : ab_R) (hT : zt_X11_copy as M N k) : ab_cs as ≤ 6 ∧ zr_X11_copy k 0 (ab_en as) [] M N := by
  obtain ⟨s, i, o, j, n, rfl, hS, hk⟩ := ab_m5_e hT
  obtain ⟨g1, g2, g3, g4, g5⟩ := zCy_leaf (c := 45) (hk _ _ _ ⟨rfl, rfl, rfl⟩)
  refine ⟨Nat.le_of_ble_eq_true rfl, zv_X11_copy_0 _ _ _ _ _ ⟨fun c => g1 (fun z => ab_b_0.mp c (zQ4_c.mpr z.1)), fun c => ⟨fun c2 => g1 (fun z => ab_b_0.mp c2 (zQ4_c.mpr z.2)), fun c2 => ?_⟩⟩⟩
  have a1 := zQ4_c.mp (zIx0 c)
  have a2 := zQ4_c.mp (zIx0 c2)
  have a12 := And.intro a1 a2
  obtain ⟨qs, hqs, rfl⟩ := zQ4_n a1
  obtain ⟨qo, hqo, rfl⟩ := zQ4_n a2
  obtain ⟨zs, zs40, ezs⟩ := hS qs hqs
  obtain ⟨zo, zo40, ezo⟩ := hS qo hqo
  have cs : (nI qs).toNatClampNeg = qs := nI_clamp (by omega)
  have co : (nI qo).toNatClampNeg = qo := nI_clamp (by omega)
  have ins : vp_in (nI qs) 4 := nI_in_ hqs
  have ino : vp_in (nI qo) 4 := nI_in_ hqo
  have oiff : zCyO (M 44) (nI qs) i (nI qo) j n ↔ (0 ≤ n ∧ 0 ≤ i ∧ 0 ≤ j) ∧ i.toNatClampNeg + n.toNatClampNeg ≤ zs ∧ j.toNatClampNeg + n.toNatClampNeg ≤ zo := by
    unfold zCyO
    rw [cs, co, ezs, ezo, nI_clamp (show zs < 2 ^ 31 by omega), nI_clamp (show zo < 2 ^ 31 by omega)]
  unfold zCyV at g5
  rw [oiff] at g4 g5
  rw [cs, co] at g2 g3 g4 g5
  rw [cs, co, ezs, ezo]
  refine ⟨ins, fun c3 => g2 a12 (Or.inl c3), fun c3 => ⟨ino, fun c4 => g2 a12 (Or.inr c4), fun c4 => ⟨ins, ino, fun c5 => ?_, fun c5 => g3 a12 (fun z => z.elim c3 c4) c5⟩⟩⟩
  have nor : ¬ (M 43 qs = -1 ∨ M 43 qo = -1) := fun z => z.elim c3 c4
  have bad : ¬ ((0 ≤ n ∧ 0 ≤ i ∧ 0 ≤ j) ∧ i.toNatClampNeg + n.toNatClampNeg ≤ zs ∧ j.toNatClampNeg + n.toNatClampNeg ≤ zo) → k (some (.int (-12))) M N := fun z => g4 a12 nor c5 z
  refine ⟨fun c6 => bad (fun z => Int32.not_lt.mpr z.1.1 c6), fun c6 => ⟨fun c7 => bad (fun z => Int32.not_lt.mpr z.1.2.1 c7), fun c7 => ⟨fun c8 => bad (fun z => Int32.not_lt.mpr z.1.2.2 c8), fun c8 => ⟨ins, ?_⟩⟩⟩⟩
  have d6 := Int32.not_lt.mp c6
  have d7 := Int32.not_lt.mp c7
  have d8 := Int32.not_lt.mp c8
  obtain ⟨kn, hn, rfl⟩ := nI_ex d6
  obtain ⟨ki, hi, rfl⟩ := nI_ex d7
  obtain ⟨kj, hj, rfl⟩ := nI_ex d8
  rw [nI_clamp hn, nI_clamp hi, nI_clamp hj] at bad g5
  rw [zSubLt32 (by omega) hn hi, zLeSub32 (by omega) hn hj]
  refine ⟨fun c9 => bad (fun z => by omega), fun c9 => ⟨ino, fun c10 => ?_, fun c10 => bad (fun z => c10 z.2.2)⟩⟩
  have g5 := g5 ⟨a12, nor, c5, ⟨d6, d7, d8⟩, by omega, c10⟩
  rw [zN_mul qs 40 40, zN_mul qo 40 40, nI_add, nI_add, Nat.mul_comm qs 40, Nat.mul_comm qo 40]
  have e1 : (nI (40 * qs + ki)).toNatClampNeg = 40 * qs + ki := nI_clamp (by omega)
  have e2 : (nI (40 * qo + kj)).toNatClampNeg = 40 * qo + kj := nI_clamp (by omega)
  have e3 : (nI kn).toNatClampNeg = kn := nI_clamp hn
  have p1 : ∀ x : Nat, x < 2 ^ 31 → ¬ nI x < 0 := fun x hx => Int32.not_lt.mpr (nI_pos' hx)
  refine ⟨⟨p1 _ (by omega), p1 _ (by omega), p1 _ hn, by rw [e1, e3]; omega, by rw [e2, e3]; omega⟩, ?_⟩
  rw [e1, e2, e3]
  exact zv_X11_copy_160 _ g5
abbrev zR_X11_copy : Room := { frames := 1, cells := 0, slots := 0, locals := 26 }
set_option maxRecDepth 20000 in
theorem zM_X11_copy (l : Launch) : ab_Met l zw_C vwCl zZ_C yX11_copy cX11_copy 6 (some .int) zR_X11_copy zt_X11_copy := ab_ofRun (G := zg_X11_copy) (P := zp_X11_copy) rfl zo_X11_copy (by decide +kernel) zl_cl zl_lamC zf_X11_ok zs_tabOK zc_X11_ok zs_X11_ok (List.forall_mem_cons.mpr ⟨ab_callV zZ_C_ok (zM_X7_has l) (ab_in 621 (by decide +kernel) rfl) (ab_in 618 (by decide +kernel) rfl) (ab_in 619 (by decide +kernel) rfl) (ab_in 620 (by decide +kernel) rfl) (ab_in 10 (by decide +kernel) rfl) (by unfold ab_yok; decide +kernel) ⟨rfl, rfl⟩ (by decide) zV_X7_has, List.forall_mem_nil _⟩) (List.forall_mem_cons.mpr ⟨ab_callCopy (ab_in 915 (by decide +kernel) rfl) (ab_in 914 (by decide +kernel) rfl) (ab_in 913 (by decide +kernel) rfl) (ab_in 20 (by decide +kernel) rfl) (by decide) (by decide), List.forall_mem_nil _⟩) zE_X11_copy
def zt_X12_copy : ab_T := ab_lq (α := Int32 × Int32 × Int32 × Int32 × Int32) (fun x r M _ => r = [.int x.1, .int x.2.1, .int x.2.2.1, .int x.2.2.2.1, .int x.2.2.2.2] ∧ zShR M)
  (fun x M N r M2 N2 => M2 = ab_u M 23 (zCyF (M 21) (M 22) (M 23) x.1 x.2.1 x.2.2.1 x.2.2.2.1 x.2.2.2.2) ∧ N2 = N ∧ r = some (.int (zCyA (M 21) (M 22) x.1 x.2.1 x.2.2.1 x.2.2.2.1 x.2.2.2.2)))
theorem zt_X12_copy_mono : ab_mono zt_X12_copy := ab_lq_mono _ _
theorem zV_X12_copy : ab_recv zw_M vwCl RX12 zt_X12_copy := ab_lq_v
def zp_X12_copy : ab_P := [(0, .iload_n 1, 1, [1], []),
  (1, .iconst 0, 2, [], [0]),
  (2, .iconst 3, 3, [], [3]),
  (3, .invokestatic 175, 6, [], []),
  (6, .ifCond .eq 12, 9, [18], []),
  (9, .iload_n 3, 10, [3], []),
  (10, .iconst 0, 11, [], [0]),
  (11, .iconst 3, 12, [], [3]),
  (12, .invokestatic 175, 15, [], []),
  (15, .ifCond .ne 6, 18, [21], []),
  (18, .bipush (-2), 20, [], [(-2)]),
  (20, .ireturn, 21, [], []),
  (21, .aload_n 0, 22, [0], []),
  (22, .getfield 98, 25, [], []),
  (25, .iload_n 1, 26, [1], []),
  (26, .iaload, 27, [], []),
  (27, .iconst (-1), 28, [], [(-1)]),
  (28, .if_icmp .eq 13, 31, [41], []),
  (31, .aload_n 0, 32, [0], []),
  (32, .getfield 98, 35, [], []),
  (35, .iload_n 3, 36, [3], []),
  (36, .iaload, 37, [], []),
  (37, .iconst (-1), 38, [], [(-1)]),
  (38, .if_icmp .ne 6, 41, [44], []),
  (41, .bipush (-11), 43, [], [(-11)]),
  (43, .ireturn, 44, [], []),
  (44, .aload_n 0, 45, [0], []),
  (45, .getfield 98, 48, [], []),
  (48, .iload_n 1, 49, [1], []),
  (49, .iaload, 50, [], []),
  (50, .aload_n 0, 51, [0], []),
  (51, .getfield 98, 54, [], []),
  (54, .iload_n 3, 55, [3], []),
  (55, .iaload, 56, [], []),
  (56, .if_icmp .eq 6, 59, [62], []),
  (59, .bipush (-13), 61, [], [(-13)]),
  (61, .ireturn, 62, [], []),
  (62, .iload 5, 64, [], []),
  (64, .ifCond .lt 60, 67, [124], []),
  (67, .iload_n 2, 68, [2], []),
  (68, .ifCond .lt 56, 71, [124], []),
  (71, .iload 4, 73, [], []),
  (73, .ifCond .lt 51, 76, [124], []),
  (76, .iload_n 2, 77, [2], []),
  (77, .aload_n 0, 78, [0], []),
  (78, .getfield 101, 81, [], []),
  (81, .iload_n 1, 82, [1], []),
  (82, .iaload, 83, [], []),
  (83, .if_icmp .gt 41, 86, [124], []),
  (86, .iload 4, 88, [], []),
  (88, .aload_n 0, 89, [0], []),
  (89, .getfield 101, 92, [], []),
  (92, .iload_n 3, 93, [3], []),
  (93, .iaload, 94, [], []),
  (94, .if_icmp .gt 30, 97, [124], []),
  (97, .iload 5, 99, [], []),
  (99, .aload_n 0, 100, [0], []),
  (100, .getfield 101, 103, [], []),
  (103, .iload_n 1, 104, [1], []),
  (104, .iaload, 105, [], []),
  (105, .iload_n 2, 106, [2], []),
  (106, .isub, 107, [], []),
  (107, .if_icmp .gt 17, 110, [124], []),
  (110, .iload 5, 112, [], []),
  (112, .aload_n 0, 113, [0], []),
  (113, .getfield 101, 116, [], []),
  (116, .iload_n 3, 117, [3], []),
  (117, .iaload, 118, [], []),
  (118, .iload 4, 120, [], []),
  (120, .isub, 121, [], []),
  (121, .if_icmp .le 6, 124, [127], []),
  (124, .bipush (-12), 126, [], [(-12)]),
  (126, .ireturn, 127, [], []),
  (127, .bipush 40, 129, [], [40]),
  (129, .iload_n 1, 130, [1], []),
  (130, .imul, 131, [], []),
  (131, .iload_n 2, 132, [2], []),
  (132, .iadd, 133, [], []),
  (133, .istore 6, 135, [], []),
  (135, .bipush 40, 137, [], [40]),
  (137, .iload_n 3, 138, [3], []),
  (138, .imul, 139, [], []),
  (139, .iload 4, 141, [], []),
  (141, .iadd, 142, [], []),
  (142, .istore 7, 144, [], []),
  (144, .iconst 0, 145, [], [0]),
  (145, .istore 8, 147, [], []),
  (147, .iload 8, 149, [], []),
  (149, .iload 5, 151, [], []),
  (151, .if_icmp .ge 50, 154, [201], []),
  (154, .iload 6, 156, [], []),
  (156, .iload 7, 158, [], []),
  (158, .if_icmp .ge 13, 161, [171], []),
  (161, .iload 5, 163, [], []),
  (163, .iconst 1, 164, [], [1]),
  (164, .isub, 165, [], []),
  (165, .iload 8, 167, [], []),
  (167, .isub, 168, [], []),
  (168, .goto 5, 171, [173], []),
  (171, .iload 8, 173, [], []),
  (173, .istore 9, 175, [], []),
  (175, .aload_n 0, 176, [0], []),
  (176, .getfield 104, 179, [], []),
  (179, .iload 7, 181, [], []),
  (181, .iload 9, 183, [], []),
  (183, .iadd, 184, [], []),
  (184, .aload_n 0, 185, [0], []),
  (185, .getfield 104, 188, [], []),
  (188, .iload 6, 190, [], []),
  (190, .iload 9, 192, [], []),
  (192, .iadd, 193, [], []),
  (193, .iaload, 194, [], []),
  (194, .iastore, 195, [], []),
  (195, .iinc 8 1, 198, [], [1]),
  (198, .goto (-51), 201, [147], []),
  (201, .iload 5, 203, [], []),
  (203, .ireturn, 204, [], [])]
theorem zo_X12_copy : ab_ok cX12_copy zp_X12_copy = true := by decide +kernel
def zg_X12_copy : ab_G := (zw_M, [], zf_X12, zc_X12, [], [], [(175, 3, zt_X12_in)])
theorem zm_X12_copy : ab_MG zg_X12_copy := ab_MGof (List.forall_mem_nil _) (List.forall_mem_cons.mpr ⟨ab_pure_mono _, List.forall_mem_nil _⟩)
abbrev zr_X12_copy (Q : ab_R) : ab_K := ab_Run zg_X12_copy zp_X12_copy (some .int) 10 Q
set_option maxRecDepth 20000 in
theorem zv_X12_copy_0 {Q : ab_R} {M : ab_M} {N : ab_N} (l1 : Int32) (l2 : Int32) (l3 : Int32) (l4 : Int32) (l5 : Int32) (h : ((ab_b ((0 : Int32) ≤ l1 ∧ l1 ≤ (3 : Int32))) = 0 → Q (some (.int (-2 : Int32))) M N) ∧ (¬ ((ab_b ((0 : Int32) ≤ l1 ∧ l1 ≤ (3 : Int32))) = 0) → ((ab_b ((0 : Int32) ≤ l3 ∧ l3 ≤ (3 : Int32))) = 0 → Q (some (.int (-2 : Int32))) M N) ∧ (¬ ((ab_b ((0 : Int32) ≤ l3 ∧ l3 ≤ (3 : Int32))) = 0) → vp_in l1 4 ∧ (((M 21 l1.toNatClampNeg) = (-1 : Int32) → Q (some (.int (-11 : Int32))) M N) ∧ (¬ ((M 21 l1.toNatClampNeg) = (-1 : Int32)) → vp_in l3 4 ∧ (((M 21 l3.toNatClampNeg) = (-1 : Int32) → Q (some (.int (-11 : Int32))) M N) ∧ (¬ ((M 21 l3.toNatClampNeg) = (-1 : Int32)) → vp_in l1 4 ∧ (vp_in l3 4 ∧ (((M 21 l1.toNatClampNeg) = (M 21 l3.toNatClampNeg) → (l5 < 0 → Q (some (.int (-12 : Int32))) M N) ∧ (¬ (l5 < 0) → (l2 < 0 → Q (some (.int (-12 : Int32))) M N) ∧ (¬ (l2 < 0) → (l4 < 0 → Q (some (.int (-12 : Int32))) M N) ∧ (¬ (l4 < 0) → vp_in l1 4 ∧ (((M 22 l1.toNatClampNeg) < l2 → Q (some (.int (-12 : Int32))) M N) ∧ (¬ ((M 22 l1.toNatClampNeg) < l2) → vp_in l3 4 ∧ (((M 22 l3.toNatClampNeg) < l4 → Q (some (.int (-12 : Int32))) M N) ∧ (¬ ((M 22 l3.toNatClampNeg) < l4) → vp_in l1 4 ∧ ((((M 22 l1.toNatClampNeg) - l2) < l5 → Q (some (.int (-12 : Int32))) M N) ∧ (¬ (((M 22 l1.toNatClampNeg) - l2) < l5) → vp_in l3 4 ∧ ((l5 ≤ ((M 22 l3.toNatClampNeg) - l4) → zr_X12_copy Q 147 [some (.ref 0), none, none, none, none, some (.int l5), some (.int (((40 : Int32) * l1) + l2)), some (.int (((40 : Int32) * l3) + l4)), some (.int (0 : Int32)), none] [] M N) ∧ (¬ (l5 ≤ ((M 22 l3.toNatClampNeg) - l4)) → Q (some (.int (-12 : Int32))) M N)))))))))))) ∧ (¬ ((M 21 l1.toNatClampNeg) = (M 21 l3.toNatClampNeg)) → Q (some (.int (-13 : Int32))) M N)))))))))) : zr_X12_copy Q 0 [some (.ref 0), some (.int l1), some (.int l2), some (.int l3), some (.int l4), some (.int l5)] [] M N := ab_Run_s zm_X12_copy (sp := [(147, [true, false, false, false, false, true, true, true, true, false]), (173, [true, false, false, false, false, true, true, true, true, false])]) 119 h
set_option maxRecDepth 20000 in
theorem zv_X12_copy_147 {Q : ab_R} {M : ab_M} {N : ab_N} (l5 : Int32) (l6 : Int32) (l7 : Int32) (l8 : Int32) (h : (l5 ≤ l8 → Q (some (.int l5)) M N) ∧ (¬ (l5 ≤ l8) → (l7 ≤ l6 → zr_X12_copy Q 173 [some (.ref 0), none, none, none, none, some (.int l5), some (.int l6), some (.int l7), some (.int l8), none] [.int l8] M N) ∧ (¬ (l7 ≤ l6) → zr_X12_copy Q 173 [some (.ref 0), none, none, none, none, some (.int l5), some (.int l6), some (.int l7), some (.int l8), none] [.int ((l5 - (1 : Int32)) - l8)] M N))) : zr_X12_copy Q 147 [some (.ref 0), none, none, none, none, some (.int l5), some (.int l6), some (.int l7), some (.int l8), none] [] M N := ab_Run_s zm_X12_copy (sp := [(147, [true, false, false, false, false, true, true, true, true, false]), (173, [true, false, false, false, false, true, true, true, true, false])]) 119 h
set_option maxRecDepth 20000 in
theorem zv_X12_copy_173 {Q : ab_R} {M : ab_M} {N : ab_N} (l5 : Int32) (l6 : Int32) (l7 : Int32) (l8 : Int32) (s0 : Int32) (h : vp_in (l6 + s0) 160 ∧ (vp_in (l7 + s0) 160 ∧ (let z1 : Nat → Int32 := upd (M 23) (l7 + s0).toNatClampNeg (M 23 (l6 + s0).toNatClampNeg); zr_X12_copy Q 147 [some (.ref 0), none, none, none, none, some (.int l5), some (.int l6), some (.int l7), some (.int (l8 + (1 : Int32))), none] [] (ab_u M 23 z1) N))) : zr_X12_copy Q 173 [some (.ref 0), none, none, none, none, some (.int l5), some (.int l6), some (.int l7), some (.int l8), none] [.int s0] M N := ab_Run_s zm_X12_copy (sp := [(147, [true, false, false, false, false, true, true, true, true, false]), (173, [true, false, false, false, false, true, true, true, true, false])]) 119 h
theorem zL_X12_copyB {Q : ab_R} {N : ab_N} (M0 : ab_M) {a b n : Nat} (hab : a < b) (ha : a + n ≤ 160) (hb : b + n ≤ 160) (hk : Q (some (.int (nI n))) (ab_u M0 23 (va_cpy (M0 23) (M0 23) a b n)) N) : ∀ (r c : Nat) (f : Nat → Int32), c + r = n → (∀ j, f j = if b + (n - c) ≤ j ∧ j < b + n then M0 23 (a + (j - b)) else M0 23 j) → zr_X12_copy Q 147 [some (.ref 0), none, none, none, none, some (.int (nI n)), some (.int (nI a)), some (.int (nI b)), some (.int (nI c)), none] [] (ab_u M0 23 f) N := by
  intro r
  induction r with
  | zero =>
    intro c f hc hf
    have e : c = n := by omega
    subst e
    refine zv_X12_copy_147 _ _ _ _ ⟨fun _ => ?_, fun z => absurd (nI_le (Nat.le_refl _) (by omega)) z⟩
    have ef : f = va_cpy (M0 23) (M0 23) a b c := funext fun j => by
      rw [hf j]
      unfold va_cpy
      rw [show b + (c - c) = b by omega]
    rw [ef]
    exact hk
  | succ r ih =>
    intro c f hc hf
    refine zv_X12_copy_147 _ _ _ _ ⟨fun z => absurd z (nI_ge (by omega) (by omega)), fun _ => ⟨fun z => absurd z (nI_ge hab (by omega)), fun _ => ?_⟩⟩
    have ex : nI n - 1 - nI c = nI (n - 1 - c) := by
      rw [show n = (n - 1) + 1 by omega, nI_pred, pk_sub (by omega)]
      rfl
    rw [ex]
    refine zv_X12_copy_173 _ _ _ _ _ ?_
    rw [nI_add, nI_add, nI_clamp (show a + (n - 1 - c) < 2 ^ 31 by omega), nI_clamp (show b + (n - 1 - c) < 2 ^ 31 by omega), nI_1]
    refine ⟨nI_in_ (by omega), nI_in_ (by omega), ?_⟩
    intro z1
    rw [ab_u_u]
    refine ih (c + 1) z1 (by omega) (fun j => ?_)
    show upd (ab_u M0 23 f 23) _ (ab_u M0 23 f 23 _) j = _
    rw [ab_u_eq]
    by_cases e : j = b + (n - 1 - c)
    · rw [e, upd_eq, hf, if_neg (by omega), if_pos (by omega)]
      congr 1
      omega
    · rw [upd_ne _ _ e, hf j]
      by_cases q : b + (n - c) ≤ j ∧ j < b + n
      · rw [if_pos q, if_pos (by omega)]
      · rw [if_neg q, if_neg (by omega)]
theorem zL_X12_copyF {Q : ab_R} {N : ab_N} (M0 : ab_M) {a b n : Nat} (hab : b ≤ a) (ha : a + n ≤ 160) (hb : b + n ≤ 160) (hk : Q (some (.int (nI n))) (ab_u M0 23 (va_cpy (M0 23) (M0 23) a b n)) N) : ∀ (r c : Nat) (f : Nat → Int32), c + r = n → (∀ j, f j = if b ≤ j ∧ j < b + c then M0 23 (a + (j - b)) else M0 23 j) → zr_X12_copy Q 147 [some (.ref 0), none, none, none, none, some (.int (nI n)), some (.int (nI a)), some (.int (nI b)), some (.int (nI c)), none] [] (ab_u M0 23 f) N := by
  intro r
  induction r with
  | zero =>
    intro c f hc hf
    have e : c = n := by omega
    subst e
    refine zv_X12_copy_147 _ _ _ _ ⟨fun _ => ?_, fun z => absurd (nI_le (Nat.le_refl _) (by omega)) z⟩
    have ef : f = va_cpy (M0 23) (M0 23) a b c := funext fun j => by
      rw [hf j]
      rfl
    rw [ef]
    exact hk
  | succ r ih =>
    intro c f hc hf
    refine zv_X12_copy_147 _ _ _ _ ⟨fun z => absurd z (nI_ge (by omega) (by omega)), fun _ => ⟨fun _ => ?_, fun z => absurd (nI_le hab (by omega)) z⟩⟩
    refine zv_X12_copy_173 _ _ _ _ _ ?_
    rw [nI_add, nI_add, nI_clamp (show a + c < 2 ^ 31 by omega), nI_clamp (show b + c < 2 ^ 31 by omega), nI_1]
    refine ⟨nI_in_ (by omega), nI_in_ (by omega), ?_⟩
    intro z1
    rw [ab_u_u]
    refine ih (c + 1) z1 (by omega) (fun j => ?_)
    show upd (ab_u M0 23 f 23) _ (ab_u M0 23 f 23 _) j = _
    rw [ab_u_eq]
    by_cases e : j = b + c
    · rw [e, upd_eq, hf, if_neg (by omega), if_pos (by omega)]
      congr 1
      omega
    · rw [upd_ne _ _ e, hf j]
      by_cases q : b ≤ j ∧ j < b + c
      · rw [if_pos q, if_pos (by omega)]
      · rw [if_neg q, if_neg (by omega)]
theorem zE_X12_copy (as : List Value) (M : ab_M) (N : ab_N) (k : ab_R) (hT : zt_X12_copy as M N k) : ab_cs as ≤ 10 ∧ zr_X12_copy k 0 (ab_en as) [] M N := by
  obtain ⟨⟨s, i, o, j, n⟩, r, rfl, ⟨rfl, hS⟩, hk⟩ := hT
  dsimp only at hk ⊢
  obtain ⟨g1, g2, g3, g4, g5⟩ := zCy_leaf (c := 23) (hk _ _ _ ⟨rfl, rfl, rfl⟩)
  refine ⟨Nat.le_of_ble_eq_true rfl, zv_X12_copy_0 _ _ _ _ _ ⟨fun c => g1 (fun z => ab_b_0.mp c z.1), fun c => ⟨fun c2 => g1 (fun z => ab_b_0.mp c2 z.2), fun c2 => ?_⟩⟩⟩
  have a1 : zQ4 s := zIx0 c
  have a2 : zQ4 o := zIx0 c2
  have a12 := And.intro a1 a2
  obtain ⟨qs, hqs, rfl⟩ := zQ4_n a1
  obtain ⟨qo, hqo, rfl⟩ := zQ4_n a2
  obtain ⟨zs, zs40, ezs⟩ := hS qs hqs
  obtain ⟨zo, zo40, ezo⟩ := hS qo hqo
  have cs : (nI qs).toNatClampNeg = qs := nI_clamp (by omega)
  have co : (nI qo).toNatClampNeg = qo := nI_clamp (by omega)
  have ins : vp_in (nI qs) 4 := nI_in_ hqs
  have ino : vp_in (nI qo) 4 := nI_in_ hqo
  have oiff : zCyO (M 22) (nI qs) i (nI qo) j n ↔ (0 ≤ n ∧ 0 ≤ i ∧ 0 ≤ j) ∧ i.toNatClampNeg + n.toNatClampNeg ≤ zs ∧ j.toNatClampNeg + n.toNatClampNeg ≤ zo := by
    unfold zCyO
    rw [cs, co, ezs, ezo, nI_clamp (show zs < 2 ^ 31 by omega), nI_clamp (show zo < 2 ^ 31 by omega)]
  unfold zCyV at g5
  rw [oiff] at g4 g5
  rw [cs, co] at g2 g3 g4 g5
  rw [cs, co, ezs, ezo]
  refine ⟨ins, fun c3 => g2 a12 (Or.inl c3), fun c3 => ⟨ino, fun c4 => g2 a12 (Or.inr c4), fun c4 => ⟨ins, ino, fun c5 => ?_, fun c5 => g3 a12 (fun z => z.elim c3 c4) c5⟩⟩⟩
  have nor : ¬ (M 21 qs = -1 ∨ M 21 qo = -1) := fun z => z.elim c3 c4
  have bad : ¬ ((0 ≤ n ∧ 0 ≤ i ∧ 0 ≤ j) ∧ i.toNatClampNeg + n.toNatClampNeg ≤ zs ∧ j.toNatClampNeg + n.toNatClampNeg ≤ zo) → k (some (.int (-12))) M N := fun z => g4 a12 nor c5 z
  refine ⟨fun c6 => bad (fun z => Int32.not_lt.mpr z.1.1 c6), fun c6 => ⟨fun c7 => bad (fun z => Int32.not_lt.mpr z.1.2.1 c7), fun c7 => ⟨fun c8 => bad (fun z => Int32.not_lt.mpr z.1.2.2 c8), fun c8 => ⟨ins, ?_⟩⟩⟩⟩
  have d6 := Int32.not_lt.mp c6
  have d7 := Int32.not_lt.mp c7
  have d8 := Int32.not_lt.mp c8
  obtain ⟨kn, hn, rfl⟩ := nI_ex d6
  obtain ⟨ki, hi, rfl⟩ := nI_ex d7
  obtain ⟨kj, hj, rfl⟩ := nI_ex d8
  rw [nI_clamp hn, nI_clamp hi, nI_clamp hj] at bad g5
  rw [zSubLt32 (by omega) hi hn, zLeSub32 (by omega) hj hn]
  refine ⟨fun c9 => bad (fun z => by have := (nI_ltI (by omega) hi).mp c9; omega), fun c9 => ⟨ino, fun c9 => bad (fun z => by have := (nI_ltI (by omega) hj).mp c9; omega), fun c9 => ⟨ins, fun c10 => bad (fun z => by omega), fun c10 => ⟨ino, fun c11 => ?_, fun c11 => bad (fun z => by omega)⟩⟩⟩⟩
  have g5 := g5 ⟨a12, nor, c5, ⟨d6, d7, d8⟩, by omega, by omega⟩
  rw [zSh_i, zSh_i]
  by_cases hab : 40 * qs + ki < 40 * qo + kj
  · have := zL_X12_copyB (Q := k) (N := N) M hab (n := kn) (by omega) (by omega) g5 kn 0 (M 23) (by omega) (fun j => by rw [if_neg (by omega)])
    rw [ab_u_id rfl] at this
    exact this
  · have := zL_X12_copyF (Q := k) (N := N) M (Nat.not_lt.mp hab) (n := kn) (by omega) (by omega) g5 kn 0 (M 23) (by omega) (fun j => by rw [if_neg (by omega)])
    rw [ab_u_id rfl] at this
    exact this
abbrev zR_X12_copy : Room := { frames := 1, cells := 0, slots := 0, locals := 22 }
set_option maxRecDepth 20000 in
theorem zM_X12_copy (l : Launch) : ab_Met l zw_M vwCl zZ_M yX12_copy cX12_copy 10 (some .int) zR_X12_copy zt_X12_copy := ab_ofRun (G := zg_X12_copy) (P := zp_X12_copy) rfl zo_X12_copy (by decide +kernel) zl_cl zl_lamM zf_X12_ok ab_Tab_nil zc_X12_ok ab_Sta_nil (List.forall_mem_nil _) (List.forall_mem_cons.mpr ⟨ab_callS zZ_M_ok (zM_X12_in l) (ab_in 1200 (by decide +kernel) rfl) (ab_in 1198 (by decide +kernel) rfl) (ab_in 1199 (by decide +kernel) rfl) (ab_in 17 (by decide +kernel) rfl) (by unfold ab_yok; decide +kernel) ⟨rfl, rfl⟩ (by decide), List.forall_mem_nil _⟩) zE_X12_copy
