/-! the class: what is asked of a night *)
-/
abbrev zQc : List Nat := [8, 11, 33, 35, 36, 37, 38, 39, 40, 41, 42]
theorem zHasN_k {k n : Nat} (hk : k < 2 ^ 31) (hn : n < 2 ^ 31) : zHasN (nI k) n ↔ k < n := by
  constructor
  · intro h
    obtain ⟨j, hj, e⟩ := zIxN hn h
    rw [(nI_eq hk (by omega)).mp e]
    exact hj
  · intro h
    refine ⟨nI_pos' hk, ?_⟩
    rw [show n = (n - 1) + 1 by omega, nI_pred]
    exact nI_le (by omega) (by omega)
theorem zIc {l : Int32} {n c : Nat} (h : n ≤ c) (hc : c < 2 ^ 31) : (0 ≤ l ∧ l < nI n ∧ l < nI c) ↔ zHasN l n := by
  constructor
  · rintro ⟨a, b, -⟩
    obtain ⟨k, hk, rfl⟩ := nI_ex a
    exact (zHasN_k hk (by omega)).mpr ((nI_ltI hk (by omega)).mp b)
  · intro a
    obtain ⟨k, hk, rfl⟩ := zIxN (by omega) a
    exact ⟨nI_pos' (by omega), nI_lt hk (by omega), nI_lt (by omega) hc⟩
theorem zIcn {l C : Int32} {n c : Nat} (h : n ≤ c) (hC : C = nI c) (hc : c < 2 ^ 31) (q : ab_b (0 ≤ l ∧ l < nI n ∧ l < C) = 0) : ¬ zHasN l n := fun z => ab_b_0.mp q (by rw [hC]; exact (zIc h hc).mpr z)
theorem zIcp {l C : Int32} {n c : Nat} (h : n ≤ c) (hC : C = nI c) (hc : c < 2 ^ 31) (q : ¬ ab_b (0 ≤ l ∧ l < nI n ∧ l < C) = 0) : zHasN l n := (zIc h hc).mp (by rw [← hC]; exact zIx0 q)
theorem zCn {M : ab_M} (h : zNight M) : M 1 4 = nI (zPcs M) ∧ zPcs M ≤ 8 ∧ M 2 6 = nI (zMen M) ∧ zMen M ≤ 5 ∧ M 17 0 = nI (zHrs M) ∧ zHrs M ≤ 12 ∧ M 17 1 = nI (zBrk M) ∧ zBrk M ≤ 6 ∧ 2 ≤ zBrk M :=
  ⟨(zP_eq h.2.1).1, (zP_eq h.2.1).2, (zM_eq h.2.1).1, (zM_eq h.2.1).2, (zH_eq h.2.1).1, (zH_eq h.2.1).2, (zB_eq h.2.1).1, (zB_eq h.2.1).2.1, (zB_eq h.2.1).2.2⟩
def zt_X11_where : ab_T := ab_m2 0 (fun _ _ M _ => zNight M) (fun m h M N o M2 N2 => zFr zQc M M2 ∧ zAsks M2 ∧ o = some (.int (zWhA M m h)))
theorem zt_X11_where_mono : ab_mono zt_X11_where := ab_m2_mono _ _ _
theorem zV_X11_where : ab_recv zw_C vwCl RX11 zt_X11_where := ab_m2_v rfl rfl
def zp_X11_where : ab_P := [(0, .aload_n 0, 1, [0], []),
  (1, .getfield 19, 4, [], []),
  (4, .iload_n 1, 5, [1], []),
  (5, .invokevirtual 179, 8, [], []),
  (8, .ifCond .ne 6, 11, [14], []),
  (11, .bipush (-5), 13, [], [(-5)]),
  (13, .ireturn, 14, [], []),
  (14, .aload_n 0, 15, [0], []),
  (15, .getfield 10, 18, [], []),
  (18, .iload_n 2, 19, [2], []),
  (19, .invokevirtual 195, 22, [], []),
  (22, .ifCond .ne 6, 25, [28], []),
  (25, .bipush (-7), 27, [], [(-7)]),
  (27, .ireturn, 28, [], []),
  (28, .aload_n 0, 29, [0], []),
  (29, .getfield 53, 32, [], []),
  (32, .invokevirtual 198, 35, [], []),
  (35, .aload_n 0, 36, [0], []),
  (36, .getfield 53, 39, [], []),
  (39, .iload_n 1, 40, [1], []),
  (40, .iload_n 2, 41, [2], []),
  (41, .invokevirtual 201, 44, [], []),
  (44, .ireturn, 45, [], [])]
theorem zo_X11_where : ab_ok cX11_where zp_X11_where = true := by decide +kernel
def zg_X11_where : ab_G := (zw_C, zs_tab, zf_X11, zc_X11, [(144, 50), (147, 51)], [(179, 2, zt_X5_has), (195, 2, zt_X2_hasHour), (198, 1, zt_X10_go), (201, 3, zt_X10_placeOf)], [])
theorem zm_X11_where : ab_MG zg_X11_where := ab_MGof (List.forall_mem_cons.mpr ⟨ab_pure_mono _, List.forall_mem_cons.mpr ⟨ab_pure_mono _, List.forall_mem_cons.mpr ⟨zt_X10_go_mono, List.forall_mem_cons.mpr ⟨ab_pp_mono _, List.forall_mem_nil _⟩⟩⟩⟩) (List.forall_mem_nil _)
abbrev zr_X11_where (Q : ab_R) : ab_K := ab_Run zg_X11_where zp_X11_where (some .int) 3 Q
set_option maxRecDepth 20000 in
theorem zv_X11_where_0 {Q : ab_R} {M : ab_M} {N : ab_N} (l1 : Int32) (l2 : Int32) (h : ((ab_b (0 ≤ l1 ∧ l1 < (M 2) 6 ∧ l1 < 5)) = 0 → Q (some (.int (-5 : Int32))) M N) ∧ (¬ ((ab_b (0 ≤ l1 ∧ l1 < (M 2) 6 ∧ l1 < 5)) = 0) → ((ab_b (0 ≤ l2 ∧ l2 < (M 17) 0 ∧ l2 < 12)) = 0 → Q (some (.int (-7 : Int32))) M N) ∧ (¬ ((ab_b (0 ≤ l2 ∧ l2 < (M 17) 0 ∧ l2 < 12)) = 0) → zt_X10_go [.ref 6] M N (fun r M2 N2 => zr_X11_where Q 35 [some (.ref 0), some (.int l1), some (.int l2)] (ab_ol r []) M2 N2)))) : zr_X11_where Q 0 [some (.ref 0), some (.int l1), some (.int l2)] [] M N := ab_Run_s zm_X11_where (sp := [(35, [true, true, true])]) 25 h
set_option maxRecDepth 20000 in
theorem zv_X11_where_35 {Q : ab_R} {M : ab_M} {N : ab_N} (l1 : Int32) (l2 : Int32) (h : (vp_in (l2 * 5 + l1) 60) ∧ (Q (some (.int ((M 37) (l2 * 5 + l1).toNatClampNeg))) M N)) : zr_X11_where Q 35 [some (.ref 0), some (.int l1), some (.int l2)] [] M N := ab_Run_s zm_X11_where (sp := [(35, [true, true, true])]) 25 h
theorem zE_X11_where (as : List Value) (M : ab_M) (N : ab_N) (k : ab_R) (hT : zt_X11_where as M N k) : ab_cs as ≤ 3 ∧ zr_X11_where k 0 (ab_en as) [] M N := by
  obtain ⟨m, h, rfl, hN, hk⟩ := ab_m2_e hT
  obtain ⟨n7, p8, n12, m5, n0, h12, -⟩ := zCn hN
  have hk := fun M2 N2 (hF : zFr zQc M M2) (hA : zAsks M2) => hk _ M2 N2 ⟨hF, hA, rfl⟩
  unfold zWhA at hk
  refine ⟨Nat.le_of_ble_eq_true rfl, zv_X11_where_0 _ _ ?_⟩
  rw [n12, n0]
  refine ⟨fun c => ?_, fun c => ⟨fun c2 => ?_, fun c2 => ab_m0_i hN ?_⟩⟩
  · have hk := hk M N (zFr_rf _ _) hN.1
    rw [if_neg (zIcn m5 rfl (by decide) c)] at hk
    exact hk
  · have hk := hk M N (zFr_rf _ _) hN.1
    rw [if_pos (zIcp m5 rfl (by decide) c), if_neg (zIcn h12 rfl (by decide) c2)] at hk
    exact hk
  · rintro o M2 N2 ⟨rfl, rfl, g1, gA, g2⟩
    have hk := hk M2 N2 (zFr_mono g1 (by decide)) gA
    have a1 := zIcp m5 rfl (by decide) c
    have a2 := zIcp h12 rfl (by decide) c2
    rw [if_pos a1, if_pos a2] at hk
    obtain ⟨km, y1, rfl⟩ := zIxN (by omega) a1
    obtain ⟨kh, y2, rfl⟩ := zIxN (by omega) a2
    rw [nI_clamp (show km < 2 ^ 31 by omega), nI_clamp (show kh < 2 ^ 31 by omega)] at hk
    refine zv_X11_where_35 _ _ ?_
    rw [zN_mul kh 5 5, nI_add, nI_clamp (show kh * 5 + km < 2 ^ 31 by omega), (g2 kh y2).1 km y1]
    exact ⟨nI_in_ (by omega), hk⟩
abbrev zR_X11_where : Room := { frames := 6, cells := 0, slots := 0, locals := 155 }
set_option maxRecDepth 20000 in
theorem zM_X11_where (l : Launch) : ab_Met l zw_C vwCl zZ_C yX11_where cX11_where 3 (some .int) zR_X11_where zt_X11_where := ab_ofRun (G := zg_X11_where) (P := zp_X11_where) rfl zo_X11_where (by decide +kernel) zl_cl zl_lamC zf_X11_ok zs_tabOK zc_X11_ok zs_X11_ok (List.forall_mem_cons.mpr ⟨ab_callV zZ_C_ok (zM_X5_has l) (ab_in 642 (by decide +kernel) rfl) (ab_in 639 (by decide +kernel) rfl) (ab_in 640 (by decide +kernel) rfl) (ab_in 641 (by decide +kernel) rfl) (ab_in 3 (by decide +kernel) rfl) (by unfold ab_yok; decide +kernel) ⟨rfl, rfl⟩ (by decide) zV_X5_has, List.forall_mem_cons.mpr ⟨ab_callV zZ_C_ok (zM_X2_hasHour l) (ab_in 654 (by decide +kernel) rfl) (ab_in 651 (by decide +kernel) rfl) (ab_in 652 (by decide +kernel) rfl) (ab_in 653 (by decide +kernel) rfl) (ab_in 2 (by decide +kernel) rfl) (by unfold ab_yok; decide +kernel) ⟨rfl, rfl⟩ (by decide) zV_X2_hasHour, List.forall_mem_cons.mpr ⟨ab_callV zZ_C_ok (zM_X10_go l) (ab_in 658 (by decide +kernel) rfl) (ab_in 655 (by decide +kernel) rfl) (ab_in 656 (by decide +kernel) rfl) (ab_in 657 (by decide +kernel) rfl) (ab_in 7 (by decide +kernel) rfl) (by unfold ab_yok; decide +kernel) ⟨rfl, rfl⟩ (by decide) zV_X10_go, List.forall_mem_cons.mpr ⟨ab_callV zZ_C_ok (zM_X10_placeOf l) (ab_in 678 (by decide +kernel) rfl) (ab_in 702 (by decide +kernel) rfl) (ab_in 676 (by decide +kernel) rfl) (ab_in 677 (by decide +kernel) rfl) (ab_in 7 (by decide +kernel) rfl) (by unfold ab_yok; decide +kernel) ⟨rfl, rfl⟩ (by decide) zV_X10_placeOf, List.forall_mem_nil _⟩⟩⟩⟩) (List.forall_mem_nil _) zE_X11_where
def zt_X11_looked : ab_T := ab_m1 0 (fun _ M _ => zNight M) (fun h M N o M2 N2 => zFr zQc M M2 ∧ zAsks M2 ∧ o = some (.int (zLkA M h)))
theorem zt_X11_looked_mono : ab_mono zt_X11_looked := ab_m1_mono _ _ _
theorem zV_X11_looked : ab_recv zw_C vwCl RX11 zt_X11_looked := ab_m1_v rfl rfl
def zp_X11_looked : ab_P := [(0, .aload_n 0, 1, [0], []),
  (1, .getfield 10, 4, [], []),
  (4, .iload_n 1, 5, [1], []),
  (5, .invokevirtual 195, 8, [], []),
  (8, .ifCond .ne 6, 11, [14], []),
  (11, .bipush (-2), 13, [], [(-2)]),
  (13, .ireturn, 14, [], []),
  (14, .aload_n 0, 15, [0], []),
  (15, .getfield 53, 18, [], []),
  (18, .invokevirtual 198, 21, [], []),
  (21, .iconst 0, 22, [], [0]),
  (22, .istore_n 2, 23, [2], []),
  (23, .iconst 0, 24, [], [0]),
  (24, .istore_n 3, 25, [3], []),
  (25, .iload_n 3, 26, [3], []),
  (26, .aload_n 0, 27, [0], []),
  (27, .getfield 10, 30, [], []),
  (30, .getfield 121, 33, [], []),
  (33, .if_icmp .ge 31, 36, [64], []),
  (36, .iload_n 2, 37, [2], []),
  (37, .aload_n 0, 38, [0], []),
  (38, .getfield 53, 41, [], []),
  (41, .iload_n 3, 42, [3], []),
  (42, .iload_n 1, 43, [1], []),
  (43, .invokevirtual 204, 46, [], []),
  (46, .ifCond .eq 9, 49, [55], []),
  (49, .iconst 1, 50, [], [1]),
  (50, .iload_n 3, 51, [3], []),
  (51, .ishl, 52, [], []),
  (52, .goto 4, 55, [56], []),
  (55, .iconst 0, 56, [], [0]),
  (56, .ior, 57, [], []),
  (57, .istore_n 2, 58, [2], []),
  (58, .iinc 3 1, 61, [], [1]),
  (61, .goto (-36), 64, [25], []),
  (64, .iload_n 2, 65, [2], []),
  (65, .ireturn, 66, [], [])]
theorem zo_X11_looked : ab_ok cX11_looked zp_X11_looked = true := by decide +kernel
def zg_X11_looked : ab_G := (zw_C, zs_tab, zf_X11, zc_X11, [(144, 50), (147, 51)], [(195, 2, zt_X2_hasHour), (198, 1, zt_X10_go), (204, 3, zt_X10_lookedAt)], [])
theorem zm_X11_looked : ab_MG zg_X11_looked := ab_MGof (List.forall_mem_cons.mpr ⟨ab_pure_mono _, List.forall_mem_cons.mpr ⟨zt_X10_go_mono, List.forall_mem_cons.mpr ⟨ab_pp_mono _, List.forall_mem_nil _⟩⟩⟩) (List.forall_mem_nil _)
abbrev zr_X11_looked (Q : ab_R) : ab_K := ab_Run zg_X11_looked zp_X11_looked (some .int) 4 Q
set_option maxRecDepth 20000 in
theorem zv_X11_looked_0 {Q : ab_R} {M : ab_M} {N : ab_N} (l1 : Int32) (h : ((ab_b (0 ≤ l1 ∧ l1 < (M 17) 0 ∧ l1 < 12)) = 0 → Q (some (.int (-2 : Int32))) M N) ∧ (¬ ((ab_b (0 ≤ l1 ∧ l1 < (M 17) 0 ∧ l1 < 12)) = 0) → zt_X10_go [.ref 6] M N (fun r M2 N2 => zr_X11_looked Q 21 [some (.ref 0), some (.int l1), none, none] (ab_ol r []) M2 N2))) : zr_X11_looked Q 0 [some (.ref 0), some (.int l1)] [] M N := ab_Run_s zm_X11_looked (sp := [(21, [true, true, false, false]), (25, [true, true, true, true])]) 39 h
set_option maxRecDepth 20000 in
theorem zv_X11_looked_21 {Q : ab_R} {M : ab_M} {N : ab_N} (l1 : Int32) (h : zr_X11_looked Q 25 [some (.ref 0), some (.int l1), some (.int (0 : Int32)), some (.int (0 : Int32))] [] M N) : zr_X11_looked Q 21 [some (.ref 0), some (.int l1), none, none] [] M N := ab_Run_s zm_X11_looked (sp := [(21, [true, true, false, false]), (25, [true, true, true, true])]) 39 h
set_option maxRecDepth 20000 in
theorem zv_X11_looked_25 {Q : ab_R} {M : ab_M} {N : ab_N} (l1 : Int32) (l2 : Int32) (l3 : Int32) (h : ((M 1 4) ≤ l3 → Q (some (.int l2)) M N) ∧ (¬ ((M 1 4) ≤ l3) → (vp_in (l1 * 8 + l3) 96) ∧ (((ab_b (¬ (M 38) (l1 * 8 + l3).toNatClampNeg = 0)) = 0 → zr_X11_looked Q 25 [some (.ref 0), some (.int l1), some (.int (l2 ||| (0 : Int32))), some (.int (l3 + (1 : Int32)))] [] M N) ∧ (¬ ((ab_b (¬ (M 38) (l1 * 8 + l3).toNatClampNeg = 0)) = 0) → zr_X11_looked Q 25 [some (.ref 0), some (.int l1), some (.int (l2 ||| ((1 : Int32) <<< (l3 &&& 31)))), some (.int (l3 + (1 : Int32)))] [] M N)))) : zr_X11_looked Q 25 [some (.ref 0), some (.int l1), some (.int l2), some (.int l3)] [] M N := ab_Run_s zm_X11_looked (sp := [(21, [true, true, false, false]), (25, [true, true, true, true])]) 39 h
theorem zL_X11_looked {Q : ab_R} {M : ab_M} {N : ab_N} {f : Nat → Int32} {n h : Nat} (hn : n ≤ 8) (hh : h < 12) (h4 : M 1 4 = nI n) (hf : ∀ p, p < n → M 38 (h * 8 + p) = f p) (hk : Q (some (.int (nI (zBits f n)))) M N) : ∀ (r p : Nat), p + r = n → zr_X11_looked Q 25 [some (.ref 0), some (.int (nI h)), some (.int (nI (zBits f p))), some (.int (nI p))] [] M N := by
  intro r
  induction r with
  | zero =>
    intro p hp
    have e : p = n := by omega
    subst e
    exact zv_X11_looked_25 _ _ _ ⟨fun _ => hk, fun c => absurd (by rw [h4]; exact nI_le (Nat.le_refl _) (by omega)) c⟩
  | succ r ih =>
    intro p hp
    have ih := ih (p + 1) (by omega)
    have lt := zBits_lt (f := f) p (by omega)
    unfold zBits at ih
    refine zv_X11_looked_25 _ _ _ ?_
    rw [h4, zN_mul h 8 8, nI_add, nI_clamp (show h * 8 + p < 2 ^ 31 by omega), hf p (by omega), nI_1]
    refine ⟨fun c => absurd c (nI_ge (by omega) (by omega)), fun _ => ⟨nI_in_ (by omega), fun c => ?_, fun c => ?_⟩⟩
    · rw [if_pos (Decidable.not_not.mp (ab_b_0.mp c))] at ih
      rw [show nI (zBits f p) ||| (0 : Int32) = nI (zBits f p) from Int32.or_zero]
      exact ih
    · rw [if_neg (zIx0 c)] at ih
      rw [zB_or _ lt p (by omega)]
      exact ih
theorem zE_X11_looked (as : List Value) (M : ab_M) (N : ab_N) (k : ab_R) (hT : zt_X11_looked as M N k) : ab_cs as ≤ 4 ∧ zr_X11_looked k 0 (ab_en as) [] M N := by
  obtain ⟨h, rfl, hN, hk⟩ := ab_m1_e hT
  obtain ⟨n7, p8, n12, m5, n0, h12, -⟩ := zCn hN
  have hk := fun M2 N2 (hF : zFr zQc M M2) (hA : zAsks M2) => hk _ M2 N2 ⟨hF, hA, rfl⟩
  unfold zLkA at hk
  refine ⟨Nat.le_of_ble_eq_true rfl, zv_X11_looked_0 _ ?_⟩
  rw [n0]
  refine ⟨fun c => ?_, fun c => ab_m0_i hN ?_⟩
  · have hk := hk M N (zFr_rf _ _) hN.1
    rw [if_neg (zIcn h12 rfl (by decide) c)] at hk
    exact hk
  · rintro o M2 N2 ⟨rfl, rfl, g1, gA, g2⟩
    have hk := hk M2 N2 (zFr_mono g1 (by decide)) gA
    have a2 := zIcp h12 rfl (by decide) c
    rw [if_pos a2] at hk
    obtain ⟨kh, y2, rfl⟩ := zIxN (by omega) a2
    rw [nI_clamp (show kh < 2 ^ 31 by omega)] at hk
    exact zv_X11_looked_21 _ (zL_X11_looked p8 (by omega) (by rw [g1 1 (by decide), n7]) (fun p hp => ((g2 kh y2).2 p hp).2) hk (zPcs M) 0 (by omega))
abbrev zR_X11_looked : Room := { frames := 6, cells := 0, slots := 0, locals := 155 }
set_option maxRecDepth 20000 in
theorem zM_X11_looked (l : Launch) : ab_Met l zw_C vwCl zZ_C yX11_looked cX11_looked 4 (some .int) zR_X11_looked zt_X11_looked := ab_ofRun (G := zg_X11_looked) (P := zp_X11_looked) rfl zo_X11_looked (by decide +kernel) zl_cl zl_lamC zf_X11_ok zs_tabOK zc_X11_ok zs_X11_ok (List.forall_mem_cons.mpr ⟨ab_callV zZ_C_ok (zM_X2_hasHour l) (ab_in 654 (by decide +kernel) rfl) (ab_in 651 (by decide +kernel) rfl) (ab_in 652 (by decide +kernel) rfl) (ab_in 653 (by decide +kernel) rfl) (ab_in 2 (by decide +kernel) rfl) (by unfold ab_yok; decide +kernel) ⟨rfl, rfl⟩ (by decide) zV_X2_hasHour, List.forall_mem_cons.mpr ⟨ab_callV zZ_C_ok (zM_X10_go l) (ab_in 658 (by decide +kernel) rfl) (ab_in 655 (by decide +kernel) rfl) (ab_in 656 (by decide +kernel) rfl) (ab_in 657 (by decide +kernel) rfl) (ab_in 7 (by decide +kernel) rfl) (by unfold ab_yok; decide +kernel) ⟨rfl, rfl⟩ (by decide) zV_X10_go, List.forall_mem_cons.mpr ⟨ab_callV zZ_C_ok (zM_X10_lookedAt l) (ab_in 662 (by decide +kernel) rfl) (ab_in 707 (by decide +kernel) rfl) (ab_in 660 (by decide +kernel) rfl) (ab_in 661 (by decide +kernel) rfl) (ab_in 7 (by decide +kernel) rfl) (by unfold ab_yok; decide +kernel) ⟨rfl, rfl⟩ (by decide) zV_X10_lookedAt, List.forall_mem_nil _⟩⟩⟩) (List.forall_mem_nil _) zE_X11_looked
def zt_X11_meet : ab_T := ab_m2 0 (fun _ _ M _ => zNight M) (fun a b M N o M2 N2 => zFr zQc M M2 ∧ zAsks M2 ∧ o = some (.int (zMtA M a b)))
theorem zt_X11_meet_mono : ab_mono zt_X11_meet := ab_m2_mono _ _ _
theorem zV_X11_meet : ab_recv zw_C vwCl RX11 zt_X11_meet := ab_m2_v rfl rfl
def zp_X11_meet : ab_P := [(0, .aload_n 0, 1, [0], []),
  (1, .getfield 19, 4, [], []),
  (4, .iload_n 1, 5, [1], []),
  (5, .invokevirtual 179, 8, [], []),
  (8, .ifCond .eq 19, 11, [27], []),
  (11, .aload_n 0, 12, [0], []),
  (12, .getfield 19, 15, [], []),
  (15, .iload_n 2, 16, [2], []),
  (16, .invokevirtual 179, 19, [], []),
  (19, .ifCond .eq 8, 22, [27], []),
  (22, .iload_n 1, 23, [1], []),
  (23, .iload_n 2, 24, [2], []),
  (24, .if_icmp .ne 6, 27, [30], []),
  (27, .bipush (-5), 29, [], [(-5)]),
  (29, .ireturn, 30, [], []),
  (30, .aload_n 0, 31, [0], []),
  (31, .getfield 53, 34, [], []),
  (34, .invokevirtual 198, 37, [], []),
  (37, .iconst 0, 38, [], [0]),
  (38, .istore_n 3, 39, [3], []),
  (39, .iload_n 3, 40, [3], []),
  (40, .aload_n 0, 41, [0], []),
  (41, .getfield 10, 44, [], []),
  (44, .getfield 150, 47, [], []),
  (47, .iconst 0, 48, [], [0]),
  (48, .iaload, 49, [], []),
  (49, .if_icmp .ge 24, 52, [73], []),
  (52, .aload_n 0, 53, [0], []),
  (53, .getfield 53, 56, [], []),
  (56, .iload_n 1, 57, [1], []),
  (57, .iload_n 2, 58, [2], []),
  (58, .iload_n 3, 59, [3], []),
  (59, .invokevirtual 215, 62, [], []),
  (62, .ifCond .eq 5, 65, [67], []),
  (65, .iload_n 3, 66, [3], []),
  (66, .ireturn, 67, [], []),
  (67, .iinc 3 1, 70, [], [1]),
  (70, .goto (-31), 73, [39], []),
  (73, .iconst (-1), 74, [], [(-1)]),
  (74, .ireturn, 75, [], [])]
theorem zo_X11_meet : ab_ok cX11_meet zp_X11_meet = true := by decide +kernel
def zg_X11_meet : ab_G := (zw_C, zs_tab, zf_X11, zc_X11, [(144, 50), (147, 51)], [(179, 2, zt_X5_has), (198, 1, zt_X10_go), (215, 4, zt_X10_together)], [])
theorem zm_X11_meet : ab_MG zg_X11_meet := ab_MGof (List.forall_mem_cons.mpr ⟨ab_pure_mono _, List.forall_mem_cons.mpr ⟨zt_X10_go_mono, List.forall_mem_cons.mpr ⟨ab_pp_mono _, List.forall_mem_nil _⟩⟩⟩) (List.forall_mem_nil _)
abbrev zr_X11_meet (Q : ab_R) : ab_K := ab_Run zg_X11_meet zp_X11_meet (some .int) 4 Q
set_option maxRecDepth 20000 in
theorem zv_X11_meet_0 {Q : ab_R} {M : ab_M} {N : ab_N} (l1 : Int32) (l2 : Int32) (h : ((ab_b (0 ≤ l1 ∧ l1 < (M 2) 6 ∧ l1 < 5)) = 0 → Q (some (.int (-5 : Int32))) M N) ∧ (¬ ((ab_b (0 ≤ l1 ∧ l1 < (M 2) 6 ∧ l1 < 5)) = 0) → ((ab_b (0 ≤ l2 ∧ l2 < (M 2) 6 ∧ l2 < 5)) = 0 → Q (some (.int (-5 : Int32))) M N) ∧ (¬ ((ab_b (0 ≤ l2 ∧ l2 < (M 2) 6 ∧ l2 < 5)) = 0) → (l1 = l2 → Q (some (.int (-5 : Int32))) M N) ∧ (¬ (l1 = l2) → zt_X10_go [.ref 6] M N (fun r M2 N2 => zr_X11_meet Q 37 [some (.ref 0), some (.int l1), some (.int l2), none] (ab_ol r []) M2 N2))))) : zr_X11_meet Q 0 [some (.ref 0), some (.int l1), some (.int l2)] [] M N := ab_Run_s zm_X11_meet (sp := [(37, [true, true, true, false]), (39, [true, true, true, true])]) 42 h
set_option maxRecDepth 20000 in
theorem zv_X11_meet_37 {Q : ab_R} {M : ab_M} {N : ab_N} (l1 : Int32) (l2 : Int32) (h : zr_X11_meet Q 39 [some (.ref 0), some (.int l1), some (.int l2), some (.int (0 : Int32))] [] M N) : zr_X11_meet Q 37 [some (.ref 0), some (.int l1), some (.int l2), none] [] M N := ab_Run_s zm_X11_meet (sp := [(37, [true, true, true, false]), (39, [true, true, true, true])]) 42 h
set_option maxRecDepth 20000 in
theorem zv_X11_meet_39 {Q : ab_R} {M : ab_M} {N : ab_N} (l1 : Int32) (l2 : Int32) (l3 : Int32) (h : vp_in (0 : Int32) 5 ∧ (((M 17 0) ≤ l3 → Q (some (.int (-1 : Int32))) M N) ∧ (¬ ((M 17 0) ≤ l3) → (vp_in (l3 * 5 + l1) 60 ∧ vp_in (l3 * 5 + l2) 60) ∧ (((ab_b ((M 37) (l3 * 5 + l1).toNatClampNeg = (M 37) (l3 * 5 + l2).toNatClampNeg)) = 0 → zr_X11_meet Q 39 [some (.ref 0), some (.int l1), some (.int l2), some (.int (l3 + (1 : Int32)))] [] M N) ∧ (¬ ((ab_b ((M 37) (l3 * 5 + l1).toNatClampNeg = (M 37) (l3 * 5 + l2).toNatClampNeg)) = 0) → Q (some (.int l3)) M N))))) : zr_X11_meet Q 39 [some (.ref 0), some (.int l1), some (.int l2), some (.int l3)] [] M N := ab_Run_s zm_X11_meet (sp := [(37, [true, true, true, false]), (39, [true, true, true, true])]) 42 h
theorem zL_X11_meet {Q : ab_R} {M : ab_M} {N : ab_N} {d : ab_M} {a b : Nat} (ha : a < zMen d) (hb : b < zMen d) (h5 : zMen d ≤ 5) (h0 : M 17 0 = nI (zHrs d)) (h12 : zHrs d ≤ 12) (hW : ∀ h, h < zHrs d → ∀ m, m < zMen d → M 37 (h * 5 + m) = (zWk d h).1 m) (hk : Q (some (.int (zMtF (zTog d a b) (zHrs d) 0))) M N) : ∀ (r h : Nat), h + r = zHrs d → zMtF (zTog d a b) r h = zMtF (zTog d a b) (zHrs d) 0 → zr_X11_meet Q 39 [some (.ref 0), some (.int (nI a)), some (.int (nI b)), some (.int (nI h))] [] M N := by
  intro r
  induction r with
  | zero =>
    intro h hr he
    rw [← he] at hk
    exact zv_X11_meet_39 _ _ _ ⟨ab_vpk (by decide), fun _ => hk, fun c => absurd (by rw [h0]; exact nI_le (by omega) (by omega)) c⟩
  | succ r ih =>
    intro h hr he
    refine zv_X11_meet_39 _ _ _ ⟨ab_vpk (by decide), ?_⟩
    rw [h0, zN_mul h 5 5, nI_add, nI_add, nI_clamp (show h * 5 + a < 2 ^ 31 by omega), nI_clamp (show h * 5 + b < 2 ^ 31 by omega), hW h (by omega) a ha, hW h (by omega) b hb, nI_1]
    have e : zMtF (zTog d a b) (r + 1) h = if zTog d a b h = true then nI h else zMtF (zTog d a b) r (h + 1) := rfl
    refine ⟨fun c => absurd c (nI_ge (by omega) (by omega)), fun _ => ⟨⟨nI_in_ (by omega), nI_in_ (by omega)⟩, fun c => ?_, fun c => ?_⟩⟩
    · rw [if_neg (show ¬ zTog d a b h = true from fun z => ab_b_0.mp c (of_decide_eq_true z))] at e
      exact ih (h + 1) (by omega) (e.symm.trans he)
    · rw [if_pos (show zTog d a b h = true from decide_eq_true (zIx0 c))] at e
      rw [← he, e] at hk
      exact hk
theorem zE_X11_meet (as : List Value) (M : ab_M) (N : ab_N) (k : ab_R) (hT : zt_X11_meet as M N k) : ab_cs as ≤ 4 ∧ zr_X11_meet k 0 (ab_en as) [] M N := by
  obtain ⟨a, b, rfl, hN, hk⟩ := ab_m2_e hT
  obtain ⟨n7, p8, n12, m5, n0, h12, -⟩ := zCn hN
  have hk := fun M2 N2 (hF : zFr zQc M M2) (hA : zAsks M2) => hk _ M2 N2 ⟨hF, hA, rfl⟩
  unfold zMtA at hk
  refine ⟨Nat.le_of_ble_eq_true rfl, zv_X11_meet_0 _ _ ?_⟩
  rw [n12]
  refine ⟨fun c => ?_, fun c => ⟨fun c2 => ?_, fun c2 => ⟨fun c3 => ?_, fun c3 => ab_m0_i hN ?_⟩⟩⟩
  · have hk := hk M N (zFr_rf _ _) hN.1
    rw [if_neg (zIcn m5 rfl (by decide) c)] at hk
    exact hk
  · have hk := hk M N (zFr_rf _ _) hN.1
    rw [if_pos (zIcp m5 rfl (by decide) c), if_neg (zIcn m5 rfl (by decide) c2)] at hk
    exact hk
  · have hk := hk M N (zFr_rf _ _) hN.1
    rw [if_pos (zIcp m5 rfl (by decide) c), if_pos (zIcp m5 rfl (by decide) c2), if_pos c3] at hk
    exact hk
  · rintro o M2 N2 ⟨rfl, rfl, g1, gA, g2⟩
    have hk := hk M2 N2 (zFr_mono g1 (by decide)) gA
    have a1 := zIcp m5 rfl (by decide) c
    have a2 := zIcp m5 rfl (by decide) c2
    rw [if_pos a1, if_pos a2, if_neg c3] at hk
    obtain ⟨ka, y1, rfl⟩ := zIxN (by omega) a1
    obtain ⟨kb, y2, rfl⟩ := zIxN (by omega) a2
    rw [nI_clamp (show ka < 2 ^ 31 by omega), nI_clamp (show kb < 2 ^ 31 by omega)] at hk
    exact zv_X11_meet_37 _ _ (zL_X11_meet y1 y2 m5 (by rw [g1 17 (by decide), n0]) h12 (fun h hh => (g2 h hh).1) hk (zHrs M) 0 (by omega) rfl)
abbrev zR_X11_meet : Room := { frames := 6, cells := 0, slots := 0, locals := 155 }
set_option maxRecDepth 20000 in
theorem zM_X11_meet (l : Launch) : ab_Met l zw_C vwCl zZ_C yX11_meet cX11_meet 4 (some .int) zR_X11_meet zt_X11_meet := ab_ofRun (G := zg_X11_meet) (P := zp_X11_meet) rfl zo_X11_meet (by decide +kernel) zl_cl zl_lamC zf_X11_ok zs_tabOK zc_X11_ok zs_X11_ok (List.forall_mem_cons.mpr ⟨ab_callV zZ_C_ok (zM_X5_has l) (ab_in 642 (by decide +kernel) rfl) (ab_in 639 (by decide +kernel) rfl) (ab_in 640 (by decide +kernel) rfl) (ab_in 641 (by decide +kernel) rfl) (ab_in 3 (by decide +kernel) rfl) (by unfold ab_yok; decide +kernel) ⟨rfl, rfl⟩ (by decide) zV_X5_has, List.forall_mem_cons.mpr ⟨ab_callV zZ_C_ok (zM_X10_go l) (ab_in 658 (by decide +kernel) rfl) (ab_in 655 (by decide +kernel) rfl) (ab_in 656 (by decide +kernel) rfl) (ab_in 657 (by decide +kernel) rfl) (ab_in 7 (by decide +kernel) rfl) (by unfold ab_yok; decide +kernel) ⟨rfl, rfl⟩ (by decide) zV_X10_go, List.forall_mem_cons.mpr ⟨ab_callV zZ_C_ok (zM_X10_together l) (ab_in 728 (by decide +kernel) rfl) (ab_in 725 (by decide +kernel) rfl) (ab_in 726 (by decide +kernel) rfl) (ab_in 727 (by decide +kernel) rfl) (ab_in 7 (by decide +kernel) rfl) (by unfold ab_yok; decide +kernel) ⟨rfl, rfl⟩ (by decide) zV_X10_together, List.forall_mem_nil _⟩⟩⟩) (List.forall_mem_nil _) zE_X11_meet
theorem zB_val : ∀ b, b < 256 → ∀ w, w < 8 → ((nI b) >>> (nI w &&& 31)) &&& 1 = if b.testBit w = true then (1 : Int32) else 0 := by decide +kernel
theorem zLkB_val {d : ab_M} (h8 : zPcs d ≤ 8) (h : Nat) {p : Nat} (hp : p < zPcs d) : (zLkB d h >>> (nI p &&& 31)) &&& 1 = if (zWk d h).2.2.2 p = 0 then (0 : Int32) else 1 := by
  unfold zLkB
  rw [zB_val _ (zBits_lt _ h8) p (by omega)]
  have hb := zBits_bit (f := (zWk d h).2.2.2) (w := p) (zPcs d)
  by_cases c : (zWk d h).2.2.2 p = 0
  · rw [if_pos c, if_neg (fun z => (hb.mp z).2 c)]
  · rw [if_neg c, if_pos (hb.mpr ⟨hp, c⟩)]
theorem zHours_cnt {d : ab_M} (h8 : zPcs d ≤ 8) {p : Nat} (hp : p < zPcs d) : ∀ n, zHours (fun h => (zWk d h).2.2.2 p) n = zCnt (zLkB d) (nI p) n
  | 0 => rfl
  | n + 1 => by
    unfold zHours zCnt
    rw [zHours_cnt h8 hp n, zLkB_val h8 n hp]
theorem zLong_lg {f : Nat → Int32} {B : Nat → Bool} : ∀ n, n ≤ 12 → (∀ h, h < n → (B h = true ↔ ¬ f h = 0)) → zLong f n = (nI (zLgR B n).2, nI (zLgR B n).1)
  | 0, _, _ => rfl
  | n + 1, hn, hB => by
    have ih := zLong_lg n (by omega) (fun h hh => hB h (by omega))
    obtain ⟨l1, l2⟩ := zLgR_le B n
    have hb := hB n (by omega)
    unfold zLong zLgR
    rw [ih]
    by_cases c : f n = 0
    · have nb : ¬ B n = true := fun z => (hb.mp z) c
      simp only [if_pos c, if_neg nb]
      rw [nI_1]
      by_cases c2 : (zLgR B n).1 + 1 ≤ (zLgR B n).2
      · rw [if_pos c2, if_neg (nI_nlt c2 (by omega))]
      · rw [if_neg c2, if_pos (nI_lt (by omega) (by omega))]
    · have b := hb.mpr c
      simp only [if_neg c, if_pos b]
      rw [if_neg (Int32.not_lt.mpr (nI_pos' (by omega)))]
      rfl
theorem zLong_row {d : ab_M} (h8 : zPcs d ≤ 8) (h12 : zHrs d ≤ 12) {p : Nat} (hp : p < zPcs d) : (zLong (fun h => (zWk d h).2.2.2 p) (zHrs d)).1 = nI (zLgR (zBt (zLkB d) (nI p)) (zHrs d)).2 := by
  rw [zLong_lg (B := zBt (zLkB d) (nI p)) (zHrs d) h12 (fun h hh => ?_)]
  unfold zBt
  rw [decide_eq_true_eq, zLkB_val h8 h hp]
  by_cases c : (zWk d h).2.2.2 p = 0
  · simp [c]
  · simp [c]
def zt_X11_often : ab_T := ab_m2 0 (fun _ _ M _ => zNight M) (fun a b M N o M2 N2 => zFr zQc M M2 ∧ zAsks M2 ∧ o = some (.int (zOfA M a b)))
theorem zt_X11_often_mono : ab_mono zt_X11_often := ab_m2_mono _ _ _
theorem zV_X11_often : ab_recv zw_C vwCl RX11 zt_X11_often := ab_m2_v rfl rfl
def zp_X11_often : ab_P := [(0, .aload_n 0, 1, [0], []),
  (1, .getfield 10, 4, [], []),
  (4, .iload_n 1, 5, [1], []),
  (5, .invokevirtual 130, 8, [], []),
  (8, .ifCond .ne 6, 11, [14], []),
  (11, .bipush (-5), 13, [], [(-5)]),
  (13, .ireturn, 14, [], []),
  (14, .iload_n 2, 15, [2], []),
  (15, .iconst 0, 16, [], [0]),
  (16, .iconst 1, 17, [], [1]),
  (17, .invokestatic 117, 20, [], []),
  (20, .ifCond .ne 6, 23, [26], []),
  (23, .bipush (-7), 25, [], [(-7)]),
  (25, .ireturn, 26, [], []),
  (26, .aload_n 0, 27, [0], []),
  (27, .getfield 53, 30, [], []),
  (30, .invokevirtual 198, 33, [], []),
  (33, .iload_n 2, 34, [2], []),
  (34, .ifCond .ne 11, 37, [45], []),
  (37, .aload_n 0, 38, [0], []),
  (38, .iload_n 1, 39, [1], []),
  (39, .invokevirtual 208, 42, [], []),
  (42, .goto 8, 45, [50], []),
  (45, .aload_n 0, 46, [0], []),
  (46, .iload_n 1, 47, [1], []),
  (47, .invokevirtual 212, 50, [], []),
  (50, .ireturn, 51, [], [])]
theorem zo_X11_often : ab_ok cX11_often zp_X11_often = true := by decide +kernel
def zg_X11_often : ab_G := (zw_C, zs_tab, zf_X11, zc_X11, [(144, 50), (147, 51)], [(130, 2, zt_X2_has), (198, 1, zt_X10_go), (208, 2, zt_X11_hoursLookedAt), (212, 2, zt_X11_longestNotLookedAt)], [(117, 3, zt_X11_within)])
theorem zm_X11_often : ab_MG zg_X11_often := ab_MGof (List.forall_mem_cons.mpr ⟨ab_pure_mono _, List.forall_mem_cons.mpr ⟨zt_X10_go_mono, List.forall_mem_cons.mpr ⟨zt_X11_hoursLookedAt_mono, List.forall_mem_cons.mpr ⟨zt_X11_longestNotLookedAt_mono, List.forall_mem_nil _⟩⟩⟩⟩) (List.forall_mem_cons.mpr ⟨ab_pure_mono _, List.forall_mem_nil _⟩)
abbrev zr_X11_often (Q : ab_R) : ab_K := ab_Run zg_X11_often zp_X11_often (some .int) 3 Q
set_option maxRecDepth 20000 in
theorem zv_X11_often_0 {Q : ab_R} {M : ab_M} {N : ab_N} (l1 : Int32) (l2 : Int32) (h : ((ab_b (0 ≤ l1 ∧ l1 < (M 1) 4 ∧ l1 < 8)) = 0 → Q (some (.int (-5 : Int32))) M N) ∧ (¬ ((ab_b (0 ≤ l1 ∧ l1 < (M 1) 4 ∧ l1 < 8)) = 0) → ((ab_b ((0 : Int32) ≤ l2 ∧ l2 ≤ (1 : Int32))) = 0 → Q (some (.int (-7 : Int32))) M N) ∧ (¬ ((ab_b ((0 : Int32) ≤ l2 ∧ l2 ≤ (1 : Int32))) = 0) → zt_X10_go [.ref 6] M N (fun r M2 N2 => zr_X11_often Q 33 [some (.ref 0), some (.int l1), some (.int l2)] (ab_ol r []) M2 N2)))) : zr_X11_often Q 0 [some (.ref 0), some (.int l1), some (.int l2)] [] M N := ab_Run_s zm_X11_often (sp := [(33, [true, true, true]), (42, [false, false, false]), (50, [false, false, false])]) 29 h
set_option maxRecDepth 20000 in
theorem zv_X11_often_33 {Q : ab_R} {M : ab_M} {N : ab_N} (l1 : Int32) (l2 : Int32) (h : (l2 = 0 → zt_X11_hoursLookedAt [.ref 0, .int l1] M N (fun r M2 N2 => zr_X11_often Q 42 [none, none, none] (ab_ol r []) M2 N2)) ∧ (¬ (l2 = 0) → zt_X11_longestNotLookedAt [.ref 0, .int l1] M N (fun r M2 N2 => zr_X11_often Q 50 [none, none, none] (ab_ol r []) M2 N2))) : zr_X11_often Q 33 [some (.ref 0), some (.int l1), some (.int l2)] [] M N := ab_Run_s zm_X11_often (sp := [(33, [true, true, true]), (42, [false, false, false]), (50, [false, false, false])]) 29 h
set_option maxRecDepth 20000 in
theorem zv_X11_often_42 {Q : ab_R} {M : ab_M} {N : ab_N} (s0 : Int32) (h : zr_X11_often Q 50 [none, none, none] [.int s0] M N) : zr_X11_often Q 42 [none, none, none] [.int s0] M N := ab_Run_s zm_X11_often (sp := [(33, [true, true, true]), (42, [false, false, false]), (50, [false, false, false])]) 29 h
set_option maxRecDepth 20000 in
theorem zv_X11_often_50 {Q : ab_R} {M : ab_M} {N : ab_N} (s0 : Int32) (h : Q (some (.int s0)) M N) : zr_X11_often Q 50 [none, none, none] [.int s0] M N := ab_Run_s zm_X11_often (sp := [(33, [true, true, true]), (42, [false, false, false]), (50, [false, false, false])]) 29 h
theorem zE_X11_often (as : List Value) (M : ab_M) (N : ab_N) (k : ab_R) (hT : zt_X11_often as M N k) : ab_cs as ≤ 3 ∧ zr_X11_often k 0 (ab_en as) [] M N := by
  obtain ⟨p, w, rfl, hN, hk⟩ := ab_m2_e hT
  obtain ⟨n7, p8, n12, m5, n0, h12, -⟩ := zCn hN
  have hk := fun M2 N2 (hF : zFr zQc M M2) (hA : zAsks M2) => hk _ M2 N2 ⟨hF, hA, rfl⟩
  unfold zOfA at hk
  refine ⟨Nat.le_of_ble_eq_true rfl, zv_X11_often_0 _ _ ?_⟩
  rw [n7]
  refine ⟨fun c => ?_, fun c => ⟨fun c2 => ?_, fun c2 => ab_m0_i hN ?_⟩⟩
  · have hk := hk M N (zFr_rf _ _) hN.1
    rw [if_neg (zIcn p8 rfl (by decide) c)] at hk
    exact hk
  · have hk := hk M N (zFr_rf _ _) hN.1
    rw [if_pos (zIcp p8 rfl (by decide) c), if_neg (ab_b_0.mp c2)] at hk
    exact hk
  · rintro o M2 N2 ⟨rfl, rfl, g1, gA, g2⟩
    have hk := hk M2 N2 (zFr_mono g1 (by decide)) gA
    have a1 := zIcp p8 rfl (by decide) c
    rw [if_pos a1, if_pos (zIx0 c2)] at hk
    obtain ⟨kp, y1, rfl⟩ := zIxN (by omega) a1
    have E := zEqv_go g1
    have hW := zWalked_go g1 g2
    have hN2 := zNight_of hN gA g1
    have eW : ∀ h, (zWk M2 h).2.2.2 kp = (zWk M h).2.2.2 kp := fun h => ((zWk_eqv E h).2 kp (by omega)).2
    refine zv_X11_often_33 _ _ ⟨fun c3 => ?_, fun c3 => ?_⟩
    · rw [if_pos c3, ← zHours_cnt p8 y1] at hk
      refine ab_m1_i ⟨hN2.2.1, hW, kp, by rw [zEqv_pcs E]; exact y1, rfl⟩ ?_
      rintro o M3 N3 ⟨rfl, rfl, rfl⟩
      rw [nI_clamp (show kp < 2 ^ 31 by omega), zEqv_hrs E]
      simp only [eW]
      exact zv_X11_often_42 _ (zv_X11_often_50 _ hk)
    · rw [if_neg c3, ← zLong_row p8 h12 y1] at hk
      refine ab_m1_i ⟨hN2.2.1, hW, kp, by rw [zEqv_pcs E]; exact y1, rfl⟩ ?_
      rintro o M3 N3 ⟨rfl, rfl, rfl⟩
      rw [nI_clamp (show kp < 2 ^ 31 by omega), zEqv_hrs E]
      simp only [eW]
      exact zv_X11_often_50 _ hk
abbrev zR_X11_often : Room := { frames := 6, cells := 0, slots := 0, locals := 155 }
set_option maxRecDepth 20000 in
theorem zM_X11_often (l : Launch) : ab_Met l zw_C vwCl zZ_C yX11_often cX11_often 3 (some .int) zR_X11_often zt_X11_often := ab_ofRun (G := zg_X11_often) (P := zp_X11_often) rfl zo_X11_often (by decide +kernel) zl_cl zl_lamC zf_X11_ok zs_tabOK zc_X11_ok zs_X11_ok (List.forall_mem_cons.mpr ⟨ab_callV zZ_C_ok (zM_X2_has l) (ab_in 554 (by decide +kernel) rfl) (ab_in 551 (by decide +kernel) rfl) (ab_in 552 (by decide +kernel) rfl) (ab_in 553 (by decide +kernel) rfl) (ab_in 2 (by decide +kernel) rfl) (by unfold ab_yok; decide +kernel) ⟨rfl, rfl⟩ (by decide) zV_X2_has, List.forall_mem_cons.mpr ⟨ab_callV zZ_C_ok (zM_X10_go l) (ab_in 658 (by decide +kernel) rfl) (ab_in 655 (by decide +kernel) rfl) (ab_in 656 (by decide +kernel) rfl) (ab_in 657 (by decide +kernel) rfl) (ab_in 7 (by decide +kernel) rfl) (by unfold ab_yok; decide +kernel) ⟨rfl, rfl⟩ (by decide) zV_X10_go, List.forall_mem_cons.mpr ⟨ab_callV zZ_C_ok (zM_X11_hoursLookedAt l) (ab_in 715 (by decide +kernel) rfl) (ab_in 712 (by decide +kernel) rfl) (ab_in 714 (by decide +kernel) rfl) (ab_inS (List.mem_of_getElem? (i := 17) (by decide +kernel)) rfl) (ab_in 1 (by decide +kernel) rfl) (by unfold ab_yok; decide +kernel) ⟨rfl, rfl⟩ (by decide) zV_X11_hoursLookedAt, List.forall_mem_cons.mpr ⟨ab_callV zZ_C_ok (zM_X11_longestNotLookedAt l) (ab_in 719 (by decide +kernel) rfl) (ab_in 716 (by decide +kernel) rfl) (ab_in 718 (by decide +kernel) rfl) (ab_inS (List.mem_of_getElem? (i := 18) (by decide +kernel)) rfl) (ab_in 1 (by decide +kernel) rfl) (by unfold ab_yok; decide +kernel) ⟨rfl, rfl⟩ (by decide) zV_X11_longestNotLookedAt, List.forall_mem_nil _⟩⟩⟩⟩) (List.forall_mem_cons.mpr ⟨ab_callS zZ_C_ok (zM_X11_within l) (ab_in 538 (by decide +kernel) rfl) (ab_in 536 (by decide +kernel) rfl) (ab_in 537 (by decide +kernel) rfl) (ab_in 1 (by decide +kernel) rfl) (by unfold ab_yok; decide +kernel) ⟨rfl, rfl⟩ (by decide), List.forall_mem_nil _⟩) zE_X11_often
