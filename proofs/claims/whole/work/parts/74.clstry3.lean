/-! the class: bestLook, trusts *)
-/
def zBlI (d : ab_M) (h : Nat) (s : Int32 × Int64) (n : Nat) : Int32 × Int64 := zFo (fun p => zAll (zMoreD d (nI p) (nI h))) (fun p => nI (10 * h + p)) (fun _ => true) s n
def zBlO (d : ab_M) : Nat → Int32 × Int64
  | 0 => (-1, zAll d)
  | h + 1 => zBlI d h (zBlO d h) (zPcs d)
def zBlA (d : ab_M) (w : Int32) : Int64 := if 0 ≤ w ∧ w ≤ 1 then (if w = 0 then (zBlO d (zHrs d)).1.toInt64 else zAll d - (zBlO d (zHrs d)).2) else zNO
def zt_X11_bestLook : ab_T := ab_m1 0 (fun _ M _ => zNight M ∧ zT6 M) (fun x M N o M2 N2 => zFr (6 :: zQc) M M2 ∧ zAsks M2 ∧ zT6 M2 ∧ o = some (.long (zBlA M x)))
theorem zt_X11_bestLook_mono : ab_mono zt_X11_bestLook := ab_m1_mono _ _ _
theorem zV_X11_bestLook : ab_recv zw_C vwCl RX11 zt_X11_bestLook := ab_m1_v rfl rfl
def zp_X11_bestLook : ab_P := [(0, .iload_n 1, 1, [1], []),
  (1, .iconst 0, 2, [], [0]),
  (2, .iconst 1, 3, [], [1]),
  (3, .invokestatic 117, 6, [], []),
  (6, .ifCond .ne 7, 9, [13], []),
  (9, .ldc2_w 218, 12, [], []),
  (12, .lreturn, 13, [], []),
  (13, .aload_n 0, 14, [0], []),
  (14, .invokevirtual 242, 17, [], []),
  (17, .lstore_n 2, 18, [2], []),
  (18, .aload_n 0, 19, [0], []),
  (19, .getfield 90, 22, [], []),
  (22, .lload_n 2, 23, [2], []),
  (23, .invokevirtual 231, 26, [], []),
  (26, .iconst 0, 27, [], [0]),
  (27, .istore 4, 29, [], []),
  (29, .iload 4, 31, [], []),
  (31, .aload_n 0, 32, [0], []),
  (32, .getfield 10, 35, [], []),
  (35, .getfield 150, 38, [], []),
  (38, .iconst 0, 39, [], [0]),
  (39, .iaload, 40, [], []),
  (40, .if_icmp .ge 67, 43, [107], []),
  (43, .iconst 0, 44, [], [0]),
  (44, .istore 5, 46, [], []),
  (46, .iload 5, 48, [], []),
  (48, .aload_n 0, 49, [0], []),
  (49, .getfield 10, 52, [], []),
  (52, .getfield 121, 55, [], []),
  (55, .if_icmp .ge 46, 58, [101], []),
  (58, .aload_n 0, 59, [0], []),
  (59, .getfield 53, 62, [], []),
  (62, .iload 5, 64, [], []),
  (64, .putfield 246, 67, [], []),
  (67, .aload_n 0, 68, [0], []),
  (68, .getfield 53, 71, [], []),
  (71, .iload 4, 73, [], []),
  (73, .putfield 249, 76, [], []),
  (76, .aload_n 0, 77, [0], []),
  (77, .getfield 90, 80, [], []),
  (80, .bipush 10, 82, [], [10]),
  (82, .iload 4, 84, [], []),
  (84, .imul, 85, [], []),
  (85, .iload 5, 87, [], []),
  (87, .iadd, 88, [], []),
  (88, .aload_n 0, 89, [0], []),
  (89, .invokevirtual 242, 92, [], []),
  (92, .invokevirtual 235, 95, [], []),
  (95, .iinc 5 1, 98, [], [1]),
  (98, .goto (-52), 101, [46], []),
  (101, .iinc 4 1, 104, [], [1]),
  (104, .goto (-75), 107, [29], []),
  (107, .aload_n 0, 108, [0], []),
  (108, .getfield 53, 111, [], []),
  (111, .iconst (-1), 112, [], [(-1)]),
  (112, .putfield 246, 115, [], []),
  (115, .iload_n 1, 116, [1], []),
  (116, .ifCond .ne 14, 119, [130], []),
  (119, .aload_n 0, 120, [0], []),
  (120, .getfield 90, 123, [], []),
  (123, .getfield 239, 126, [], []),
  (126, .i2l, 127, [], []),
  (127, .goto 12, 130, [139], []),
  (130, .lload_n 2, 131, [2], []),
  (131, .aload_n 0, 132, [0], []),
  (132, .getfield 90, 135, [], []),
  (135, .getfield 252, 138, [], []),
  (138, .lsub, 139, [], []),
  (139, .lreturn, 140, [], [])]
theorem zo_X11_bestLook : ab_ok cX11_bestLook zp_X11_bestLook = true := by decide +kernel
def zg_X11_bestLook : ab_G := (zw_C, zs_tab, zf_X11, zc_X11, [(144, 50), (147, 51)], [(231, 2, zt_X0_begin), (235, 3, zt_X0_offer), (242, 1, zt_X11_allHarm)], [(117, 3, zt_X11_within)])
theorem zm_X11_bestLook : ab_MG zg_X11_bestLook := ab_MGof (List.forall_mem_cons.mpr ⟨zt_X0_begin_mono, List.forall_mem_cons.mpr ⟨zt_X0_offer_mono, List.forall_mem_cons.mpr ⟨zt_X11_allHarm_mono, List.forall_mem_nil _⟩⟩⟩) (List.forall_mem_cons.mpr ⟨ab_pure_mono _, List.forall_mem_nil _⟩)
abbrev zr_X11_bestLook (Q : ab_R) : ab_K := ab_Run zg_X11_bestLook zp_X11_bestLook (some .long) 6 Q
set_option maxRecDepth 20000 in
theorem zv_X11_bestLook_0 {Q : ab_R} {M : ab_M} {N : ab_N} (l1 : Int32) (h : ((ab_b ((0 : Int32) ≤ l1 ∧ l1 ≤ (1 : Int32))) = 0 → Q (some (.long (-4611686018427387904 : Int64))) M N) ∧ (¬ ((ab_b ((0 : Int32) ≤ l1 ∧ l1 ≤ (1 : Int32))) = 0) → zt_X11_allHarm [.ref 0] M N (fun r M2 N2 => zr_X11_bestLook Q 17 [some (.ref 0), some (.int l1), none, none, none, none] (ab_ol r []) M2 N2))) : zr_X11_bestLook Q 0 [some (.ref 0), some (.int l1)] [] M N := ab_Run_s zm_X11_bestLook (sp := [(17, [true, true, false, false, false, false]), (26, [true, true, true, false, false, false]), (29, [true, true, true, false, true, false]), (46, [true, true, true, false, true, true]), (92, [true, true, true, false, true, true]), (95, [true, true, true, false, true, true])]) 71 h
set_option maxRecDepth 20000 in
theorem zv_X11_bestLook_17 {Q : ab_R} {M : ab_M} {N : ab_N} (l1 : Int32) (s0 : Int64) (h : zt_X0_begin [.ref 11, .long s0] M N (fun r M2 N2 => zr_X11_bestLook Q 26 [some (.ref 0), some (.int l1), some (.long s0), none, none, none] (ab_ol r []) M2 N2)) : zr_X11_bestLook Q 17 [some (.ref 0), some (.int l1), none, none, none, none] [.long s0] M N := ab_Run_s zm_X11_bestLook (sp := [(17, [true, true, false, false, false, false]), (26, [true, true, true, false, false, false]), (29, [true, true, true, false, true, false]), (46, [true, true, true, false, true, true]), (92, [true, true, true, false, true, true]), (95, [true, true, true, false, true, true])]) 71 h
set_option maxRecDepth 20000 in
theorem zv_X11_bestLook_26 {Q : ab_R} {M : ab_M} {N : ab_N} (l1 : Int32) (l2 : Int64) (h : zr_X11_bestLook Q 29 [some (.ref 0), some (.int l1), some (.long l2), none, some (.int (0 : Int32)), none] [] M N) : zr_X11_bestLook Q 26 [some (.ref 0), some (.int l1), some (.long l2), none, none, none] [] M N := ab_Run_s zm_X11_bestLook (sp := [(17, [true, true, false, false, false, false]), (26, [true, true, true, false, false, false]), (29, [true, true, true, false, true, false]), (46, [true, true, true, false, true, true]), (92, [true, true, true, false, true, true]), (95, [true, true, true, false, true, true])]) 71 h
set_option maxRecDepth 20000 in
theorem zv_X11_bestLook_29 {Q : ab_R} {M : ab_M} {N : ab_N} (l1 : Int32) (l2 : Int64) (l4 : Int32) (h : vp_in (0 : Int32) 5 ∧ (((M 17 0) ≤ l4 → let z1 : Nat → Int32 := upd (M 6) 11 (-1 : Int32); (l1 = 0 → Q (some (.long ((M 11 0).toInt64))) (ab_u M 6 z1) N) ∧ (¬ (l1 = 0) → Q (some (.long (l2 - (N 11 1)))) (ab_u M 6 z1) N)) ∧ (¬ ((M 17 0) ≤ l4) → zr_X11_bestLook Q 46 [some (.ref 0), some (.int l1), some (.long l2), none, some (.int l4), some (.int (0 : Int32))] [] M N))) : zr_X11_bestLook Q 29 [some (.ref 0), some (.int l1), some (.long l2), none, some (.int l4), none] [] M N := ab_Run_s zm_X11_bestLook (sp := [(17, [true, true, false, false, false, false]), (26, [true, true, true, false, false, false]), (29, [true, true, true, false, true, false]), (46, [true, true, true, false, true, true]), (92, [true, true, true, false, true, true]), (95, [true, true, true, false, true, true])]) 71 h
set_option maxRecDepth 20000 in
theorem zv_X11_bestLook_46 {Q : ab_R} {M : ab_M} {N : ab_N} (l1 : Int32) (l2 : Int64) (l4 : Int32) (l5 : Int32) (h : ((M 1 4) ≤ l5 → zr_X11_bestLook Q 29 [some (.ref 0), some (.int l1), some (.long l2), none, some (.int (l4 + (1 : Int32))), none] [] M N) ∧ (¬ ((M 1 4) ≤ l5) → let z1 : Nat → Int32 := upd (M 6) 11 l5; let z2 : Nat → Int32 := upd (z1) 12 l4; zt_X11_allHarm [.ref 0] (ab_u (ab_u M 6 z1) 6 z2) N (fun r M2 N2 => zr_X11_bestLook Q 92 [some (.ref 0), some (.int l1), some (.long l2), none, some (.int l4), some (.int l5)] (ab_ol r [.int (((10 : Int32) * l4) + l5), .ref 11]) M2 N2))) : zr_X11_bestLook Q 46 [some (.ref 0), some (.int l1), some (.long l2), none, some (.int l4), some (.int l5)] [] M N := ab_Run_s zm_X11_bestLook (sp := [(17, [true, true, false, false, false, false]), (26, [true, true, true, false, false, false]), (29, [true, true, true, false, true, false]), (46, [true, true, true, false, true, true]), (92, [true, true, true, false, true, true]), (95, [true, true, true, false, true, true])]) 71 h
set_option maxRecDepth 20000 in
theorem zv_X11_bestLook_92 {Q : ab_R} {M : ab_M} {N : ab_N} (l1 : Int32) (l2 : Int64) (l4 : Int32) (l5 : Int32) (s1 : Int32) (s2 : Int64) (h : zt_X0_offer [.ref 11, .int s1, .long s2] M N (fun r M2 N2 => zr_X11_bestLook Q 95 [some (.ref 0), some (.int l1), some (.long l2), none, some (.int l4), some (.int l5)] (ab_ol r []) M2 N2)) : zr_X11_bestLook Q 92 [some (.ref 0), some (.int l1), some (.long l2), none, some (.int l4), some (.int l5)] [.long s2, .int s1, .ref 11] M N := ab_Run_s zm_X11_bestLook (sp := [(17, [true, true, false, false, false, false]), (26, [true, true, true, false, false, false]), (29, [true, true, true, false, true, false]), (46, [true, true, true, false, true, true]), (92, [true, true, true, false, true, true]), (95, [true, true, true, false, true, true])]) 71 h
set_option maxRecDepth 20000 in
theorem zv_X11_bestLook_95 {Q : ab_R} {M : ab_M} {N : ab_N} (l1 : Int32) (l2 : Int64) (l4 : Int32) (l5 : Int32) (h : zr_X11_bestLook Q 46 [some (.ref 0), some (.int l1), some (.long l2), none, some (.int l4), some (.int (l5 + (1 : Int32)))] [] M N) : zr_X11_bestLook Q 95 [some (.ref 0), some (.int l1), some (.long l2), none, some (.int l4), some (.int l5)] [] M N := ab_Run_s zm_X11_bestLook (sp := [(17, [true, true, false, false, false, false]), (26, [true, true, true, false, false, false]), (29, [true, true, true, false, true, false]), (46, [true, true, true, false, true, true]), (92, [true, true, true, false, true, true]), (95, [true, true, true, false, true, true])]) 71 h
theorem zL_X11_bestLookI {Q : ab_R} {d : ab_M} {w : Int32} {h : Nat} {s : Int32 × Int64} (hN : zNight d) (hh : h < 12) (hk : ∀ M N x y, zFr (6 :: zQc) d M → zAsks M → M 6 = upd (upd (d 6) 11 x) 12 y → zBst M N (zBlI d h s (zPcs d)) → zr_X11_bestLook Q 29 [some (.ref 0), some (.int w), some (.long (zAll d)), none, some (.int (nI (h + 1))), none] [] M N) : ∀ (r p : Nat) (M : ab_M) (N : ab_N) (x y : Int32), p + r = zPcs d → zFr (6 :: zQc) d M → zAsks M → M 6 = upd (upd (d 6) 11 x) 12 y → zBst M N (zBlI d h s p) → zr_X11_bestLook Q 46 [some (.ref 0), some (.int w), some (.long (zAll d)), none, some (.int (nI h)), some (.int (nI p))] [] M N := by
  obtain ⟨n7, p8, n12, m5, n0, h12, -⟩ := zCn hN
  intro r
  induction r with
  | zero =>
    intro p M N x y hr hF hA e6 hb
    have e : p = zPcs d := by omega
    subst e
    have n7 : M 1 4 = nI (zPcs d) := by rw [hF 1 (by decide)]; exact n7
    refine zv_X11_bestLook_46 _ _ _ _ ?_
    rw [nI_1]
    exact ⟨fun _ => hk M N x y hF hA e6 hb, fun c => absurd (by rw [n7]; exact nI_le (Nat.le_refl _) (by omega)) c⟩
  | succ r ih =>
    intro p M N x y hr hF hA e6 hb
    have n7 : M 1 4 = nI (zPcs d) := by rw [hF 1 (by decide)]; exact n7
    refine zv_X11_bestLook_46 _ _ _ _ ⟨fun c => absurd (by rw [← n7]; exact c) (nI_ge (a := p) (b := zPcs d) (by omega) (by omega)), fun _ => ?_⟩
    intro z1 z2
    rw [ab_u_u]
    have ez : z2 = upd (upd (d 6) 11 (nI p)) 12 (nI h) := by
      simp only [z2, z1]
      rw [e6]
      funext j
      by_cases c2 : j = 12
      · rw [c2, upd_eq, upd_eq]
      · rw [upd_ne _ _ c2, upd_ne _ _ c2]
        by_cases c1 : j = 11
        · rw [c1, upd_eq, upd_eq]
        · rw [upd_ne _ _ c1, upd_ne _ _ c2, upd_ne _ _ c1, upd_ne _ _ c1]
    clear_value z2
    subst ez
    refine zAHC (d := zMoreD d (nI p) (nI h)) (s := zBlI d h s p) (zI0_6 hN.2.1 _ (by decide)) (zI1_6 hN.2.2 _ (by rw [upd_ne _ _ (by decide), upd_ne _ _ (by decide)]) (by rw [upd_ne _ _ (by decide), upd_ne _ _ (by decide)])) (zFr_same hF _) (zAsks_u hA _ (by decide)) ⟨by rw [ab_u_ne _ _ (by decide)]; exact hb.1, hb.2⟩ (fun M2 N2 f1 f2 f3 => ?_)
    refine zv_X11_bestLook_92 _ _ _ _ _ _ ?_
    rw [show (10 : Int32) * nI h + nI p = nI (10 * h + p) by rw [show (10 : Int32) = nI 10 from rfl, pk_mul, nI_add]]
    refine zOfC f3 (fun M3 N3 f4 f5 => zv_X11_bestLook_95 _ _ _ _ ?_)
    rw [nI_1]
    refine ih (p + 1) M3 N3 (nI p) (nI h) (by omega) (zFr_tr (zFr_tr (zFr_u hF (by decide) _) (zFr_mono f1 (by decide))) (zFr_mono f4 (by decide))) (zAsks_11 f2 f4) (by rw [f4 6 (by decide), f1 6 (by decide), ab_u_eq]) ?_
    unfold zBlI
    rw [zFo_t]
    exact f5
theorem zL_X11_bestLook {Q : ab_R} {d : ab_M} {w : Int32} (hN : zNight d) (h6 : zT6 d) (hk : ∀ M N, zFr (6 :: zQc) d M → zAsks M → zT6 M → Q (some (.long (if w = 0 then (zBlO d (zHrs d)).1.toInt64 else zAll d - (zBlO d (zHrs d)).2))) M N) : ∀ (r h : Nat) (M : ab_M) (N : ab_N) (x y : Int32), h + r = zHrs d → zFr (6 :: zQc) d M → zAsks M → M 6 = upd (upd (d 6) 11 x) 12 y → zBst M N (zBlO d h) → zr_X11_bestLook Q 29 [some (.ref 0), some (.int w), some (.long (zAll d)), none, some (.int (nI h)), none] [] M N := by
  obtain ⟨n7, p8, n12, m5, n0, h12, -⟩ := zCn hN
  intro r
  induction r with
  | zero =>
    intro h M N x y hr hF hA e6 hb
    have e : h = zHrs d := by omega
    subst e
    have n0 : M 17 0 = nI (zHrs d) := by rw [hF 17 (by decide)]; exact n0
    refine zv_X11_bestLook_29 _ _ _ ⟨ab_vpk (by decide), fun _ => ?_, fun c => absurd (by rw [n0]; exact nI_le (Nat.le_refl _) (by omega)) c⟩
    intro z1
    rw [hb.1, hb.2]
    have q1 : ∀ j, j ≠ 11 → j ≠ 12 → z1 j = d 6 j := fun j a b => by
      show upd (M 6) 11 (-1) j = _
      rw [upd_ne _ _ a, e6, upd_ne _ _ b, upd_ne _ _ a]
    have hk := hk (ab_u M 6 z1) N (zFr_u hF (by decide) _) (zAsks_u hA _ (by decide)) ⟨by rw [ab_u_eq, q1 7 (by decide) (by decide)]; exact h6.1, by rw [ab_u_eq, q1 8 (by decide) (by decide)]; exact h6.2.1, by rw [ab_u_eq]; exact upd_eq _ _ _⟩
    refine ⟨fun c => ?_, fun c => ?_⟩
    · rw [if_pos c] at hk; exact hk
    · rw [if_neg c] at hk; exact hk
  | succ r ih =>
    intro h M N x y hr hF hA e6 hb
    have n0 : M 17 0 = nI (zHrs d) := by rw [hF 17 (by decide)]; exact n0
    refine zv_X11_bestLook_29 _ _ _ ⟨ab_vpk (by decide), fun c => absurd (by rw [← n0]; exact c) (nI_ge (a := h) (b := zHrs d) (by omega) (by omega)), fun _ => ?_⟩
    exact zL_X11_bestLookI (s := zBlO d h) hN (by omega) (fun M2 N2 x2 y2 a b c e => ih (h + 1) M2 N2 x2 y2 (by omega) a b c e) (zPcs d) 0 M N x y (by omega) hF hA e6 hb
theorem upd2_same (f : Nat → Int32) (a b : Nat) : upd (upd f a (f a)) b (f b) = f := by rw [upd_same, upd_same]
theorem zE_X11_bestLook (as : List Value) (M : ab_M) (N : ab_N) (k : ab_R) (hT : zt_X11_bestLook as M N k) : ab_cs as ≤ 6 ∧ zr_X11_bestLook k 0 (ab_en as) [] M N := by
  obtain ⟨w, rfl, ⟨hN, h6⟩, hk⟩ := ab_m1_e hT
  have hk := fun M2 N2 (hF : zFr (6 :: zQc) M M2) (hA : zAsks M2) (h6 : zT6 M2) => hk _ M2 N2 ⟨hF, hA, h6, rfl⟩
  unfold zBlA at hk
  refine ⟨Nat.le_of_ble_eq_true rfl, zv_X11_bestLook_0 _ ⟨fun c => ?_, fun c => ?_⟩⟩
  · have hk := hk M N (zFr_rf _ _) hN.1 h6
    rw [if_neg (ab_b_0.mp c)] at hk
    exact hk
  · rw [if_pos (zIx0 c)] at hk
    refine zAHC0 hN.2.1 hN.2.2 (zFr_rf _ _) hN.1 (fun M2 N2 f1 f2 => zv_X11_bestLook_17 _ _ (zBgC (fun M3 N3 f3 f4 => zv_X11_bestLook_26 _ _ ?_)))
    exact zL_X11_bestLook hN h6 hk (zHrs M) 0 M3 N3 (M 6 11) (M 6 12) (by omega) (zFr_tr (zFr_mono f1 (by decide)) (zFr_mono f3 (by decide))) (zAsks_11 f2 f3) (by rw [f3 6 (by decide), f1 6 (by decide), upd2_same]) f4
abbrev zR_X11_bestLook : Room := { frames := 7, cells := 0, slots := 0, locals := 178 }
set_option maxRecDepth 20000 in
theorem zM_X11_bestLook (l : Launch) : ab_Met l zw_C vwCl zZ_C yX11_bestLook cX11_bestLook 6 (some .long) zR_X11_bestLook zt_X11_bestLook := ab_ofRun (G := zg_X11_bestLook) (P := zp_X11_bestLook) rfl zo_X11_bestLook (by decide +kernel) zl_cl zl_lamC zf_X11_ok zs_tabOK zc_X11_ok zs_X11_ok (List.forall_mem_cons.mpr ⟨ab_callV zZ_C_ok (zM_X0_begin l) (ab_in 783 (by decide +kernel) rfl) (ab_in 780 (by decide +kernel) rfl) (ab_in 781 (by decide +kernel) rfl) (ab_in 782 (by decide +kernel) rfl) (ab_in 12 (by decide +kernel) rfl) (by unfold ab_yok; decide +kernel) ⟨rfl, rfl⟩ (by decide) zV_X0_begin, List.forall_mem_cons.mpr ⟨ab_callV zZ_C_ok (zM_X0_offer l) (ab_in 787 (by decide +kernel) rfl) (ab_in 784 (by decide +kernel) rfl) (ab_in 785 (by decide +kernel) rfl) (ab_in 786 (by decide +kernel) rfl) (ab_in 12 (by decide +kernel) rfl) (by unfold ab_yok; decide +kernel) ⟨rfl, rfl⟩ (by decide) zV_X0_offer, List.forall_mem_cons.mpr ⟨ab_callV zZ_C_ok (zM_X11_allHarm l) (ab_in 795 (by decide +kernel) rfl) (ab_in 792 (by decide +kernel) rfl) (ab_in 794 (by decide +kernel) rfl) (ab_inS (List.mem_of_getElem? (i := 21) (by decide +kernel)) rfl) (ab_in 1 (by decide +kernel) rfl) (by unfold ab_yok; decide +kernel) ⟨rfl, rfl⟩ (by decide) zV_X11_allHarm, List.forall_mem_nil _⟩⟩⟩) (List.forall_mem_cons.mpr ⟨ab_callS zZ_C_ok (zM_X11_within l) (ab_in 538 (by decide +kernel) rfl) (ab_in 536 (by decide +kernel) rfl) (ab_in 537 (by decide +kernel) rfl) (ab_in 1 (by decide +kernel) rfl) (by unfold ab_yok; decide +kernel) ⟨rfl, rfl⟩ (by decide), List.forall_mem_nil _⟩) zE_X11_bestLook
section Unc
variable {d d2 : ab_M}
def zUnc (d d2 : ab_M) : Prop := (∀ c, c ≠ 17 → d2 c = d c) ∧ d2 17 0 = d 17 0 ∧ d2 17 1 = d 17 1 ∧ d2 17 2 = d 17 2 ∧ d 1 7 = -1
theorem zAsk_unc (h : zUnc d d2) : zAsk d2 = zAsk d := by
  obtain ⟨e, -, -, e2, -⟩ := h
  funext th p g st pc
  unfold zAsk zIs
  rw [zAskN_fr2 (e 3 (by decide)) (e 13 (by decide)) (e 14 (by decide)) e2 (e 18 (by decide)) (e 31 (by decide)) (e 32 (by decide)), e 15 (by decide)]
theorem zRiskF_unc (h : zUnc d d2) (g : Nat) (sc : Nat → Nat) (v f : Int32) : ∀ n, zRiskF d2 g sc v f n = zRiskF d g sc v f n
  | 0 => rfl
  | n + 1 => by
    rw [zRiskF, zRiskF, zRiskF_unc h g sc v f n, zAsk_unc h]
theorem zCome_unc (h : zUnc d d2) : zCome d2 = zCome d := by
  obtain ⟨e, -⟩ := id h
  have eP : zPcs d2 = zPcs d := by unfold zPcs; rw [e 1 (by decide)]
  funext g pl bk sc m
  unfold zCome
  rw [e 6 (by decide), e 25 (by decide), e 26 (by decide), e 27 (by decide), e 28 (by decide), e 29 (by decide), e 30 (by decide), e 1 (by decide), zRiskF_unc h, eP]
theorem zLk_unc (h : zUnc d d2) (g : Nat) (pl : Nat → Int32) (p : Nat) : ∀ n, zLk d2 g pl n p = zLk d g pl n p
  | 0 => by
    obtain ⟨e, -, -, -, e7⟩ := h
    unfold zLk zOth
    rw [e 1 (by decide), e 16 (by decide), e 6 (by decide), e7]
    have n0 : ∀ a b : Prop, ¬ ((0 : Int32) ≤ -1 ∧ a ∧ b) := fun a b z => absurd z.1 (by decide)
    simp only [if_neg (n0 _ _)]
  | n + 1 => by
    obtain ⟨e, -⟩ := id h
    unfold zLk
    rw [zLk_unc h g pl p n, e 6 (by decide), e 25 (by decide), e 29 (by decide)]
theorem zHr_unc (h : zUnc d d2) : zHr d2 = zHr d := by
  obtain ⟨e, -⟩ := id h
  have eM : zMen d2 = zMen d := by unfold zMen; rw [e 2 (by decide)]
  funext g s
  unfold zHr
  rw [zCome_unc h, eM]
  have eB : zBack d2 = zBack d := by
    funext g2 bk m x
    unfold zBack
    rw [e 26 (by decide), e 27 (by decide)]
  rw [eB]
  have eL : zLk d2 = zLk d := by
    funext g2 pl n p
    exact zLk_unc h g2 pl p n
  rw [eL]
theorem zWk_unc (h : zUnc d d2) : ∀ g, zWk d2 g = zWk d g
  | 0 => by rw [zWk, zWk, zHr_unc h]
  | g + 1 => by rw [zWk, zWk, zHr_unc h, zWk_unc h g]
theorem zSc_unc (h : zUnc d d2) (g p : Nat) : zSc d2 g p = zSc d g p := by
  rw [← zWk_sc, ← zWk_sc, zWk_unc h]
theorem zLooks_unc (h : zUnc d d2) (p g : Nat) (lk : Int32) (s : zRs) : ∀ n, zLooks d2 p g lk n s = zLooks d p g lk n s
  | 0 => rfl
  | n + 1 => by
    obtain ⟨e, -, e1, -⟩ := id h
    have eB : zBrk d2 = zBrk d := by unfold zBrk; rw [e1]
    have eL : zLook d2 = zLook d := by
      funext p h2 pc n
      induction n with
      | zero => rfl
      | succ n ih => funext s; show zLook1 d2 p h2 pc (n + 1) (zLook d2 p h2 pc n s) = _; rw [ih]; unfold zLook1; rw [zAsk_unc h]; rfl
    have eP : zPace d2 = zPace d := by
      funext w
      unfold zPace zMen
      rw [e 2 (by decide), e 28 (by decide)]
    unfold zLooks
    rw [zLooks_unc h p g lk s n, eL, eB, eP]
theorem zRk_unc (h : zUnc d d2) (p : Nat) : ∀ g, zRk d2 p g = zRk d p g
  | 0 => rfl
  | g + 1 => by
    obtain ⟨e, -, e1, -⟩ := id h
    have eB : zBrk d2 = zBrk d := by unfold zBrk; rw [e1]
    have eG : zGrow d2 = zGrow d := by
      funext p h2 sc s
      unfold zGrow
      rw [zAsk_unc h, eB]
    show zLooks d2 p g ((zWk d2 g).2.2.2 p) 8 (zGrow d2 p g (zSc d2 g p) (zRk d2 p g)) = zLooks d p g ((zWk d g).2.2.2 p) 8 (zGrow d p g (zSc d g p) (zRk d p g))
    rw [zLooks_unc h, zRk_unc h p g, eG, zSc_unc h, zWk_unc h]
theorem zAll_unc (h : zUnc d d2) : zAll d2 = zAll d := by
  obtain ⟨e, e0, e1, -⟩ := id h
  have eH : zHrs d2 = zHrs d := by unfold zHrs; rw [e0]
  have eB : zBrk d2 = zBrk d := by unfold zBrk; rw [e1]
  have eP : zPcs d2 = zPcs d := by unfold zPcs; rw [e 1 (by decide)]
  unfold zAll
  rw [eP]
  generalize zPcs d = n
  induction n with
  | zero => rfl
  | succ n ih =>
    unfold zSum
    rw [ih, zRk_unc h, eH]
    unfold zTold
    rw [eB]
end Unc
theorem zAll_tr (d : ab_M) (t : Int32) : zAll (zCalD (zTruD d t) (-1)) = zAll (zCalD d (-1)) := by
  have e17 : ∀ j, j ≠ 3 → zCalD (zTruD d t) (-1) 17 j = zCalD d (-1) 17 j := fun j hj => by
    unfold zCalD zTruD
    rw [ab_u_ne _ _ (by decide), ab_u_eq, upd_ne _ _ hj, ab_u_ne _ _ (by decide)]
  refine zAll_unc ⟨fun c hc => ?_, e17 0 (by decide), e17 1 (by decide), e17 2 (by decide), ?_⟩
  · unfold zCalD zTruD
    by_cases c1 : c = 1
    · rw [c1, ab_u_eq, ab_u_eq, ab_u_ne _ _ (by decide)]
    · rw [ab_u_ne _ _ c1, ab_u_ne _ _ c1, ab_u_ne _ _ hc]
  · unfold zCalD
    rw [ab_u_eq, upd_eq]
theorem zI0_tru {d : ab_M} (h : zI0 d) {t : Int32} (ht : 0 ≤ t ∧ t ≤ 8) : zI0 (zTruD d t) := by
  have e : ∀ c, c ≠ 17 → zTruD d t c = d c := fun c hc => ab_u_ne _ _ hc
  have ej : ∀ j, j ≠ 3 → zTruD d t 17 j = d 17 j := fun j hj => by unfold zTruD; rw [ab_u_eq, upd_ne _ _ hj]
  have e3 : zTruD d t 17 3 = t := by unfold zTruD; rw [ab_u_eq, upd_eq]
  unfold zI0 at h ⊢
  rw [e 1 (by decide), e 2 (by decide), ej 0 (by decide), ej 1 (by decide), ej 2 (by decide), ej 4 (by decide), e3]
  exact ⟨h.1, h.2.1, h.2.2.1, ht, h.2.2.2.2⟩
theorem zAsks_17 {M : ab_M} (h : zAsks M) {f : Nat → Int32} (hf : f 2 = M 17 2) : zAsks (ab_u M 17 f) := by
  have e : ∀ c, c ≠ 17 → ab_u M 17 f c = M c := fun c hc => ab_u_ne _ _ hc
  exact zAsks_k h (e 3 (by decide)) (by rw [e 5 (by decide)]) (e 13 (by decide)) (e 14 (by decide)) (by rw [e 15 (by decide)]; exact h.2.2) (by rw [ab_u_eq]; exact hf) (e 18 (by decide)) (e 31 (by decide)) (e 32 (by decide)) (e 36 (by decide))
def zt_X11_trusts : ab_T := ab_m2 0 (fun _ _ M _ => zNight M) (fun a b M N o M2 N2 => zFr zQc M M2 ∧ zAsks M2 ∧ o = some (.int (zTrA M a b)))
theorem zt_X11_trusts_mono : ab_mono zt_X11_trusts := ab_m2_mono _ _ _
theorem zV_X11_trusts : ab_recv zw_C vwCl RX11 zt_X11_trusts := ab_m2_v rfl rfl
def zp_X11_trusts : ab_P := [(0, .aload_n 0, 1, [0], []),
  (1, .getfield 10, 4, [], []),
  (4, .iload_n 1, 5, [1], []),
  (5, .invokevirtual 195, 8, [], []),
  (8, .ifCond .eq 14, 11, [22], []),
  (11, .iload_n 2, 12, [2], []),
  (12, .iconst 0, 13, [], [0]),
  (13, .sipush 9999, 16, [], [9999]),
  (16, .invokestatic 117, 19, [], []),
  (19, .ifCond .ne 6, 22, [25], []),
  (22, .bipush (-2), 24, [], [(-2)]),
  (24, .ireturn, 25, [], []),
  (25, .aload_n 0, 26, [0], []),
  (26, .getfield 10, 29, [], []),
  (29, .getfield 287, 32, [], []),
  (32, .istore_n 3, 33, [3], []),
  (33, .aload_n 0, 34, [0], []),
  (34, .getfield 10, 37, [], []),
  (37, .getfield 150, 40, [], []),
  (40, .iconst 3, 41, [], [3]),
  (41, .iaload, 42, [], []),
  (42, .istore 4, 44, [], []),
  (44, .aload_n 0, 45, [0], []),
  (45, .getfield 10, 48, [], []),
  (48, .iconst (-1), 49, [], [(-1)]),
  (49, .putfield 287, 52, [], []),
  (52, .aload_n 0, 53, [0], []),
  (53, .invokevirtual 242, 56, [], []),
  (56, .lstore 5, 58, [], []),
  (58, .aload_n 0, 59, [0], []),
  (59, .getfield 10, 62, [], []),
  (62, .iload_n 1, 63, [1], []),
  (63, .putfield 287, 66, [], []),
  (66, .iconst (-1), 67, [], [(-1)]),
  (67, .istore 7, 69, [], []),
  (69, .iconst 0, 70, [], [0]),
  (70, .istore 8, 72, [], []),
  (72, .iload 8, 74, [], []),
  (74, .iload 4, 76, [], []),
  (76, .if_icmp .gt 49, 79, [125], []),
  (79, .iload 7, 81, [], []),
  (81, .ifCond .ge 44, 84, [125], []),
  (84, .aload_n 0, 85, [0], []),
  (85, .getfield 10, 88, [], []),
  (88, .getfield 150, 91, [], []),
  (91, .iconst 3, 92, [], [3]),
  (92, .iload 4, 94, [], []),
  (94, .iload 8, 96, [], []),
  (96, .isub, 97, [], []),
  (97, .iastore, 98, [], []),
  (98, .lload 5, 100, [], []),
  (100, .aload_n 0, 101, [0], []),
  (101, .invokevirtual 242, 104, [], []),
  (104, .lsub, 105, [], []),
  (105, .iload_n 2, 106, [2], []),
  (106, .i2l, 107, [], []),
  (107, .ldc2_w 290, 110, [], []),
  (110, .lmul, 111, [], []),
  (111, .lcmp, 112, [], []),
  (112, .ifCond .gt 7, 115, [119], []),
  (115, .iload 8, 117, [], []),
  (117, .istore 7, 119, [], []),
  (119, .iinc 8 1, 122, [], [1]),
  (122, .goto (-50), 125, [72], []),
  (125, .aload_n 0, 126, [0], []),
  (126, .getfield 10, 129, [], []),
  (129, .iload_n 3, 130, [3], []),
  (130, .putfield 287, 133, [], []),
  (133, .aload_n 0, 134, [0], []),
  (134, .getfield 10, 137, [], []),
  (137, .getfield 150, 140, [], []),
  (140, .iconst 3, 141, [], [3]),
  (141, .iload 4, 143, [], []),
  (143, .iastore, 144, [], []),
  (144, .iload 7, 146, [], []),
  (146, .ifCond .le 8, 149, [154], []),
  (149, .iload 7, 151, [], []),
  (151, .goto 4, 154, [155], []),
  (154, .iconst (-1), 155, [], [(-1)]),
  (155, .ireturn, 156, [], [])]
theorem zo_X11_trusts : ab_ok cX11_trusts zp_X11_trusts = true := by decide +kernel
def zg_X11_trusts : ab_G := (zw_C, zs_tab, zf_X11, zc_X11, [(144, 50), (147, 51)], [(195, 2, zt_X2_hasHour), (242, 1, zt_X11_allHarm)], [(117, 3, zt_X11_within)])
theorem zm_X11_trusts : ab_MG zg_X11_trusts := ab_MGof (List.forall_mem_cons.mpr ⟨ab_pure_mono _, List.forall_mem_cons.mpr ⟨zt_X11_allHarm_mono, List.forall_mem_nil _⟩⟩) (List.forall_mem_cons.mpr ⟨ab_pure_mono _, List.forall_mem_nil _⟩)
abbrev zr_X11_trusts (Q : ab_R) : ab_K := ab_Run zg_X11_trusts zp_X11_trusts (some .int) 9 Q
set_option maxRecDepth 20000 in
theorem zv_X11_trusts_0 {Q : ab_R} {M : ab_M} {N : ab_N} (l1 : Int32) (l2 : Int32) (h : ((ab_b (0 ≤ l1 ∧ l1 < (M 17) 0 ∧ l1 < 12)) = 0 → Q (some (.int (-2 : Int32))) M N) ∧ (¬ ((ab_b (0 ≤ l1 ∧ l1 < (M 17) 0 ∧ l1 < 12)) = 0) → ((ab_b ((0 : Int32) ≤ l2 ∧ l2 ≤ (9999 : Int32))) = 0 → Q (some (.int (-2 : Int32))) M N) ∧ (¬ ((ab_b ((0 : Int32) ≤ l2 ∧ l2 ≤ (9999 : Int32))) = 0) → vp_in (3 : Int32) 5 ∧ (let z1 : Nat → Int32 := upd (M 1) 7 (-1 : Int32); zt_X11_allHarm [.ref 0] (ab_u M 1 z1) N (fun r M2 N2 => zr_X11_trusts Q 56 [some (.ref 0), some (.int l1), some (.int l2), some (.int (M 1 7)), some (.int (M 17 3)), none, none, none, none] (ab_ol r []) M2 N2))))) : zr_X11_trusts Q 0 [some (.ref 0), some (.int l1), some (.int l2)] [] M N := ab_Run_s zm_X11_trusts (sp := [(56, [true, true, true, true, true, false, false, false, false]), (72, [true, false, true, true, true, true, false, true, true]), (104, [true, false, true, true, true, true, false, true, true]), (125, [true, false, false, true, true, false, false, true, false])]) 82 h
set_option maxRecDepth 20000 in
theorem zv_X11_trusts_56 {Q : ab_R} {M : ab_M} {N : ab_N} (l1 : Int32) (l2 : Int32) (l3 : Int32) (l4 : Int32) (s0 : Int64) (h : let z1 : Nat → Int32 := upd (M 1) 7 l1; zr_X11_trusts Q 72 [some (.ref 0), none, some (.int l2), some (.int l3), some (.int l4), some (.long s0), none, some (.int (-1 : Int32)), some (.int (0 : Int32))] [] (ab_u M 1 z1) N) : zr_X11_trusts Q 56 [some (.ref 0), some (.int l1), some (.int l2), some (.int l3), some (.int l4), none, none, none, none] [.long s0] M N := ab_Run_s zm_X11_trusts (sp := [(56, [true, true, true, true, true, false, false, false, false]), (72, [true, false, true, true, true, true, false, true, true]), (104, [true, false, true, true, true, true, false, true, true]), (125, [true, false, false, true, true, false, false, true, false])]) 82 h
set_option maxRecDepth 20000 in
theorem zv_X11_trusts_72 {Q : ab_R} {M : ab_M} {N : ab_N} (l2 : Int32) (l3 : Int32) (l4 : Int32) (l5 : Int64) (l7 : Int32) (l8 : Int32) (h : (l4 < l8 → zr_X11_trusts Q 125 [some (.ref 0), none, none, some (.int l3), some (.int l4), none, none, some (.int l7), none] [] M N) ∧ (¬ (l4 < l8) → (0 ≤ l7 → zr_X11_trusts Q 125 [some (.ref 0), none, none, some (.int l3), some (.int l4), none, none, some (.int l7), none] [] M N) ∧ (¬ (0 ≤ l7) → vp_in (3 : Int32) 5 ∧ (let z1 : Nat → Int32 := upd (M 17) 3 (l4 - l8); zt_X11_allHarm [.ref 0] (ab_u M 17 z1) N (fun r M2 N2 => zr_X11_trusts Q 104 [some (.ref 0), none, some (.int l2), some (.int l3), some (.int l4), some (.long l5), none, some (.int l7), some (.int l8)] (ab_ol r [.long l5]) M2 N2))))) : zr_X11_trusts Q 72 [some (.ref 0), none, some (.int l2), some (.int l3), some (.int l4), some (.long l5), none, some (.int l7), some (.int l8)] [] M N := ab_Run_s zm_X11_trusts (sp := [(56, [true, true, true, true, true, false, false, false, false]), (72, [true, false, true, true, true, true, false, true, true]), (104, [true, false, true, true, true, true, false, true, true]), (125, [true, false, false, true, true, false, false, true, false])]) 82 h
set_option maxRecDepth 20000 in
theorem zv_X11_trusts_104 {Q : ab_R} {M : ab_M} {N : ab_N} (l2 : Int32) (l3 : Int32) (l4 : Int32) (l5 : Int64) (l7 : Int32) (l8 : Int32) (s0 : Int64) (s1 : Int64) (h : (0 < (lg_cmp (s0 - s1) ((l2.toInt64) * (1000000000 : Int64))) → zr_X11_trusts Q 72 [some (.ref 0), none, some (.int l2), some (.int l3), some (.int l4), some (.long l5), none, some (.int l7), some (.int (l8 + (1 : Int32)))] [] M N) ∧ (¬ (0 < (lg_cmp (s0 - s1) ((l2.toInt64) * (1000000000 : Int64)))) → zr_X11_trusts Q 72 [some (.ref 0), none, some (.int l2), some (.int l3), some (.int l4), some (.long l5), none, some (.int l8), some (.int (l8 + (1 : Int32)))] [] M N)) : zr_X11_trusts Q 104 [some (.ref 0), none, some (.int l2), some (.int l3), some (.int l4), some (.long l5), none, some (.int l7), some (.int l8)] [.long s1, .long s0] M N := ab_Run_s zm_X11_trusts (sp := [(56, [true, true, true, true, true, false, false, false, false]), (72, [true, false, true, true, true, true, false, true, true]), (104, [true, false, true, true, true, true, false, true, true]), (125, [true, false, false, true, true, false, false, true, false])]) 82 h
set_option maxRecDepth 20000 in
theorem zv_X11_trusts_125 {Q : ab_R} {M : ab_M} {N : ab_N} (l3 : Int32) (l4 : Int32) (l7 : Int32) (h : let z1 : Nat → Int32 := upd (M 1) 7 l3; vp_in (3 : Int32) 5 ∧ (let z2 : Nat → Int32 := upd (M 17) 3 l4; (l7 ≤ 0 → Q (some (.int (-1 : Int32))) (ab_u (ab_u M 1 z1) 17 z2) N) ∧ (¬ (l7 ≤ 0) → Q (some (.int l7)) (ab_u (ab_u M 1 z1) 17 z2) N))) : zr_X11_trusts Q 125 [some (.ref 0), none, none, some (.int l3), some (.int l4), none, none, some (.int l7), none] [] M N := ab_Run_s zm_X11_trusts (sp := [(56, [true, true, true, true, true, false, false, false, false]), (72, [true, false, true, true, true, true, false, true, true]), (104, [true, false, true, true, true, true, false, true, true]), (125, [true, false, false, true, true, false, false, true, false])]) 82 h
theorem zTrs_c {d : ab_M} (h : zI0 d) : d 17 3 = nI (zTrs d) ∧ zTrs d ≤ 8 := zNat 8 8 h.2.2.2.1.1 h.2.2.2.1.2
theorem zL_X11_trustsE {Q : ab_R} {d M : ab_M} {N : ab_N} {f : Int32} {a x : Int32} (hF : zFr (17 :: 1 :: zQc) d M) (hA : zAsks M) (e1 : M 1 = upd (d 1) 7 a) (e17 : M 17 = upd (d 17) 3 x) (hk : ∀ M N, zFr zQc d M → zAsks M → Q (some (.int (if f ≤ 0 then -1 else f))) M N) : zr_X11_trusts Q 125 [some (.ref 0), none, none, some (.int (d 1 7)), some (.int (d 17 3)), none, none, some (.int f), none] [] M N := by
  refine zv_X11_trusts_125 _ _ _ ?_
  intro z1
  refine ⟨ab_vpk (by decide), ?_⟩
  intro z2
  have ez1 : z1 = d 1 := by simp only [z1]; rw [e1, upd_upd, upd_same]
  have ez2 : z2 = d 17 := by simp only [z2]; rw [e17, upd_upd, upd_same]
  have hF1 : zFr (1 :: zQc) d (ab_u M 17 z2) := zFr_back hF ez2
  have hF2 : zFr zQc d (ab_u (ab_u M 1 z1) 17 z2) := by
    have : ab_u (ab_u M 1 z1) 17 z2 = ab_u (ab_u M 17 z2) 1 z1 := by
      funext c
      by_cases c1 : c = 1
      · rw [c1, ab_u_ne _ _ (by decide), ab_u_eq, ab_u_eq]
      · rw [ab_u_ne _ _ c1]
        by_cases c17 : c = 17
        · rw [c17, ab_u_eq, ab_u_eq]
        · rw [ab_u_ne _ _ c17, ab_u_ne _ _ c17, ab_u_ne _ _ c1]
    rw [this]
    exact zFr_back hF1 ez1
  have hA2 : zAsks (ab_u (ab_u M 1 z1) 17 z2) := zAsks_17 (zAsks_u hA _ (by decide)) (by rw [ez2, ab_u_ne _ _ (by decide), e17, upd_ne _ _ (by decide)])
  have hk := hk _ N hF2 hA2
  refine ⟨fun c => ?_, fun c => ?_⟩
  · rw [if_pos c] at hk; exact hk
  · rw [if_neg c] at hk; exact hk
/-- one n tried -/
theorem zL_X11_trusts1 {Q : ab_R} {d : ab_M} {a l : Int32} {n : Nat} {M : ab_M} {N : ab_N} {x : Int32} (hN : zNight d) (ha : -1 ≤ a ∧ a ≤ 11) (hn : n ≤ zTrs d) (hF : zFr (17 :: 1 :: zQc) d M) (hA : zAsks M) (e1 : M 1 = upd (d 1) 7 a) (e17 : M 17 = upd (d 17) 3 x) (h0 : zLit d a l (nI (zTrs d - n)) = 0 → ∀ M N x, zFr (17 :: 1 :: zQc) d M → zAsks M → M 1 = upd (d 1) 7 a → M 17 = upd (d 17) 3 x → zr_X11_trusts Q 72 [some (.ref 0), none, some (.int l), some (.int (d 1 7)), some (.int (d 17 3)), some (.long (zAll (zCalD d (-1)))), none, some (.int (-1)), some (.int (nI (n + 1)))] [] M N)
    (hk : ¬ zLit d a l (nI (zTrs d - n)) = 0 → ∀ M N, zFr zQc d M → zAsks M → Q (some (.int (if nI n ≤ 0 then -1 else nI n))) M N) : zr_X11_trusts Q 72 [some (.ref 0), none, some (.int l), some (.int (d 1 7)), some (.int (d 17 3)), some (.long (zAll (zCalD d (-1)))), none, some (.int (-1)), some (.int (nI n))] [] M N := by
  obtain ⟨t1, t2⟩ := zTrs_c hN.2.1
  have es : d 17 3 - nI n = nI (zTrs d - n) := by rw [t1, pk_sub hn]
  have ht : 0 ≤ nI (zTrs d - n) ∧ nI (zTrs d - n) ≤ 8 := ⟨nI_pos' (by omega), nI_le (b := 8) (by omega) (by decide)⟩
  refine zv_X11_trusts_72 _ _ _ _ _ _ ⟨fun c => absurd (by rw [← t1]; exact c) (nI_nlt (a := zTrs d) (b := n) hn (by omega)), fun _ => ⟨fun c => absurd c (by decide), fun _ => ⟨ab_vpk (by decide), ?_⟩⟩⟩
  intro z1
  have ez : z1 = upd (d 17) 3 (nI (zTrs d - n)) := by simp only [z1]; rw [e17, upd_upd, es]
  clear_value z1
  subst ez
  have gF : zFr zQc (zCalD (zTruD d (nI (zTrs d - n))) a) (ab_u M 17 (upd (d 17) 3 (nI (zTrs d - n)))) := by
    have q := zFr_same hF (upd (d 17) 3 (nI (zTrs d - n)))
    intro c hc
    unfold zCalD
    by_cases c1 : c = 1
    · rw [c1, ab_u_ne _ _ (by decide), ab_u_eq, e1]
      unfold zTruD
      rw [ab_u_ne _ _ (by decide)]
    · rw [ab_u_ne _ _ c1]
      exact q c (by simp only [List.mem_cons, not_or]; exact ⟨c1, by simpa using hc⟩)
  refine zAHC0 (d := zCalD (zTruD d (nI (zTrs d - n))) a) (zI0_cal (zI0_tru hN.2.1 ht) ha) (zI1_cal (zI1_k hN.2.2 _ (by decide)) a) gF (zAsks_17 hA (by rw [e17, upd_ne _ _ (by decide), upd_ne _ _ (by decide)])) (fun M2 N2 f1 f2 => ?_)
  have hF2 : zFr (17 :: 1 :: zQc) d M2 := zFr_tr (zFr_u hF (by decide) _) (zFr_mono f1 (by decide))
  have e12 : M2 1 = upd (d 1) 7 a := by rw [f1 1 (by decide), ab_u_ne _ _ (by decide), e1]
  have e172 : M2 17 = upd (d 17) 3 (nI (zTrs d - n)) := by rw [f1 17 (by decide), ab_u_eq]
  have el : zLit d a l (nI (zTrs d - n)) = if 0 < lg_cmp (zAll (zCalD d (-1)) - zAll (zCalD (zTruD d (nI (zTrs d - n))) a)) (l.toInt64 * 1000000000) then 0 else 1 := by
    unfold zLit
    rw [← zAll_tr d (nI (zTrs d - n)), zAll_cal, zAll_cal, zTruD_p, Int64.mul_comm]
  refine zv_X11_trusts_104 _ _ _ _ _ _ _ _ ⟨fun c => ?_, fun c => ?_⟩
  · rw [if_pos c] at el
    rw [nI_1]
    exact h0 el M2 N2 _ hF2 f2 e12 e172
  · rw [if_neg c] at el
    rw [nI_1]
    have hk := hk (by rw [el]; decide)
    refine zv_X11_trusts_72 _ _ _ _ _ _ ⟨fun _ => zL_X11_trustsE hF2 f2 e12 e172 hk, fun _ => ⟨fun _ => zL_X11_trustsE hF2 f2 e12 e172 hk, fun c => absurd (nI_pos' (by omega)) c⟩⟩
theorem zL_X11_trusts {Q : ab_R} {d : ab_M} {a l res : Int32} (hN : zNight d) (ha : -1 ≤ a ∧ a ≤ 11) (hk : ∀ M N, zFr zQc d M → zAsks M → Q (some (.int res)) M N) : ∀ (r n : Nat) (M : ab_M) (N : ab_N) (x : Int32), 1 ≤ n → n + r = zTrs d + 1 → zFr (17 :: 1 :: zQc) d M → zAsks M → M 1 = upd (d 1) 7 a → M 17 = upd (d 17) 3 x → zTrF d a l (zTrs d) r n = res → zr_X11_trusts Q 72 [some (.ref 0), none, some (.int l), some (.int (d 1 7)), some (.int (d 17 3)), some (.long (zAll (zCalD d (-1)))), none, some (.int (-1)), some (.int (nI n))] [] M N := by
  obtain ⟨t1, t2⟩ := zTrs_c hN.2.1
  intro r
  induction r with
  | zero =>
    intro n M N x h1 hr hF hA e1 e17 e
    have e0 : zTrF d a l (zTrs d) 0 n = -1 := rfl
    have hk2 : ∀ M N, zFr zQc d M → zAsks M → Q (some (.int (if (-1 : Int32) ≤ 0 then -1 else -1))) M N := fun M N p q => by
      have := hk M N p q
      rw [← e, e0] at this
      exact this
    refine zv_X11_trusts_72 _ _ _ _ _ _ ⟨fun _ => zL_X11_trustsE hF hA e1 e17 hk2, fun c => absurd (by rw [t1]; exact nI_lt (by omega) (by omega)) c⟩
  | succ r ih =>
    intro n M N x h1 hr hF hA e1 e17 e
    have e2 : zTrF d a l (zTrs d) (r + 1) n = if zLit d a l (nI (zTrs d - n)) = 0 then zTrF d a l (zTrs d) r (n + 1) else nI n := rfl
    refine zL_X11_trusts1 hN ha (by omega) hF hA e1 e17 (fun z M2 N2 x2 q1 q2 q3 q4 => ?_) (fun z M2 N2 q1 q2 => ?_)
    · exact ih (n + 1) M2 N2 x2 (by omega) (by omega) q1 q2 q3 q4 (by rw [← e, e2, if_pos z])
    · have := hk M2 N2 q1 q2
      rw [← e, e2, if_neg z] at this
      rw [if_neg (nI_nle (n := n) (by omega) (by omega))]
      exact this
theorem zE_X11_trusts (as : List Value) (M : ab_M) (N : ab_N) (k : ab_R) (hT : zt_X11_trusts as M N k) : ab_cs as ≤ 9 ∧ zr_X11_trusts k 0 (ab_en as) [] M N := by
  obtain ⟨a, l, rfl, hN, hk⟩ := ab_m2_e hT
  obtain ⟨n7, p8, n12, m5, n0, h12, -⟩ := zCn hN
  have hk := fun M2 N2 (hF : zFr zQc M M2) (hA : zAsks M2) => hk _ M2 N2 ⟨hF, hA, rfl⟩
  unfold zTrA at hk
  refine ⟨Nat.le_of_ble_eq_true rfl, zv_X11_trusts_0 _ _ ?_⟩
  rw [n0]
  refine ⟨fun c => ?_, fun c => ⟨fun c2 => ?_, fun c2 => ⟨ab_vpk (by decide), ?_⟩⟩⟩
  · have hk := hk M N (zFr_rf _ _) hN.1
    rw [if_neg (zIcn h12 rfl (by decide) c)] at hk
    exact hk
  · have hk := hk M N (zFr_rf _ _) hN.1
    rw [if_pos (zIcp h12 rfl (by decide) c), if_neg (ab_b_0.mp c2)] at hk
    exact hk
  · have a1 := zIcp h12 rfl (by decide) c
    rw [if_pos a1, if_pos (zIx0 c2)] at hk
    obtain ⟨ka, y, ea⟩ := zIxN (by omega) a1
    have ha : -1 ≤ a ∧ a ≤ 11 := by rw [ea]; exact ⟨Int32.le_trans (by decide) (nI_pos' (n := ka) (by omega)), nI_le (b := 11) (by omega) (by decide)⟩
    intro z1
    have hF : zFr (1 :: zQc) M M := zFr_rf _ _
    refine zAHC0 (d := zCalD M (-1)) (zI0_cal hN.2.1 (by decide)) (zI1_cal hN.2.2 _) (zFr_same hF _) (zAsks_u hN.1 _ (by decide)) (fun M2 N2 f1 f2 => ?_)
    refine zv_X11_trusts_56 _ _ _ _ _ ?_
    intro z2
    have ez : z2 = upd (M 1) 7 a := by simp only [z2]; rw [f1 1 (by decide), ab_u_eq]; simp only [z1]; rw [upd_upd]
    have hF2 : zFr (17 :: 1 :: zQc) M (ab_u M2 1 z2) := zFr_u (zFr_tr (zFr_u (zFr_rf _ _) (by decide) _) (zFr_mono f1 (by decide))) (by decide) _
    have q1 : ab_u M2 1 z2 1 = upd (M 1) 7 a := by rw [ab_u_eq, ez]
    have q17 : ab_u M2 1 z2 17 = upd (M 17) 3 (M 17 3) := by rw [ab_u_ne _ _ (by decide), f1 17 (by decide), ab_u_ne _ _ (by decide), upd_same]
    refine zL_X11_trusts1 (n := 0) hN ha (Nat.zero_le _) hF2 (zAsks_u f2 _ (by decide)) q1 q17 (fun z M3 N3 x3 w1 w2 w3 w4 => ?_) (fun z M3 N3 w1 w2 => ?_)
    · rw [Nat.sub_zero] at z
      rw [if_pos z] at hk
      exact zL_X11_trusts hN ha hk (zTrs M) 1 M3 N3 x3 (Nat.le_refl _) (by omega) w1 w2 w3 w4 rfl
    · rw [Nat.sub_zero] at z
      rw [if_neg z] at hk
      exact hk M3 N3 w1 w2
abbrev zR_X11_trusts : Room := { frames := 7, cells := 0, slots := 0, locals := 178 }
set_option maxRecDepth 20000 in
theorem zM_X11_trusts (l : Launch) : ab_Met l zw_C vwCl zZ_C yX11_trusts cX11_trusts 9 (some .int) zR_X11_trusts zt_X11_trusts := ab_ofRun (G := zg_X11_trusts) (P := zp_X11_trusts) rfl zo_X11_trusts (by decide +kernel) zl_cl zl_lamC zf_X11_ok zs_tabOK zc_X11_ok zs_X11_ok (List.forall_mem_cons.mpr ⟨ab_callV zZ_C_ok (zM_X2_hasHour l) (ab_in 654 (by decide +kernel) rfl) (ab_in 651 (by decide +kernel) rfl) (ab_in 652 (by decide +kernel) rfl) (ab_in 653 (by decide +kernel) rfl) (ab_in 2 (by decide +kernel) rfl) (by unfold ab_yok; decide +kernel) ⟨rfl, rfl⟩ (by decide) zV_X2_hasHour, List.forall_mem_cons.mpr ⟨ab_callV zZ_C_ok (zM_X11_allHarm l) (ab_in 795 (by decide +kernel) rfl) (ab_in 792 (by decide +kernel) rfl) (ab_in 794 (by decide +kernel) rfl) (ab_inS (List.mem_of_getElem? (i := 21) (by decide +kernel)) rfl) (ab_in 1 (by decide +kernel) rfl) (by unfold ab_yok; decide +kernel) ⟨rfl, rfl⟩ (by decide) zV_X11_allHarm, List.forall_mem_nil _⟩⟩) (List.forall_mem_cons.mpr ⟨ab_callS zZ_C_ok (zM_X11_within l) (ab_in 538 (by decide +kernel) rfl) (ab_in 536 (by decide +kernel) rfl) (ab_in 537 (by decide +kernel) rfl) (ab_in 1 (by decide +kernel) rfl) (by unfold ab_yok; decide +kernel) ⟨rfl, rfl⟩ (by decide), List.forall_mem_nil _⟩) zE_X11_trusts
