/-! the class: what is reckoned *)
-/
theorem zRkC {M : ab_M} {N : ab_N} {p h : Nat} (hN : zNight M) (hW : zWalked M) (hp : p < zPcs M) (hh : h ≤ zHrs M) {k : ab_R} (hk : ∀ M2 N2, zFr [33, 35, 36] M M2 → zNight M2 → zWalked M2 → zNfr [7, 41] N N2 → zHas N2 (zRk M p h) → k none M2 N2) : zt_X6_reckon [.ref 7, .int (nI p), .int (nI h)] M N k := by
  have b1 := zPcs_lt M
  have b2 := (zH_eq hN.2.1).2
  refine ab_m2_i ⟨hN, hW, p, h, hp, hh, rfl, rfl⟩ ?_
  rintro o M2 N2 ⟨rfl, f1, f2, f3, f4⟩
  rw [nI_clamp (show p < 2 ^ 31 by omega), nI_clamp (show h < 2 ^ 31 by omega)] at f4
  exact hk M2 N2 f1 (zNight_fr hN f2 f1) (zWalked_fr f1 hW) f3 f4
theorem zQc_E {M M2 : ab_M} (h : zFr zQc M M2) : zEqv M M2 := zEqv_gx (zFr_mono h (by decide))
theorem zTold_k {d M : ab_M} {N : ab_N} {s : zRs} {w : Nat} (hw : w ≤ 2) (h : zHas N s) (h1 : M 17 1 = nI (zBrk d)) (h6 : zBrk d ≤ 6) : (if nI w = 0 then N 7 4 else if nI w = 1 then N 41 ((M 17) 1).toNatClampNeg else N 7 5) = zTold d s w := by
  obtain ⟨a, b, c⟩ := h
  unfold zTold
  rw [h1, nI_clamp (show zBrk d < 2 ^ 31 by omega), a _ (by omega), b, c]
  rcases (show w = 0 ∨ w = 1 ∨ w = 2 by omega) with rfl | rfl | rfl
  · rfl
  · rfl
  · rfl
def zt_X11_run : ab_T := ab_m1 0 (fun _ M _ => zNight M) (fun x M N o M2 N2 => zFr zQc M M2 ∧ zAsks M2 ∧ o = some (.long (if 0 ≤ x ∧ x ≤ 2 then zSum M x.toNatClampNeg (zPcs M) else -4611686018427387904)))
theorem zt_X11_run_mono : ab_mono zt_X11_run := ab_m1_mono _ _ _
theorem zV_X11_run : ab_recv zw_C vwCl RX11 zt_X11_run := ab_m1_v rfl rfl
def zp_X11_run : ab_P := [(0, .iload_n 1, 1, [1], []),
  (1, .iconst 0, 2, [], [0]),
  (2, .iconst 2, 3, [], [2]),
  (3, .invokestatic 117, 6, [], []),
  (6, .ifCond .ne 7, 9, [13], []),
  (9, .ldc2_w 218, 12, [], []),
  (12, .lreturn, 13, [], []),
  (13, .aload_n 0, 14, [0], []),
  (14, .getfield 53, 17, [], []),
  (17, .invokevirtual 198, 20, [], []),
  (20, .lconst 0, 21, [0], []),
  (21, .lstore_n 2, 22, [2], []),
  (22, .iconst 0, 23, [], [0]),
  (23, .istore 4, 25, [], []),
  (25, .iload 4, 27, [], []),
  (27, .aload_n 0, 28, [0], []),
  (28, .getfield 10, 31, [], []),
  (31, .getfield 121, 34, [], []),
  (34, .if_icmp .ge 38, 37, [72], []),
  (37, .aload_n 0, 38, [0], []),
  (38, .getfield 62, 41, [], []),
  (41, .iload 4, 43, [], []),
  (43, .aload_n 0, 44, [0], []),
  (44, .getfield 10, 47, [], []),
  (47, .getfield 150, 50, [], []),
  (50, .iconst 0, 51, [], [0]),
  (51, .iaload, 52, [], []),
  (52, .invokevirtual 220, 55, [], []),
  (55, .lload_n 2, 56, [2], []),
  (56, .aload_n 0, 57, [0], []),
  (57, .getfield 62, 60, [], []),
  (60, .iload_n 1, 61, [1], []),
  (61, .invokevirtual 224, 64, [], []),
  (64, .ladd, 65, [], []),
  (65, .lstore_n 2, 66, [2], []),
  (66, .iinc 4 1, 69, [], [1]),
  (69, .goto (-44), 72, [25], []),
  (72, .lload_n 2, 73, [2], []),
  (73, .lreturn, 74, [], [])]
theorem zo_X11_run : ab_ok cX11_run zp_X11_run = true := by decide +kernel
def zg_X11_run : ab_G := (zw_C, zs_tab, zf_X11, zc_X11, [(144, 50), (147, 51)], [(198, 1, zt_X10_go), (220, 3, zt_X6_reckon), (224, 2, zt_X6_told)], [(117, 3, zt_X11_within)])
theorem zm_X11_run : ab_MG zg_X11_run := ab_MGof (List.forall_mem_cons.mpr ⟨zt_X10_go_mono, List.forall_mem_cons.mpr ⟨zt_X6_reckon_mono, List.forall_mem_cons.mpr ⟨ab_pp_mono _, List.forall_mem_nil _⟩⟩⟩) (List.forall_mem_cons.mpr ⟨ab_pure_mono _, List.forall_mem_nil _⟩)
abbrev zr_X11_run (Q : ab_R) : ab_K := ab_Run zg_X11_run zp_X11_run (some .long) 5 Q
set_option maxRecDepth 20000 in
theorem zv_X11_run_0 {Q : ab_R} {M : ab_M} {N : ab_N} (l1 : Int32) (h : ((ab_b ((0 : Int32) ≤ l1 ∧ l1 ≤ (2 : Int32))) = 0 → Q (some (.long (-4611686018427387904 : Int64))) M N) ∧ (¬ ((ab_b ((0 : Int32) ≤ l1 ∧ l1 ≤ (2 : Int32))) = 0) → zt_X10_go [.ref 6] M N (fun r M2 N2 => zr_X11_run Q 20 [some (.ref 0), some (.int l1), none, none, none] (ab_ol r []) M2 N2))) : zr_X11_run Q 0 [some (.ref 0), some (.int l1)] [] M N := ab_Run_s zm_X11_run (sp := [(20, [true, true, false, false, false]), (25, [true, true, true, false, true]), (55, [true, true, true, false, true])]) 41 h
set_option maxRecDepth 20000 in
theorem zv_X11_run_20 {Q : ab_R} {M : ab_M} {N : ab_N} (l1 : Int32) (h : zr_X11_run Q 25 [some (.ref 0), some (.int l1), some (.long (0 : Int64)), none, some (.int (0 : Int32))] [] M N) : zr_X11_run Q 20 [some (.ref 0), some (.int l1), none, none, none] [] M N := ab_Run_s zm_X11_run (sp := [(20, [true, true, false, false, false]), (25, [true, true, true, false, true]), (55, [true, true, true, false, true])]) 41 h
set_option maxRecDepth 20000 in
theorem zv_X11_run_25 {Q : ab_R} {M : ab_M} {N : ab_N} (l1 : Int32) (l2 : Int64) (l4 : Int32) (h : ((M 1 4) ≤ l4 → Q (some (.long l2)) M N) ∧ (¬ ((M 1 4) ≤ l4) → vp_in (0 : Int32) 5 ∧ (zt_X6_reckon [.ref 7, .int l4, .int (M 17 0)] M N (fun r M2 N2 => zr_X11_run Q 55 [some (.ref 0), some (.int l1), some (.long l2), none, some (.int l4)] (ab_ol r []) M2 N2)))) : zr_X11_run Q 25 [some (.ref 0), some (.int l1), some (.long l2), none, some (.int l4)] [] M N := ab_Run_s zm_X11_run (sp := [(20, [true, true, false, false, false]), (25, [true, true, true, false, true]), (55, [true, true, true, false, true])]) 41 h
set_option maxRecDepth 20000 in
theorem zv_X11_run_55 {Q : ab_R} {M : ab_M} {N : ab_N} (l1 : Int32) (l2 : Int64) (l4 : Int32) (h : (vp_in ((M 17) 1) 7) ∧ (zr_X11_run Q 25 [some (.ref 0), some (.int l1), some (.long (l2 + (if l1 = 0 then N 7 4 else if l1 = 1 then N 41 ((M 17) 1).toNatClampNeg else N 7 5))), none, some (.int (l4 + (1 : Int32)))] [] M N)) : zr_X11_run Q 55 [some (.ref 0), some (.int l1), some (.long l2), none, some (.int l4)] [] M N := ab_Run_s zm_X11_run (sp := [(20, [true, true, false, false, false]), (25, [true, true, true, false, true]), (55, [true, true, true, false, true])]) 41 h
theorem zL_X11_run {Q : ab_R} {d : ab_M} {w : Nat} (hw : w ≤ 2) (hk : ∀ M N, zFr zQc d M → zAsks M → Q (some (.long (zSum d w (zPcs d)))) M N) : ∀ (r p : Nat) (M : ab_M) (N : ab_N), p + r = zPcs d → zFr zQc d M → zNight M → zWalked M → zr_X11_run Q 25 [some (.ref 0), some (.int (nI w)), some (.long (zSum d w p)), none, some (.int (nI p))] [] M N := by
  intro r
  induction r with
  | zero =>
    intro p M N hr hF hN hW
    obtain ⟨n7, p8, -⟩ := zCn hN
    have eP := zEqv_pcs (zQc_E hF)
    have e : p = zPcs d := by omega
    subst e
    exact zv_X11_run_25 _ _ _ ⟨fun _ => hk M N hF hN.1, fun c => absurd (by rw [n7, eP]; exact nI_le (Nat.le_refl _) (by omega)) c⟩
  | succ r ih =>
    intro p M N hr hF hN hW
    obtain ⟨n7, p8, n12, m5, n0, h12, n1, b6, b2⟩ := zCn hN
    have E := zQc_E hF
    have eP := zEqv_pcs E
    refine zv_X11_run_25 _ _ _ ?_
    rw [n7, n0]
    refine ⟨fun c => absurd c (nI_ge (by omega) (by omega)), fun _ => ⟨ab_vpk (by decide), zRkC hN hW (by omega) (Nat.le_refl _) (fun M2 N2 f1 f2 f3 f4 f5 => ?_)⟩⟩
    rw [zRk_eqv E (by omega), zEqv_hrs E] at f5
    have e1 : M2 17 1 = nI (zBrk d) := by rw [f1 17 (by decide), n1, zEqv_brk E]
    have hb : zBrk d ≤ 6 := by rw [← zEqv_brk E]; exact b6
    refine zv_X11_run_55 _ _ _ ?_
    rw [zTold_k hw f5 e1 hb, e1, nI_1]
    exact ⟨nI_in_ (by omega), ih (p + 1) M2 N2 (by omega) (zFr_tr hF (zFr_mono f1 (by decide))) f2 f3⟩
theorem zE_X11_run (as : List Value) (M : ab_M) (N : ab_N) (k : ab_R) (hT : zt_X11_run as M N k) : ab_cs as ≤ 5 ∧ zr_X11_run k 0 (ab_en as) [] M N := by
  obtain ⟨w, rfl, hN, hk⟩ := ab_m1_e hT
  refine ⟨Nat.le_of_ble_eq_true rfl, zv_X11_run_0 _ ⟨fun c => hk _ _ _ ⟨zFr_rf _ _, hN.1, by rw [if_neg (ab_b_0.mp c)]⟩, fun c => ab_m0_i hN ?_⟩⟩
  rintro o M2 N2 ⟨rfl, rfl, g1, gA, g2⟩
  have c := zIx0 c
  obtain ⟨kw, hw, rfl⟩ := zIxM (n := 2) (by decide) c
  have g3 := zFr_mono (L2 := zQc) g1 (by decide)
  exact zv_X11_run_20 _ (zL_X11_run (d := M) hw (fun M3 N3 a b => hk _ _ _ ⟨a, b, by rw [if_pos c, nI_clamp (by omega)]⟩) (zPcs M) 0 M2 N2 (by omega) g3 (zNight_of hN gA g1) (zWalked_go g1 g2))
abbrev zR_X11_run : Room := { frames := 6, cells := 0, slots := 0, locals := 155 }
set_option maxRecDepth 20000 in
theorem zM_X11_run (l : Launch) : ab_Met l zw_C vwCl zZ_C yX11_run cX11_run 5 (some .long) zR_X11_run zt_X11_run := ab_ofRun (G := zg_X11_run) (P := zp_X11_run) rfl zo_X11_run (by decide +kernel) zl_cl zl_lamC zf_X11_ok zs_tabOK zc_X11_ok zs_X11_ok (List.forall_mem_cons.mpr ⟨ab_callV zZ_C_ok (zM_X10_go l) (ab_in 658 (by decide +kernel) rfl) (ab_in 655 (by decide +kernel) rfl) (ab_in 656 (by decide +kernel) rfl) (ab_in 657 (by decide +kernel) rfl) (ab_in 7 (by decide +kernel) rfl) (by unfold ab_yok; decide +kernel) ⟨rfl, rfl⟩ (by decide) zV_X10_go, List.forall_mem_cons.mpr ⟨ab_callV zZ_C_ok (zM_X6_reckon l) (ab_in 737 (by decide +kernel) rfl) (ab_in 734 (by decide +kernel) rfl) (ab_in 735 (by decide +kernel) rfl) (ab_in 736 (by decide +kernel) rfl) (ab_in 8 (by decide +kernel) rfl) (by unfold ab_yok; decide +kernel) ⟨rfl, rfl⟩ (by decide) zV_X6_reckon, List.forall_mem_cons.mpr ⟨ab_callV zZ_C_ok (zM_X6_told l) (ab_in 767 (by decide +kernel) rfl) (ab_in 764 (by decide +kernel) rfl) (ab_in 765 (by decide +kernel) rfl) (ab_in 766 (by decide +kernel) rfl) (ab_in 8 (by decide +kernel) rfl) (by unfold ab_yok; decide +kernel) ⟨rfl, rfl⟩ (by decide) zV_X6_told, List.forall_mem_nil _⟩⟩⟩) (List.forall_mem_cons.mpr ⟨ab_callS zZ_C_ok (zM_X11_within l) (ab_in 538 (by decide +kernel) rfl) (ab_in 536 (by decide +kernel) rfl) (ab_in 537 (by decide +kernel) rfl) (ab_in 1 (by decide +kernel) rfl) (by unfold ab_yok; decide +kernel) ⟨rfl, rfl⟩ (by decide), List.forall_mem_nil _⟩) zE_X11_run
def zt_X11_harm : ab_T := ab_m2 0 (fun _ _ M _ => zNight M) (fun a b M N o M2 N2 => zFr zQc M M2 ∧ zAsks M2 ∧ o = some (.long (zHaA M a b)))
theorem zt_X11_harm_mono : ab_mono zt_X11_harm := ab_m2_mono _ _ _
theorem zV_X11_harm : ab_recv zw_C vwCl RX11 zt_X11_harm := ab_m2_v rfl rfl
def zp_X11_harm : ab_P := [(0, .aload_n 0, 1, [0], []),
  (1, .getfield 10, 4, [], []),
  (4, .iload_n 1, 5, [1], []),
  (5, .invokevirtual 130, 8, [], []),
  (8, .ifCond .eq 12, 11, [20], []),
  (11, .iload_n 2, 12, [2], []),
  (12, .iconst 0, 13, [], [0]),
  (13, .iconst 2, 14, [], [2]),
  (14, .invokestatic 117, 17, [], []),
  (17, .ifCond .ne 7, 20, [24], []),
  (20, .ldc2_w 218, 23, [], []),
  (23, .lreturn, 24, [], []),
  (24, .aload_n 0, 25, [0], []),
  (25, .getfield 53, 28, [], []),
  (28, .invokevirtual 198, 31, [], []),
  (31, .aload_n 0, 32, [0], []),
  (32, .getfield 62, 35, [], []),
  (35, .iload_n 1, 36, [1], []),
  (36, .aload_n 0, 37, [0], []),
  (37, .getfield 10, 40, [], []),
  (40, .getfield 150, 43, [], []),
  (43, .iconst 0, 44, [], [0]),
  (44, .iaload, 45, [], []),
  (45, .invokevirtual 220, 48, [], []),
  (48, .aload_n 0, 49, [0], []),
  (49, .getfield 62, 52, [], []),
  (52, .iload_n 2, 53, [2], []),
  (53, .invokevirtual 224, 56, [], []),
  (56, .lreturn, 57, [], [])]
theorem zo_X11_harm : ab_ok cX11_harm zp_X11_harm = true := by decide +kernel
def zg_X11_harm : ab_G := (zw_C, zs_tab, zf_X11, zc_X11, [(144, 50), (147, 51)], [(130, 2, zt_X2_has), (198, 1, zt_X10_go), (220, 3, zt_X6_reckon), (224, 2, zt_X6_told)], [(117, 3, zt_X11_within)])
theorem zm_X11_harm : ab_MG zg_X11_harm := ab_MGof (List.forall_mem_cons.mpr ⟨ab_pure_mono _, List.forall_mem_cons.mpr ⟨zt_X10_go_mono, List.forall_mem_cons.mpr ⟨zt_X6_reckon_mono, List.forall_mem_cons.mpr ⟨ab_pp_mono _, List.forall_mem_nil _⟩⟩⟩⟩) (List.forall_mem_cons.mpr ⟨ab_pure_mono _, List.forall_mem_nil _⟩)
abbrev zr_X11_harm (Q : ab_R) : ab_K := ab_Run zg_X11_harm zp_X11_harm (some .long) 3 Q
set_option maxRecDepth 20000 in
theorem zv_X11_harm_0 {Q : ab_R} {M : ab_M} {N : ab_N} (l1 : Int32) (l2 : Int32) (h : ((ab_b (0 ≤ l1 ∧ l1 < (M 1) 4 ∧ l1 < 8)) = 0 → Q (some (.long (-4611686018427387904 : Int64))) M N) ∧ (¬ ((ab_b (0 ≤ l1 ∧ l1 < (M 1) 4 ∧ l1 < 8)) = 0) → ((ab_b ((0 : Int32) ≤ l2 ∧ l2 ≤ (2 : Int32))) = 0 → Q (some (.long (-4611686018427387904 : Int64))) M N) ∧ (¬ ((ab_b ((0 : Int32) ≤ l2 ∧ l2 ≤ (2 : Int32))) = 0) → zt_X10_go [.ref 6] M N (fun r M2 N2 => zr_X11_harm Q 31 [some (.ref 0), some (.int l1), some (.int l2)] (ab_ol r []) M2 N2)))) : zr_X11_harm Q 0 [some (.ref 0), some (.int l1), some (.int l2)] [] M N := ab_Run_s zm_X11_harm (sp := [(31, [true, true, true]), (48, [true, false, true])]) 31 h
set_option maxRecDepth 20000 in
theorem zv_X11_harm_31 {Q : ab_R} {M : ab_M} {N : ab_N} (l1 : Int32) (l2 : Int32) (h : vp_in (0 : Int32) 5 ∧ (zt_X6_reckon [.ref 7, .int l1, .int (M 17 0)] M N (fun r M2 N2 => zr_X11_harm Q 48 [some (.ref 0), none, some (.int l2)] (ab_ol r []) M2 N2))) : zr_X11_harm Q 31 [some (.ref 0), some (.int l1), some (.int l2)] [] M N := ab_Run_s zm_X11_harm (sp := [(31, [true, true, true]), (48, [true, false, true])]) 31 h
set_option maxRecDepth 20000 in
theorem zv_X11_harm_48 {Q : ab_R} {M : ab_M} {N : ab_N} (l2 : Int32) (h : (vp_in ((M 17) 1) 7) ∧ (Q (some (.long (if l2 = 0 then N 7 4 else if l2 = 1 then N 41 ((M 17) 1).toNatClampNeg else N 7 5))) M N)) : zr_X11_harm Q 48 [some (.ref 0), none, some (.int l2)] [] M N := ab_Run_s zm_X11_harm (sp := [(31, [true, true, true]), (48, [true, false, true])]) 31 h
theorem zE_X11_harm (as : List Value) (M : ab_M) (N : ab_N) (k : ab_R) (hT : zt_X11_harm as M N k) : ab_cs as ≤ 3 ∧ zr_X11_harm k 0 (ab_en as) [] M N := by
  obtain ⟨p, w, rfl, hN, hk⟩ := ab_m2_e hT
  obtain ⟨n7, p8, n12, m5, n0, h12, n1, b6, b2⟩ := zCn hN
  have hk := fun M2 N2 (hF : zFr zQc M M2) (hA : zAsks M2) => hk _ M2 N2 ⟨hF, hA, rfl⟩
  unfold zHaA at hk
  refine ⟨Nat.le_of_ble_eq_true rfl, zv_X11_harm_0 _ _ ?_⟩
  rw [n7]
  refine ⟨fun c => ?_, fun c => ⟨fun c2 => ?_, fun c2 => ab_m0_i hN ?_⟩⟩
  · have hk := hk M N (zFr_rf _ _) hN.1
    rw [if_neg (zIcn p8 rfl (by decide) c)] at hk
    exact hk
  · have hk := hk M N (zFr_rf _ _) hN.1
    rw [if_pos (zIcp p8 rfl (by decide) c), if_neg (ab_b_0.mp c2)] at hk
    exact hk
  · rintro o M2 N2 ⟨rfl, rfl, g1, gA, g2⟩
    have a1 := zIcp p8 rfl (by decide) c
    have a2 := zIx0 c2
    rw [if_pos a1, if_pos a2] at hk
    obtain ⟨kp, y1, rfl⟩ := zIxN (by omega) a1
    obtain ⟨kw, y2, rfl⟩ := zIxM (n := 2) (by decide) a2
    rw [nI_clamp (show kp < 2 ^ 31 by omega), nI_clamp (show kw < 2 ^ 31 by omega)] at hk
    have E := zEqv_go g1
    refine zv_X11_harm_31 _ _ ?_
    rw [g1 17 (by decide), n0]
    refine ⟨ab_vpk (by decide), zRkC (zNight_of hN gA g1) (zWalked_go g1 g2) (by rw [zEqv_pcs E]; exact y1) (by rw [zEqv_hrs E]; exact Nat.le_refl _) (fun M3 N3 f1 f2 f3 f4 f5 => ?_)⟩
    rw [zRk_eqv E (by omega)] at f5
    have e1 : M3 17 1 = nI (zBrk M) := by rw [f1 17 (by decide), g1 17 (by decide), n1]
    refine zv_X11_harm_48 _ ?_
    rw [zTold_k y2 f5 e1 b6, e1]
    exact ⟨nI_in_ (by omega), hk M3 N3 (zFr_tr (zFr_mono g1 (by decide)) (zFr_mono f1 (by decide))) f2.1⟩
abbrev zR_X11_harm : Room := { frames := 6, cells := 0, slots := 0, locals := 155 }
set_option maxRecDepth 20000 in
theorem zM_X11_harm (l : Launch) : ab_Met l zw_C vwCl zZ_C yX11_harm cX11_harm 3 (some .long) zR_X11_harm zt_X11_harm := ab_ofRun (G := zg_X11_harm) (P := zp_X11_harm) rfl zo_X11_harm (by decide +kernel) zl_cl zl_lamC zf_X11_ok zs_tabOK zc_X11_ok zs_X11_ok (List.forall_mem_cons.mpr ⟨ab_callV zZ_C_ok (zM_X2_has l) (ab_in 554 (by decide +kernel) rfl) (ab_in 551 (by decide +kernel) rfl) (ab_in 552 (by decide +kernel) rfl) (ab_in 553 (by decide +kernel) rfl) (ab_in 2 (by decide +kernel) rfl) (by unfold ab_yok; decide +kernel) ⟨rfl, rfl⟩ (by decide) zV_X2_has, List.forall_mem_cons.mpr ⟨ab_callV zZ_C_ok (zM_X10_go l) (ab_in 658 (by decide +kernel) rfl) (ab_in 655 (by decide +kernel) rfl) (ab_in 656 (by decide +kernel) rfl) (ab_in 657 (by decide +kernel) rfl) (ab_in 7 (by decide +kernel) rfl) (by unfold ab_yok; decide +kernel) ⟨rfl, rfl⟩ (by decide) zV_X10_go, List.forall_mem_cons.mpr ⟨ab_callV zZ_C_ok (zM_X6_reckon l) (ab_in 737 (by decide +kernel) rfl) (ab_in 734 (by decide +kernel) rfl) (ab_in 735 (by decide +kernel) rfl) (ab_in 736 (by decide +kernel) rfl) (ab_in 8 (by decide +kernel) rfl) (by unfold ab_yok; decide +kernel) ⟨rfl, rfl⟩ (by decide) zV_X6_reckon, List.forall_mem_cons.mpr ⟨ab_callV zZ_C_ok (zM_X6_told l) (ab_in 767 (by decide +kernel) rfl) (ab_in 764 (by decide +kernel) rfl) (ab_in 765 (by decide +kernel) rfl) (ab_in 766 (by decide +kernel) rfl) (ab_in 8 (by decide +kernel) rfl) (by unfold ab_yok; decide +kernel) ⟨rfl, rfl⟩ (by decide) zV_X6_told, List.forall_mem_nil _⟩⟩⟩⟩) (List.forall_mem_cons.mpr ⟨ab_callS zZ_C_ok (zM_X11_within l) (ab_in 538 (by decide +kernel) rfl) (ab_in 536 (by decide +kernel) rfl) (ab_in 537 (by decide +kernel) rfl) (ab_in 1 (by decide +kernel) rfl) (by unfold ab_yok; decide +kernel) ⟨rfl, rfl⟩ (by decide), List.forall_mem_nil _⟩) zE_X11_harm
def zt_X11_state : ab_T := ab_m3 0 (fun _ _ _ M _ => zNight M) (fun a b c M N o M2 N2 => zFr zQc M M2 ∧ zAsks M2 ∧ o = some (.long (zStA M a b c)))
theorem zt_X11_state_mono : ab_mono zt_X11_state := ab_m3_mono _ _ _
theorem zV_X11_state : ab_recv zw_C vwCl RX11 zt_X11_state := ab_m3_v rfl rfl
def zp_X11_state : ab_P := [(0, .aload_n 0, 1, [0], []),
  (1, .getfield 10, 4, [], []),
  (4, .iload_n 1, 5, [1], []),
  (5, .invokevirtual 130, 8, [], []),
  (8, .ifCond .eq 31, 11, [39], []),
  (11, .aload_n 0, 12, [0], []),
  (12, .getfield 10, 15, [], []),
  (15, .iload_n 2, 16, [2], []),
  (16, .invokevirtual 195, 19, [], []),
  (19, .ifCond .eq 20, 22, [39], []),
  (22, .iload_n 3, 23, [3], []),
  (23, .iconst 0, 24, [], [0]),
  (24, .aload_n 0, 25, [0], []),
  (25, .getfield 10, 28, [], []),
  (28, .getfield 150, 31, [], []),
  (31, .iconst 1, 32, [], [1]),
  (32, .iaload, 33, [], []),
  (33, .invokestatic 117, 36, [], []),
  (36, .ifCond .ne 7, 39, [43], []),
  (39, .ldc2_w 218, 42, [], []),
  (42, .lreturn, 43, [], []),
  (43, .aload_n 0, 44, [0], []),
  (44, .getfield 53, 47, [], []),
  (47, .invokevirtual 198, 50, [], []),
  (50, .aload_n 0, 51, [0], []),
  (51, .getfield 62, 54, [], []),
  (54, .iload_n 1, 55, [1], []),
  (55, .iload_n 2, 56, [2], []),
  (56, .iconst 1, 57, [], [1]),
  (57, .iadd, 58, [], []),
  (58, .invokevirtual 220, 61, [], []),
  (61, .aload_n 0, 62, [0], []),
  (62, .getfield 62, 65, [], []),
  (65, .getfield 227, 68, [], []),
  (68, .iload_n 3, 69, [3], []),
  (69, .laload, 70, [], []),
  (70, .lreturn, 71, [], [])]
theorem zo_X11_state : ab_ok cX11_state zp_X11_state = true := by decide +kernel
def zg_X11_state : ab_G := (zw_C, zs_tab, zf_X11, zc_X11, [(144, 50), (147, 51)], [(130, 2, zt_X2_has), (195, 2, zt_X2_hasHour), (198, 1, zt_X10_go), (220, 3, zt_X6_reckon)], [(117, 3, zt_X11_within)])
theorem zm_X11_state : ab_MG zg_X11_state := ab_MGof (List.forall_mem_cons.mpr ⟨ab_pure_mono _, List.forall_mem_cons.mpr ⟨ab_pure_mono _, List.forall_mem_cons.mpr ⟨zt_X10_go_mono, List.forall_mem_cons.mpr ⟨zt_X6_reckon_mono, List.forall_mem_nil _⟩⟩⟩⟩) (List.forall_mem_cons.mpr ⟨ab_pure_mono _, List.forall_mem_nil _⟩)
abbrev zr_X11_state (Q : ab_R) : ab_K := ab_Run zg_X11_state zp_X11_state (some .long) 4 Q
set_option maxRecDepth 20000 in
theorem zv_X11_state_0 {Q : ab_R} {M : ab_M} {N : ab_N} (l1 : Int32) (l2 : Int32) (l3 : Int32) (h : ((ab_b (0 ≤ l1 ∧ l1 < (M 1) 4 ∧ l1 < 8)) = 0 → Q (some (.long (-4611686018427387904 : Int64))) M N) ∧ (¬ ((ab_b (0 ≤ l1 ∧ l1 < (M 1) 4 ∧ l1 < 8)) = 0) → ((ab_b (0 ≤ l2 ∧ l2 < (M 17) 0 ∧ l2 < 12)) = 0 → Q (some (.long (-4611686018427387904 : Int64))) M N) ∧ (¬ ((ab_b (0 ≤ l2 ∧ l2 < (M 17) 0 ∧ l2 < 12)) = 0) → vp_in (1 : Int32) 5 ∧ (((ab_b ((0 : Int32) ≤ l3 ∧ l3 ≤ (M 17 1))) = 0 → Q (some (.long (-4611686018427387904 : Int64))) M N) ∧ (¬ ((ab_b ((0 : Int32) ≤ l3 ∧ l3 ≤ (M 17 1))) = 0) → zt_X10_go [.ref 6] M N (fun r M2 N2 => zr_X11_state Q 50 [some (.ref 0), some (.int l1), some (.int l2), some (.int l3)] (ab_ol r []) M2 N2)))))) : zr_X11_state Q 0 [some (.ref 0), some (.int l1), some (.int l2), some (.int l3)] [] M N := ab_Run_s zm_X11_state (sp := [(50, [true, true, true, true]), (61, [true, false, false, true])]) 39 h
set_option maxRecDepth 20000 in
theorem zv_X11_state_50 {Q : ab_R} {M : ab_M} {N : ab_N} (l1 : Int32) (l2 : Int32) (l3 : Int32) (h : zt_X6_reckon [.ref 7, .int l1, .int (l2 + (1 : Int32))] M N (fun r M2 N2 => zr_X11_state Q 61 [some (.ref 0), none, none, some (.int l3)] (ab_ol r []) M2 N2)) : zr_X11_state Q 50 [some (.ref 0), some (.int l1), some (.int l2), some (.int l3)] [] M N := ab_Run_s zm_X11_state (sp := [(50, [true, true, true, true]), (61, [true, false, false, true])]) 39 h
set_option maxRecDepth 20000 in
theorem zv_X11_state_61 {Q : ab_R} {M : ab_M} {N : ab_N} (l3 : Int32) (h : vp_in l3 7 ∧ (Q (some (.long (N 41 l3.toNatClampNeg))) M N)) : zr_X11_state Q 61 [some (.ref 0), none, none, some (.int l3)] [] M N := ab_Run_s zm_X11_state (sp := [(50, [true, true, true, true]), (61, [true, false, false, true])]) 39 h
theorem zE_X11_state (as : List Value) (M : ab_M) (N : ab_N) (k : ab_R) (hT : zt_X11_state as M N k) : ab_cs as ≤ 4 ∧ zr_X11_state k 0 (ab_en as) [] M N := by
  obtain ⟨p, h, s, rfl, hN, hk⟩ := ab_m3_e hT
  obtain ⟨n7, p8, n12, m5, n0, h12, n1, b6, b2⟩ := zCn hN
  have hk := fun M2 N2 (hF : zFr zQc M M2) (hA : zAsks M2) => hk _ M2 N2 ⟨hF, hA, rfl⟩
  unfold zStA at hk
  refine ⟨Nat.le_of_ble_eq_true rfl, zv_X11_state_0 _ _ _ ?_⟩
  rw [n7, n0, n1]
  refine ⟨fun c => ?_, fun c => ⟨fun c2 => ?_, fun c2 => ⟨ab_vpk (by decide), fun c3 => ?_, fun c3 => ab_m0_i hN ?_⟩⟩⟩
  · have hk := hk M N (zFr_rf _ _) hN.1
    rw [if_neg (zIcn p8 rfl (by decide) c)] at hk
    exact hk
  · have hk := hk M N (zFr_rf _ _) hN.1
    rw [if_pos (zIcp p8 rfl (by decide) c), if_neg (zIcn h12 rfl (by decide) c2)] at hk
    exact hk
  · have hk := hk M N (zFr_rf _ _) hN.1
    rw [if_pos (zIcp p8 rfl (by decide) c), if_pos (zIcp h12 rfl (by decide) c2), if_neg (ab_b_0.mp c3)] at hk
    exact hk
  · rintro o M2 N2 ⟨rfl, rfl, g1, gA, g2⟩
    have a1 := zIcp p8 rfl (by decide) c
    have a2 := zIcp h12 rfl (by decide) c2
    have a3 := zIx0 c3
    rw [if_pos a1, if_pos a2, if_pos a3] at hk
    obtain ⟨kp, y1, rfl⟩ := zIxN (by omega) a1
    obtain ⟨kh, y2, rfl⟩ := zIxN (by omega) a2
    obtain ⟨ks, y3, rfl⟩ := zIxM (by omega) a3
    rw [nI_clamp (show kp < 2 ^ 31 by omega), nI_clamp (show kh < 2 ^ 31 by omega), nI_clamp (show ks < 2 ^ 31 by omega)] at hk
    have E := zEqv_go g1
    refine zv_X11_state_50 _ _ _ ?_
    rw [nI_1]
    refine zRkC (zNight_of hN gA g1) (zWalked_go g1 g2) (by rw [zEqv_pcs E]; exact y1) (by rw [zEqv_hrs E]; exact y2) (fun M3 N3 f1 f2 f3 f4 f5 => ?_)
    rw [zRk_eqv E (by omega)] at f5
    refine zv_X11_state_61 _ ?_
    rw [nI_clamp (show ks < 2 ^ 31 by omega), f5.1 ks (by omega)]
    exact ⟨nI_in_ (by omega), hk M3 N3 (zFr_tr (zFr_mono g1 (by decide)) (zFr_mono f1 (by decide))) f2.1⟩
abbrev zR_X11_state : Room := { frames := 6, cells := 0, slots := 0, locals := 155 }
set_option maxRecDepth 20000 in
theorem zM_X11_state (l : Launch) : ab_Met l zw_C vwCl zZ_C yX11_state cX11_state 4 (some .long) zR_X11_state zt_X11_state := ab_ofRun (G := zg_X11_state) (P := zp_X11_state) rfl zo_X11_state (by decide +kernel) zl_cl zl_lamC zf_X11_ok zs_tabOK zc_X11_ok zs_X11_ok (List.forall_mem_cons.mpr ⟨ab_callV zZ_C_ok (zM_X2_has l) (ab_in 554 (by decide +kernel) rfl) (ab_in 551 (by decide +kernel) rfl) (ab_in 552 (by decide +kernel) rfl) (ab_in 553 (by decide +kernel) rfl) (ab_in 2 (by decide +kernel) rfl) (by unfold ab_yok; decide +kernel) ⟨rfl, rfl⟩ (by decide) zV_X2_has, List.forall_mem_cons.mpr ⟨ab_callV zZ_C_ok (zM_X2_hasHour l) (ab_in 654 (by decide +kernel) rfl) (ab_in 651 (by decide +kernel) rfl) (ab_in 652 (by decide +kernel) rfl) (ab_in 653 (by decide +kernel) rfl) (ab_in 2 (by decide +kernel) rfl) (by unfold ab_yok; decide +kernel) ⟨rfl, rfl⟩ (by decide) zV_X2_hasHour, List.forall_mem_cons.mpr ⟨ab_callV zZ_C_ok (zM_X10_go l) (ab_in 658 (by decide +kernel) rfl) (ab_in 655 (by decide +kernel) rfl) (ab_in 656 (by decide +kernel) rfl) (ab_in 657 (by decide +kernel) rfl) (ab_in 7 (by decide +kernel) rfl) (by unfold ab_yok; decide +kernel) ⟨rfl, rfl⟩ (by decide) zV_X10_go, List.forall_mem_cons.mpr ⟨ab_callV zZ_C_ok (zM_X6_reckon l) (ab_in 737 (by decide +kernel) rfl) (ab_in 734 (by decide +kernel) rfl) (ab_in 735 (by decide +kernel) rfl) (ab_in 736 (by decide +kernel) rfl) (ab_in 8 (by decide +kernel) rfl) (by unfold ab_yok; decide +kernel) ⟨rfl, rfl⟩ (by decide) zV_X6_reckon, List.forall_mem_nil _⟩⟩⟩⟩) (List.forall_mem_cons.mpr ⟨ab_callS zZ_C_ok (zM_X11_within l) (ab_in 538 (by decide +kernel) rfl) (ab_in 536 (by decide +kernel) rfl) (ab_in 537 (by decide +kernel) rfl) (ab_in 1 (by decide +kernel) rfl) (by unfold ab_yok; decide +kernel) ⟨rfl, rfl⟩ (by decide), List.forall_mem_nil _⟩) zE_X11_state
def zt_X11_sure : ab_T := ab_m1 0 (fun _ M _ => zNight M) (fun x M N o M2 N2 => zFr zQc M M2 ∧ zAsks M2 ∧ o = some (.int (zSuA M x)))
theorem zt_X11_sure_mono : ab_mono zt_X11_sure := ab_m1_mono _ _ _
theorem zV_X11_sure : ab_recv zw_C vwCl RX11 zt_X11_sure := ab_m1_v rfl rfl
def zp_X11_sure : ab_P := [(0, .iload_n 1, 1, [1], []),
  (1, .iconst 0, 2, [], [0]),
  (2, .bipush 12, 4, [], [12]),
  (4, .invokestatic 117, 7, [], []),
  (7, .ifCond .ne 6, 10, [13], []),
  (10, .bipush (-2), 12, [], [(-2)]),
  (12, .ireturn, 13, [], []),
  (13, .aload_n 0, 14, [0], []),
  (14, .getfield 53, 17, [], []),
  (17, .invokevirtual 198, 20, [], []),
  (20, .iconst 0, 21, [], [0]),
  (21, .istore_n 2, 22, [2], []),
  (22, .iload_n 2, 23, [2], []),
  (23, .aload_n 0, 24, [0], []),
  (24, .getfield 10, 27, [], []),
  (27, .getfield 121, 30, [], []),
  (30, .if_icmp .ge 20, 33, [50], []),
  (33, .aload_n 0, 34, [0], []),
  (34, .iload_n 2, 35, [2], []),
  (35, .invokevirtual 212, 38, [], []),
  (38, .iload_n 1, 39, [1], []),
  (39, .if_icmp .le 5, 42, [44], []),
  (42, .iconst 0, 43, [], [0]),
  (43, .ireturn, 44, [], []),
  (44, .iinc 2 1, 47, [], [1]),
  (47, .goto (-25), 50, [22], []),
  (50, .iconst 1, 51, [], [1]),
  (51, .ireturn, 52, [], [])]
theorem zo_X11_sure : ab_ok cX11_sure zp_X11_sure = true := by decide +kernel
def zg_X11_sure : ab_G := (zw_C, zs_tab, zf_X11, zc_X11, [(144, 50), (147, 51)], [(198, 1, zt_X10_go), (212, 2, zt_X11_longestNotLookedAt)], [(117, 3, zt_X11_within)])
theorem zm_X11_sure : ab_MG zg_X11_sure := ab_MGof (List.forall_mem_cons.mpr ⟨zt_X10_go_mono, List.forall_mem_cons.mpr ⟨zt_X11_longestNotLookedAt_mono, List.forall_mem_nil _⟩⟩) (List.forall_mem_cons.mpr ⟨ab_pure_mono _, List.forall_mem_nil _⟩)
abbrev zr_X11_sure (Q : ab_R) : ab_K := ab_Run zg_X11_sure zp_X11_sure (some .int) 3 Q
set_option maxRecDepth 20000 in
theorem zv_X11_sure_0 {Q : ab_R} {M : ab_M} {N : ab_N} (l1 : Int32) (h : ((ab_b ((0 : Int32) ≤ l1 ∧ l1 ≤ (12 : Int32))) = 0 → Q (some (.int (-2 : Int32))) M N) ∧ (¬ ((ab_b ((0 : Int32) ≤ l1 ∧ l1 ≤ (12 : Int32))) = 0) → zt_X10_go [.ref 6] M N (fun r M2 N2 => zr_X11_sure Q 20 [some (.ref 0), some (.int l1), none] (ab_ol r []) M2 N2))) : zr_X11_sure Q 0 [some (.ref 0), some (.int l1)] [] M N := ab_Run_s zm_X11_sure (sp := [(20, [true, true, false]), (22, [true, true, true]), (38, [true, true, true])]) 30 h
set_option maxRecDepth 20000 in
theorem zv_X11_sure_20 {Q : ab_R} {M : ab_M} {N : ab_N} (l1 : Int32) (h : zr_X11_sure Q 22 [some (.ref 0), some (.int l1), some (.int (0 : Int32))] [] M N) : zr_X11_sure Q 20 [some (.ref 0), some (.int l1), none] [] M N := ab_Run_s zm_X11_sure (sp := [(20, [true, true, false]), (22, [true, true, true]), (38, [true, true, true])]) 30 h
set_option maxRecDepth 20000 in
theorem zv_X11_sure_22 {Q : ab_R} {M : ab_M} {N : ab_N} (l1 : Int32) (l2 : Int32) (h : ((M 1 4) ≤ l2 → Q (some (.int (1 : Int32))) M N) ∧ (¬ ((M 1 4) ≤ l2) → zt_X11_longestNotLookedAt [.ref 0, .int l2] M N (fun r M2 N2 => zr_X11_sure Q 38 [some (.ref 0), some (.int l1), some (.int l2)] (ab_ol r []) M2 N2))) : zr_X11_sure Q 22 [some (.ref 0), some (.int l1), some (.int l2)] [] M N := ab_Run_s zm_X11_sure (sp := [(20, [true, true, false]), (22, [true, true, true]), (38, [true, true, true])]) 30 h
set_option maxRecDepth 20000 in
theorem zv_X11_sure_38 {Q : ab_R} {M : ab_M} {N : ab_N} (l1 : Int32) (l2 : Int32) (s0 : Int32) (h : (s0 ≤ l1 → zr_X11_sure Q 22 [some (.ref 0), some (.int l1), some (.int (l2 + (1 : Int32)))] [] M N) ∧ (¬ (s0 ≤ l1) → Q (some (.int (0 : Int32))) M N)) : zr_X11_sure Q 38 [some (.ref 0), some (.int l1), some (.int l2)] [.int s0] M N := ab_Run_s zm_X11_sure (sp := [(20, [true, true, false]), (22, [true, true, true]), (38, [true, true, true])]) 30 h
theorem zL_X11_sure {Q : ab_R} {d M : ab_M} {N : ab_N} {l : Int32} (E : zEqv d M) (hN : zNight M) (hW : zWalked M) (hA : zSuP d l → Q (some (.int 1)) M N) (hB : ¬ zSuP d l → Q (some (.int 0)) M N) : ∀ (r p : Nat), p + r = zPcs d → (∀ j, j < p → nI (zRow d j) ≤ l) → zr_X11_sure Q 22 [some (.ref 0), some (.int l), some (.int (nI p))] [] M N := by
  obtain ⟨n7, p8, n12, m5, n0, h12, n1, b6, b2⟩ := zCn hN
  have eP := zEqv_pcs E
  intro r
  induction r with
  | zero =>
    intro p hr hp
    have ep : p = zPcs d := by omega
    subst ep
    exact zv_X11_sure_22 _ _ ⟨fun _ => hA hp, fun c => absurd (by rw [n7, eP]; exact nI_le (Nat.le_refl _) (by omega)) c⟩
  | succ r ih =>
    intro p hr hp
    refine zv_X11_sure_22 _ _ ?_
    rw [n7]
    refine ⟨fun c => absurd c (nI_ge (by omega) (by omega)), fun _ => ab_m1_i ⟨hN.2.1, hW, p, by omega, rfl⟩ ?_⟩
    rintro o M2 N2 ⟨rfl, rfl, rfl⟩
    have eW : ∀ h, (zWk M2 h).2.2.2 p = (zWk d h).2.2.2 p := fun h => ((zWk_eqv E h).2 p (by omega)).2
    have eR : (zLong (fun h => (zWk M2 h).2.2.2 (nI p).toNatClampNeg) (zHrs M2)).1 = nI (zRow d p) := by
      rw [nI_clamp (show p < 2 ^ 31 by omega), zEqv_hrs E]
      simp only [eW]
      exact zLong_row (by omega) (by rw [← zEqv_hrs E]; exact h12) (by omega)
    rw [eR]
    refine zv_X11_sure_38 _ _ _ ?_
    rw [nI_1]
    refine ⟨fun c => ih (p + 1) (by omega) (fun j hj => ?_), fun c => hB (fun z => c (z p (by omega)))⟩
    by_cases e : j = p
    · rw [e]; exact c
    · exact hp j (by omega)
theorem zE_X11_sure (as : List Value) (M : ab_M) (N : ab_N) (k : ab_R) (hT : zt_X11_sure as M N k) : ab_cs as ≤ 3 ∧ zr_X11_sure k 0 (ab_en as) [] M N := by
  obtain ⟨l, rfl, hN, hk⟩ := ab_m1_e hT
  have hk := fun M2 N2 (hF : zFr zQc M M2) (hA : zAsks M2) => hk _ M2 N2 ⟨hF, hA, rfl⟩
  unfold zSuA at hk
  refine ⟨Nat.le_of_ble_eq_true rfl, zv_X11_sure_0 _ ⟨fun c => ?_, fun c => ab_m0_i hN ?_⟩⟩
  · have hk := hk M N (zFr_rf _ _) hN.1
    rw [if_neg (ab_b_0.mp c)] at hk
    exact hk
  · rintro o M2 N2 ⟨rfl, rfl, g1, gA, g2⟩
    have hk := hk M2 N2 (zFr_mono g1 (by decide)) gA
    rw [if_pos (zIx0 c)] at hk
    exact zv_X11_sure_20 _ (zL_X11_sure (zEqv_go g1) (zNight_of hN gA g1) (zWalked_go g1 g2) (fun a => by rw [if_pos a] at hk; exact hk) (fun a => by rw [if_neg a] at hk; exact hk) (zPcs M) 0 (by omega) (fun j hj => absurd hj (Nat.not_lt_zero _)))
abbrev zR_X11_sure : Room := { frames := 6, cells := 0, slots := 0, locals := 155 }
set_option maxRecDepth 20000 in
theorem zM_X11_sure (l : Launch) : ab_Met l zw_C vwCl zZ_C yX11_sure cX11_sure 3 (some .int) zR_X11_sure zt_X11_sure := ab_ofRun (G := zg_X11_sure) (P := zp_X11_sure) rfl zo_X11_sure (by decide +kernel) zl_cl zl_lamC zf_X11_ok zs_tabOK zc_X11_ok zs_X11_ok (List.forall_mem_cons.mpr ⟨ab_callV zZ_C_ok (zM_X10_go l) (ab_in 658 (by decide +kernel) rfl) (ab_in 655 (by decide +kernel) rfl) (ab_in 656 (by decide +kernel) rfl) (ab_in 657 (by decide +kernel) rfl) (ab_in 7 (by decide +kernel) rfl) (by unfold ab_yok; decide +kernel) ⟨rfl, rfl⟩ (by decide) zV_X10_go, List.forall_mem_cons.mpr ⟨ab_callV zZ_C_ok (zM_X11_longestNotLookedAt l) (ab_in 719 (by decide +kernel) rfl) (ab_in 716 (by decide +kernel) rfl) (ab_in 718 (by decide +kernel) rfl) (ab_inS (List.mem_of_getElem? (i := 18) (by decide +kernel)) rfl) (ab_in 1 (by decide +kernel) rfl) (by unfold ab_yok; decide +kernel) ⟨rfl, rfl⟩ (by decide) zV_X11_longestNotLookedAt, List.forall_mem_nil _⟩⟩) (List.forall_mem_cons.mpr ⟨ab_callS zZ_C_ok (zM_X11_within l) (ab_in 538 (by decide +kernel) rfl) (ab_in 536 (by decide +kernel) rfl) (ab_in 537 (by decide +kernel) rfl) (ab_in 1 (by decide +kernel) rfl) (by unfold ab_yok; decide +kernel) ⟨rfl, rfl⟩ (by decide), List.forall_mem_nil _⟩) zE_X11_sure
