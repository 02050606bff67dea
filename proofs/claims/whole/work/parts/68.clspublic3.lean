/-! the class: asks, count, fewest, check, judge *)
-/
def zt_X11_asks : ab_T := ab_m5 0 (fun _ _ _ _ _ M _ => zNight M) (fun t p h s c M N o M2 N2 => zFr zQc M M2 ∧ zAsks M2 ∧ o = some (.int (zAkA M t p h s c)))
theorem zt_X11_asks_mono : ab_mono zt_X11_asks := ab_m5_mono _ _ _
theorem zV_X11_asks : ab_recv zw_C vwCl RX11 zt_X11_asks := ab_m5_v rfl rfl
def zp_X11_asks : ab_P := [(0, .aload_n 0, 1, [0], []),
  (1, .getfield 10, 4, [], []),
  (4, .iload_n 2, 5, [2], []),
  (5, .invokevirtual 130, 8, [], []),
  (8, .ifCond .ne 6, 11, [14], []),
  (11, .bipush (-5), 13, [], [(-5)]),
  (13, .ireturn, 14, [], []),
  (14, .iload_n 1, 15, [1], []),
  (15, .iconst 0, 16, [], [0]),
  (16, .iconst 2, 17, [], [2]),
  (17, .invokestatic 117, 20, [], []),
  (20, .ifCond .eq 34, 23, [54], []),
  (23, .iload_n 3, 24, [3], []),
  (24, .iconst 0, 25, [], [0]),
  (25, .bipush 11, 27, [], [11]),
  (27, .invokestatic 117, 30, [], []),
  (30, .ifCond .eq 24, 33, [54], []),
  (33, .iload 4, 35, [], []),
  (35, .iconst 0, 36, [], [0]),
  (36, .bipush 12, 38, [], [12]),
  (38, .invokestatic 117, 41, [], []),
  (41, .ifCond .eq 13, 44, [54], []),
  (44, .iload 5, 46, [], []),
  (46, .iconst 0, 47, [], [0]),
  (47, .iconst 3, 48, [], [3]),
  (48, .invokestatic 117, 51, [], []),
  (51, .ifCond .ne 6, 54, [57], []),
  (54, .bipush (-7), 56, [], [(-7)]),
  (56, .ireturn, 57, [], []),
  (57, .aload_n 0, 58, [0], []),
  (58, .getfield 44, 61, [], []),
  (61, .iload_n 1, 62, [1], []),
  (62, .iload_n 2, 63, [2], []),
  (63, .iload_n 3, 64, [3], []),
  (64, .iload 4, 66, [], []),
  (66, .iload 5, 68, [], []),
  (68, .invokevirtual 163, 71, [], []),
  (71, .ireturn, 72, [], [])]
theorem zo_X11_asks : ab_ok cX11_asks zp_X11_asks = true := by decide +kernel
def zg_X11_asks : ab_G := (zw_C, zs_tab, zf_X11, zc_X11, [(144, 50), (147, 51)], [(130, 2, zt_X2_has), (163, 6, zt_X1_ask)], [(117, 3, zt_X11_within)])
theorem zm_X11_asks : ab_MG zg_X11_asks := ab_MGof (List.forall_mem_cons.mpr ⟨ab_pure_mono _, List.forall_mem_cons.mpr ⟨zt_X1_ask_mono, List.forall_mem_nil _⟩⟩) (List.forall_mem_cons.mpr ⟨ab_pure_mono _, List.forall_mem_nil _⟩)
abbrev zr_X11_asks (Q : ab_R) : ab_K := ab_Run zg_X11_asks zp_X11_asks (some .int) 6 Q
set_option maxRecDepth 20000 in
theorem zv_X11_asks_0 {Q : ab_R} {M : ab_M} {N : ab_N} (l1 : Int32) (l2 : Int32) (l3 : Int32) (l4 : Int32) (l5 : Int32) (h : ((ab_b (0 ≤ l2 ∧ l2 < (M 1) 4 ∧ l2 < 8)) = 0 → Q (some (.int (-5 : Int32))) M N) ∧ (¬ ((ab_b (0 ≤ l2 ∧ l2 < (M 1) 4 ∧ l2 < 8)) = 0) → ((ab_b ((0 : Int32) ≤ l1 ∧ l1 ≤ (2 : Int32))) = 0 → Q (some (.int (-7 : Int32))) M N) ∧ (¬ ((ab_b ((0 : Int32) ≤ l1 ∧ l1 ≤ (2 : Int32))) = 0) → ((ab_b ((0 : Int32) ≤ l3 ∧ l3 ≤ (11 : Int32))) = 0 → Q (some (.int (-7 : Int32))) M N) ∧ (¬ ((ab_b ((0 : Int32) ≤ l3 ∧ l3 ≤ (11 : Int32))) = 0) → ((ab_b ((0 : Int32) ≤ l4 ∧ l4 ≤ (12 : Int32))) = 0 → Q (some (.int (-7 : Int32))) M N) ∧ (¬ ((ab_b ((0 : Int32) ≤ l4 ∧ l4 ≤ (12 : Int32))) = 0) → ((ab_b ((0 : Int32) ≤ l5 ∧ l5 ≤ (3 : Int32))) = 0 → Q (some (.int (-7 : Int32))) M N) ∧ (¬ ((ab_b ((0 : Int32) ≤ l5 ∧ l5 ≤ (3 : Int32))) = 0) → zt_X1_ask [.ref 5, .int l1, .int l2, .int l3, .int l4, .int l5] M N (fun r M2 N2 => zr_X11_asks Q 71 [none, none, none, none, none, none] (ab_ol r []) M2 N2))))))) : zr_X11_asks Q 0 [some (.ref 0), some (.int l1), some (.int l2), some (.int l3), some (.int l4), some (.int l5)] [] M N := ab_Run_s zm_X11_asks (sp := [(71, [false, false, false, false, false, false])]) 40 h
set_option maxRecDepth 20000 in
theorem zv_X11_asks_71 {Q : ab_R} {M : ab_M} {N : ab_N} (s0 : Int32) (h : Q (some (.int s0)) M N) : zr_X11_asks Q 71 [none, none, none, none, none, none] [.int s0] M N := ab_Run_s zm_X11_asks (sp := [(71, [false, false, false, false, false, false])]) 40 h
theorem zE_X11_asks (as : List Value) (M : ab_M) (N : ab_N) (k : ab_R) (hT : zt_X11_asks as M N k) : ab_cs as ≤ 6 ∧ zr_X11_asks k 0 (ab_en as) [] M N := by
  obtain ⟨t, p, h, s, c, rfl, hN, hk⟩ := ab_m5_e hT
  obtain ⟨n7, p8, -⟩ := zCn hN
  have hk := fun M2 N2 (hF : zFr zQc M M2) (hA : zAsks M2) => hk _ M2 N2 ⟨hF, hA, rfl⟩
  unfold zAkA at hk
  have hq := hk M N (zFr_rf _ _) hN.1
  refine ⟨Nat.le_of_ble_eq_true rfl, zv_X11_asks_0 _ _ _ _ _ ?_⟩
  rw [n7]
  refine ⟨fun c1 => ?_, fun c1 => ⟨fun c2 => ?_, fun c2 => ⟨fun c3 => ?_, fun c3 => ⟨fun c4 => ?_, fun c4 => ⟨fun c5 => ?_, fun c5 => ?_⟩⟩⟩⟩⟩
  · rw [if_neg (zIcn p8 rfl (by decide) c1)] at hq
    exact hq
  · rw [if_pos (zIcp p8 rfl (by decide) c1), if_neg (ab_b_0.mp c2)] at hq
    exact hq
  · rw [if_pos (zIcp p8 rfl (by decide) c1), if_pos (zIx0 c2), if_neg (ab_b_0.mp c3)] at hq
    exact hq
  · rw [if_pos (zIcp p8 rfl (by decide) c1), if_pos (zIx0 c2), if_pos (zIx0 c3), if_neg (ab_b_0.mp c4)] at hq
    exact hq
  · rw [if_pos (zIcp p8 rfl (by decide) c1), if_pos (zIx0 c2), if_pos (zIx0 c3), if_pos (zIx0 c4), if_neg (ab_b_0.mp c5)] at hq
    exact hq
  · have a1 := zIcp p8 rfl (by decide) c1
    have a2 := zIx0 c2
    have a3 := zIx0 c3
    have a4 := zIx0 c4
    have a5 := zIx0 c5
    obtain ⟨kp, y1, rfl⟩ := zIxN (by omega) a1
    obtain ⟨kt, y2, rfl⟩ := zIxM (n := 2) (by decide) a2
    obtain ⟨kh, y3, rfl⟩ := zIxM (n := 11) (by decide) a3
    obtain ⟨ks, y4, rfl⟩ := zIxM (n := 12) (by decide) a4
    obtain ⟨kc, y5, rfl⟩ := zIxM (n := 3) (by decide) a5
    rw [if_pos a1, if_pos a2, if_pos a3, if_pos a4, if_pos a5, nI_clamp (show kt < 2 ^ 31 by omega), nI_clamp (show kp < 2 ^ 31 by omega), nI_clamp (show kh < 2 ^ 31 by omega), nI_clamp (show ks < 2 ^ 31 by omega), nI_clamp (show kc < 2 ^ 31 by omega)] at hk
    refine ab_m5_i ⟨hN.1, kt, kp, kh, ks, kc, zPcs M, by omega, y1, p8, by omega, by omega, by omega, rfl, rfl, rfl, rfl, rfl, n7⟩ ?_
    rintro o M2 N2 ⟨rfl, f1, f2, rfl⟩
    rw [nI_clamp (show kt < 2 ^ 31 by omega), nI_clamp (show kp < 2 ^ 31 by omega), nI_clamp (show kh < 2 ^ 31 by omega), nI_clamp (show ks < 2 ^ 31 by omega), nI_clamp (show kc < 2 ^ 31 by omega)]
    exact zv_X11_asks_71 _ (hk M2 N2 (zFr_mono f1 (by decide)) f2)
abbrev zR_X11_asks : Room := { frames := 3, cells := 0, slots := 0, locals := 80 }
set_option maxRecDepth 20000 in
theorem zM_X11_asks (l : Launch) : ab_Met l zw_C vwCl zZ_C yX11_asks cX11_asks 6 (some .int) zR_X11_asks zt_X11_asks := ab_ofRun (G := zg_X11_asks) (P := zp_X11_asks) rfl zo_X11_asks (by decide +kernel) zl_cl zl_lamC zf_X11_ok zs_tabOK zc_X11_ok zs_X11_ok (List.forall_mem_cons.mpr ⟨ab_callV zZ_C_ok (zM_X2_has l) (ab_in 554 (by decide +kernel) rfl) (ab_in 551 (by decide +kernel) rfl) (ab_in 552 (by decide +kernel) rfl) (ab_in 553 (by decide +kernel) rfl) (ab_in 2 (by decide +kernel) rfl) (by unfold ab_yok; decide +kernel) ⟨rfl, rfl⟩ (by decide) zV_X2_has, List.forall_mem_cons.mpr ⟨ab_callV zZ_C_ok (zM_X1_ask l) (ab_in 590 (by decide +kernel) rfl) (ab_in 587 (by decide +kernel) rfl) (ab_in 588 (by decide +kernel) rfl) (ab_in 589 (by decide +kernel) rfl) (ab_in 6 (by decide +kernel) rfl) (by unfold ab_yok; decide +kernel) ⟨rfl, rfl⟩ (by decide) zV_X1_ask, List.forall_mem_nil _⟩⟩) (List.forall_mem_cons.mpr ⟨ab_callS zZ_C_ok (zM_X11_within l) (ab_in 538 (by decide +kernel) rfl) (ab_in 536 (by decide +kernel) rfl) (ab_in 537 (by decide +kernel) rfl) (ab_in 1 (by decide +kernel) rfl) (by unfold ab_yok; decide +kernel) ⟨rfl, rfl⟩ (by decide), List.forall_mem_nil _⟩) zE_X11_asks
def zCoC (M : ab_M) (l : Int32) : Int32 := if 0 ≤ l ∧ l ≤ 4 then M 17 l.toNatClampNeg else if l = 5 then M 1 4 else if l = 6 then M 2 6 else if l = 7 then M 3 2 else if l = 8 then M 3 3 else if l = 9 then M 4 2 else -2
def zt_X11_count : ab_T := ab_m1 0 (fun _ _ _ => True) (fun x M N o M2 N2 => M2 = M ∧ N2 = N ∧ o = some (.int (zCoC M x)))
theorem zt_X11_count_mono : ab_mono zt_X11_count := ab_m1_mono _ _ _
theorem zV_X11_count : ab_recv zw_C vwCl RX11 zt_X11_count := ab_m1_v rfl rfl
def zp_X11_count : ab_P := [(0, .iload_n 1, 1, [1], []),
  (1, .iconst 0, 2, [], [0]),
  (2, .iconst 4, 3, [], [4]),
  (3, .invokestatic 117, 6, [], []),
  (6, .ifCond .eq 13, 9, [19], []),
  (9, .aload_n 0, 10, [0], []),
  (10, .getfield 10, 13, [], []),
  (13, .getfield 150, 16, [], []),
  (16, .iload_n 1, 17, [1], []),
  (17, .iaload, 18, [], []),
  (18, .ireturn, 19, [], []),
  (19, .iload_n 1, 20, [1], []),
  (20, .tableswitch 76 5 9 #[36, 44, 52, 60, 68], 56, [96, 56, 64, 72, 80, 88], [5, 6, 7, 8, 9]),
  (56, .aload_n 0, 57, [0], []),
  (57, .getfield 10, 60, [], []),
  (60, .getfield 121, 63, [], []),
  (63, .ireturn, 64, [], []),
  (64, .aload_n 0, 65, [0], []),
  (65, .getfield 19, 68, [], []),
  (68, .getfield 156, 71, [], []),
  (71, .ireturn, 72, [], []),
  (72, .aload_n 0, 73, [0], []),
  (73, .getfield 26, 76, [], []),
  (76, .getfield 159, 79, [], []),
  (79, .ireturn, 80, [], []),
  (80, .aload_n 0, 81, [0], []),
  (81, .getfield 26, 84, [], []),
  (84, .getfield 160, 87, [], []),
  (87, .ireturn, 88, [], []),
  (88, .aload_n 0, 89, [0], []),
  (89, .getfield 35, 92, [], []),
  (92, .getfield 113, 95, [], []),
  (95, .ireturn, 96, [], []),
  (96, .bipush (-2), 98, [], [(-2)]),
  (98, .ireturn, 99, [], [])]
theorem zo_X11_count : ab_ok cX11_count zp_X11_count = true := by decide +kernel
def zg_X11_count : ab_G := (zw_C, zs_tab, zf_X11, zc_X11, [(144, 50), (147, 51)], [], [(117, 3, zt_X11_within)])
theorem zm_X11_count : ab_MG zg_X11_count := ab_MGof (List.forall_mem_nil _) (List.forall_mem_cons.mpr ⟨ab_pure_mono _, List.forall_mem_nil _⟩)
abbrev zr_X11_count (Q : ab_R) : ab_K := ab_Run zg_X11_count zp_X11_count (some .int) 2 Q
set_option maxRecDepth 20000 in
theorem zv_X11_count_0 {Q : ab_R} {M : ab_M} {N : ab_N} (l1 : Int32) (h : ((ab_b ((0 : Int32) ≤ l1 ∧ l1 ≤ (4 : Int32))) = 0 → (l1 = 5 → Q (some (.int (M 1 4))) M N) ∧ (¬ l1 = 5 → (l1 = 6 → Q (some (.int (M 2 6))) M N) ∧ (¬ l1 = 6 → (l1 = 7 → Q (some (.int (M 3 2))) M N) ∧ (¬ l1 = 7 → (l1 = 8 → Q (some (.int (M 3 3))) M N) ∧ (¬ l1 = 8 → (l1 = 9 → Q (some (.int (M 4 2))) M N) ∧ (¬ l1 = 9 → Q (some (.int (-2 : Int32))) M N)))))) ∧ (¬ ((ab_b ((0 : Int32) ≤ l1 ∧ l1 ≤ (4 : Int32))) = 0) → vp_in l1 5 ∧ (Q (some (.int (M 17 l1.toNatClampNeg))) M N))) : zr_X11_count Q 0 [some (.ref 0), some (.int l1)] [] M N := ab_Run_s zm_X11_count (sp := []) 37 h
theorem zE_X11_count (as : List Value) (M : ab_M) (N : ab_N) (k : ab_R) (hT : zt_X11_count as M N k) : ab_cs as ≤ 2 ∧ zr_X11_count k 0 (ab_en as) [] M N := by
  obtain ⟨l, rfl, -, hk⟩ := ab_m1_e hT
  have hk := hk _ _ _ ⟨rfl, rfl, rfl⟩
  unfold zCoC at hk
  refine ⟨Nat.le_of_ble_eq_true rfl, zv_X11_count_0 _ ⟨fun c => ?_, fun c => ?_⟩⟩
  · rw [if_neg (ab_b_0.mp c)] at hk
    refine ⟨fun c => ?_, fun c => ?_⟩
    · rw [if_pos c] at hk; exact hk
    rw [if_neg c] at hk
    refine ⟨fun c => ?_, fun c => ?_⟩
    · rw [if_pos c] at hk; exact hk
    rw [if_neg c] at hk
    refine ⟨fun c => ?_, fun c => ?_⟩
    · rw [if_pos c] at hk; exact hk
    rw [if_neg c] at hk
    refine ⟨fun c => ?_, fun c => ?_⟩
    · rw [if_pos c] at hk; exact hk
    rw [if_neg c] at hk
    refine ⟨fun c => ?_, fun c => ?_⟩
    · rw [if_pos c] at hk; exact hk
    rw [if_neg c] at hk
    exact hk
  · have a := zIx0 c
    rw [if_pos a] at hk
    obtain ⟨j, y, e⟩ := zIxM (n := 4) (by decide) a
    exact ⟨by rw [e]; exact nI_in_ (by omega), hk⟩
abbrev zR_X11_count : Room := { frames := 1, cells := 0, slots := 0, locals := 22 }
set_option maxRecDepth 20000 in
theorem zM_X11_count (l : Launch) : ab_Met l zw_C vwCl zZ_C yX11_count cX11_count 2 (some .int) zR_X11_count zt_X11_count := ab_ofRun (G := zg_X11_count) (P := zp_X11_count) rfl zo_X11_count (by decide +kernel) zl_cl zl_lamC zf_X11_ok zs_tabOK zc_X11_ok zs_X11_ok (List.forall_mem_nil _) (List.forall_mem_cons.mpr ⟨ab_callS zZ_C_ok (zM_X11_within l) (ab_in 538 (by decide +kernel) rfl) (ab_in 536 (by decide +kernel) rfl) (ab_in 537 (by decide +kernel) rfl) (ab_in 1 (by decide +kernel) rfl) (by unfold ab_yok; decide +kernel) ⟨rfl, rfl⟩ (by decide), List.forall_mem_nil _⟩) zE_X11_count
theorem zFe_n : ∀ n, n ≤ 8 → ∀ L, L ≤ 7 → 1 ≤ L → (nI n + nI L - 1) / nI L = (if nI n ≤ (nI n / nI L) * nI L then nI n / nI L else nI n / nI L + 1) := by decide +kernel
def zt_X11_fewest : ab_T := ab_m1 0 (fun _ M _ => zI0 M) (fun x M N o M2 N2 => M2 = M ∧ N2 = N ∧ o = some (.int (zFeA (zPcs M) x)))
theorem zt_X11_fewest_mono : ab_mono zt_X11_fewest := ab_m1_mono _ _ _
theorem zV_X11_fewest : ab_recv zw_C vwCl RX11 zt_X11_fewest := ab_m1_v rfl rfl
def zp_X11_fewest : ab_P := [(0, .iload_n 1, 1, [1], []),
  (1, .iconst 0, 2, [], [0]),
  (2, .bipush 12, 4, [], [12]),
  (4, .invokestatic 117, 7, [], []),
  (7, .ifCond .ne 6, 10, [13], []),
  (10, .bipush (-2), 12, [], [(-2)]),
  (12, .ireturn, 13, [], []),
  (13, .iconst 1, 14, [], [1]),
  (14, .istore_n 2, 15, [2], []),
  (15, .iconst 2, 16, [], [2]),
  (16, .istore_n 3, 17, [3], []),
  (17, .iconst 2, 18, [], [2]),
  (18, .iload_n 3, 19, [3], []),
  (19, .imul, 20, [], []),
  (20, .iconst 3, 21, [], [3]),
  (21, .isub, 22, [], []),
  (22, .iload_n 1, 23, [1], []),
  (23, .if_icmp .gt 11, 26, [34], []),
  (26, .iload_n 3, 27, [3], []),
  (27, .istore_n 2, 28, [2], []),
  (28, .iinc 3 1, 31, [], [1]),
  (31, .goto (-14), 34, [17], []),
  (34, .aload_n 0, 35, [0], []),
  (35, .getfield 10, 38, [], []),
  (38, .getfield 121, 41, [], []),
  (41, .iload_n 2, 42, [2], []),
  (42, .idiv, 43, [], []),
  (43, .istore_n 3, 44, [3], []),
  (44, .iload_n 3, 45, [3], []),
  (45, .iload_n 2, 46, [2], []),
  (46, .imul, 47, [], []),
  (47, .aload_n 0, 48, [0], []),
  (48, .getfield 10, 51, [], []),
  (51, .getfield 121, 54, [], []),
  (54, .if_icmp .ge 9, 57, [63], []),
  (57, .iload_n 3, 58, [3], []),
  (58, .iconst 1, 59, [], [1]),
  (59, .iadd, 60, [], []),
  (60, .goto 4, 63, [64], []),
  (63, .iload_n 3, 64, [3], []),
  (64, .ireturn, 65, [], [])]
theorem zo_X11_fewest : ab_ok cX11_fewest zp_X11_fewest = true := by decide +kernel
def zg_X11_fewest : ab_G := (zw_C, zs_tab, zf_X11, zc_X11, [(144, 50), (147, 51)], [], [(117, 3, zt_X11_within)])
theorem zm_X11_fewest : ab_MG zg_X11_fewest := ab_MGof (List.forall_mem_nil _) (List.forall_mem_cons.mpr ⟨ab_pure_mono _, List.forall_mem_nil _⟩)
abbrev zr_X11_fewest (Q : ab_R) : ab_K := ab_Run zg_X11_fewest zp_X11_fewest (some .int) 4 Q
set_option maxRecDepth 20000 in
theorem zv_X11_fewest_0 {Q : ab_R} {M : ab_M} {N : ab_N} (l1 : Int32) (h : ((ab_b ((0 : Int32) ≤ l1 ∧ l1 ≤ (12 : Int32))) = 0 → Q (some (.int (-2 : Int32))) M N) ∧ (¬ ((ab_b ((0 : Int32) ≤ l1 ∧ l1 ≤ (12 : Int32))) = 0) → zr_X11_fewest Q 17 [some (.ref 0), some (.int l1), some (.int (1 : Int32)), some (.int (2 : Int32))] [] M N)) : zr_X11_fewest Q 0 [some (.ref 0), some (.int l1)] [] M N := ab_Run_s zm_X11_fewest (sp := [(17, [true, true, true, true])]) 43 h
set_option maxRecDepth 20000 in
theorem zv_X11_fewest_17 {Q : ab_R} {M : ab_M} {N : ab_N} (l1 : Int32) (l2 : Int32) (l3 : Int32) (h : (l1 < (((2 : Int32) * l3) - (3 : Int32)) → ¬ l2 = 0 ∧ (((M 1 4) ≤ (((M 1 4) / l2) * l2) → Q (some (.int ((M 1 4) / l2))) M N) ∧ (¬ ((M 1 4) ≤ (((M 1 4) / l2) * l2)) → Q (some (.int (((M 1 4) / l2) + (1 : Int32)))) M N))) ∧ (¬ (l1 < (((2 : Int32) * l3) - (3 : Int32))) → zr_X11_fewest Q 17 [some (.ref 0), some (.int l1), some (.int l3), some (.int (l3 + (1 : Int32)))] [] M N)) : zr_X11_fewest Q 17 [some (.ref 0), some (.int l1), some (.int l2), some (.int l3)] [] M N := ab_Run_s zm_X11_fewest (sp := [(17, [true, true, true, true])]) 43 h
theorem zL_X11_fewest {Q : ab_R} {M : ab_M} {N : ab_N} {n k : Nat} (h4 : M 1 4 = nI n) (h8 : n ≤ 8) (hk12 : k ≤ 12) (hk : Q (some (.int ((nI n + nI ((k + 1) / 2 + 1) - 1) / nI ((k + 1) / 2 + 1)))) M N) : ∀ (r c : Nat), c + r = (k + 1) / 2 + 1 → 1 ≤ c → zr_X11_fewest Q 17 [some (.ref 0), some (.int (nI k)), some (.int (nI c)), some (.int (nI (c + 1)))] [] M N := by
  intro r
  induction r with
  | zero =>
    intro c hc h1
    have e : c = (k + 1) / 2 + 1 := by omega
    subst e
    have ex : (2 : Int32) * nI ((k + 1) / 2 + 1 + 1) - 3 = nI (2 * ((k + 1) / 2 + 1 + 1) - 3) := by rw [show (2 : Int32) = nI 2 from rfl, pk_mul, show (3 : Int32) = nI 3 from rfl, pk_sub (by omega)]
    rw [zFe_n n h8 _ (by omega) (by omega)] at hk
    refine zv_X11_fewest_17 _ _ _ ?_
    rw [ex, h4]
    refine ⟨fun _ => ⟨nI_ne0 (by omega) (by omega), fun c => ?_, fun c => ?_⟩, fun z => absurd (nI_lt (by omega) (by omega)) z⟩
    · rw [if_pos c] at hk; exact hk
    · rw [if_neg c] at hk; exact hk
  | succ r ih =>
    intro c hc h1
    have ex : (2 : Int32) * nI (c + 1) - 3 = nI (2 * (c + 1) - 3) := by rw [show (2 : Int32) = nI 2 from rfl, pk_mul, show (3 : Int32) = nI 3 from rfl, pk_sub (by omega)]
    refine zv_X11_fewest_17 _ _ _ ?_
    rw [ex, nI_1]
    exact ⟨fun z => absurd z (nI_nlt (by omega) (by omega)), fun _ => ih (c + 1) (by omega) (by omega)⟩
theorem zE_X11_fewest (as : List Value) (M : ab_M) (N : ab_N) (k : ab_R) (hT : zt_X11_fewest as M N k) : ab_cs as ≤ 4 ∧ zr_X11_fewest k 0 (ab_en as) [] M N := by
  obtain ⟨l, rfl, h0, hk⟩ := ab_m1_e hT
  obtain ⟨h7, h8⟩ := zP_eq h0
  have hk := hk _ _ _ ⟨rfl, rfl, rfl⟩
  unfold zFeA at hk
  refine ⟨Nat.le_of_ble_eq_true rfl, zv_X11_fewest_0 _ ⟨fun c => ?_, fun c => ?_⟩⟩
  · rw [if_neg (ab_b_0.mp c)] at hk
    exact hk
  · have c := zIx0 c
    rw [if_pos c] at hk
    obtain ⟨s, y, e⟩ := zIxM (n := 12) (by decide) c
    subst e
    rw [nI_clamp (show s < 2 ^ 31 by omega)] at hk
    exact zL_X11_fewest h7 h8 y hk ((s + 1) / 2) 1 (by omega) (Nat.le_refl _)
abbrev zR_X11_fewest : Room := { frames := 1, cells := 0, slots := 0, locals := 22 }
set_option maxRecDepth 20000 in
theorem zM_X11_fewest (l : Launch) : ab_Met l zw_C vwCl zZ_C yX11_fewest cX11_fewest 4 (some .int) zR_X11_fewest zt_X11_fewest := ab_ofRun (G := zg_X11_fewest) (P := zp_X11_fewest) rfl zo_X11_fewest (by decide +kernel) zl_cl zl_lamC zf_X11_ok zs_tabOK zc_X11_ok zs_X11_ok (List.forall_mem_nil _) (List.forall_mem_cons.mpr ⟨ab_callS zZ_C_ok (zM_X11_within l) (ab_in 538 (by decide +kernel) rfl) (ab_in 536 (by decide +kernel) rfl) (ab_in 537 (by decide +kernel) rfl) (ab_in 1 (by decide +kernel) rfl) (by unfold ab_yok; decide +kernel) ⟨rfl, rfl⟩ (by decide), List.forall_mem_nil _⟩) zE_X11_fewest
/-- a man who doesn't look is met by one who does -/
def zCkP (d : ab_M) (m h : Nat) : Prop := ¬ zAwk (d 25 m) (d 29 m) (nI h) ∧ ∃ o, o < zMen d ∧ zAwk (d 25 o) (d 29 o) (nI h) ∧ (zWk d h).1 o = (zWk d h).1 m
noncomputable def zCkB (d : ab_M) (m h : Nat) : Bool := @decide (zCkP d m h) (Classical.propDecidable _)
theorem zCkB_t {d : ab_M} {m h : Nat} : zCkB d m h = true ↔ zCkP d m h := by
  unfold zCkB
  exact @decide_eq_true_iff _ (Classical.propDecidable _)
noncomputable def zCkA (d : ab_M) (m : Int32) : Int32 := if zHasN m (zMen d) then zMtF (zCkB d m.toNatClampNeg) (zHrs d) 0 else -5
def zt_X11_check : ab_T := ab_m1 0 (fun _ M _ => zNight M) (fun x M N o M2 N2 => zFr zQc M M2 ∧ zAsks M2 ∧ o = some (.int (zCkA M x)))
theorem zt_X11_check_mono : ab_mono zt_X11_check := ab_m1_mono _ _ _
theorem zV_X11_check : ab_recv zw_C vwCl RX11 zt_X11_check := ab_m1_v rfl rfl
def zp_X11_check : ab_P := [(0, .aload_n 0, 1, [0], []),
  (1, .getfield 19, 4, [], []),
  (4, .iload_n 1, 5, [1], []),
  (5, .invokevirtual 179, 8, [], []),
  (8, .ifCond .ne 6, 11, [14], []),
  (11, .bipush (-5), 13, [], [(-5)]),
  (13, .ireturn, 14, [], []),
  (14, .aload_n 0, 15, [0], []),
  (15, .getfield 53, 18, [], []),
  (18, .invokevirtual 198, 21, [], []),
  (21, .iconst 0, 22, [], [0]),
  (22, .istore_n 2, 23, [2], []),
  (23, .iload_n 2, 24, [2], []),
  (24, .aload_n 0, 25, [0], []),
  (25, .getfield 10, 28, [], []),
  (28, .getfield 150, 31, [], []),
  (31, .iconst 0, 32, [], [0]),
  (32, .iaload, 33, [], []),
  (33, .if_icmp .ge 67, 36, [100], []),
  (36, .iconst 0, 37, [], [0]),
  (37, .istore_n 3, 38, [3], []),
  (38, .iload_n 3, 39, [3], []),
  (39, .aload_n 0, 40, [0], []),
  (40, .getfield 19, 43, [], []),
  (43, .getfield 156, 46, [], []),
  (46, .if_icmp .ge 48, 49, [94], []),
  (49, .aload_n 0, 50, [0], []),
  (50, .getfield 19, 53, [], []),
  (53, .iload_n 1, 54, [1], []),
  (54, .iload_n 2, 55, [2], []),
  (55, .invokevirtual 284, 58, [], []),
  (58, .ifCond .ne 30, 61, [88], []),
  (61, .aload_n 0, 62, [0], []),
  (62, .getfield 19, 65, [], []),
  (65, .iload_n 3, 66, [3], []),
  (66, .iload_n 2, 67, [2], []),
  (67, .invokevirtual 284, 70, [], []),
  (70, .ifCond .eq 18, 73, [88], []),
  (73, .aload_n 0, 74, [0], []),
  (74, .getfield 53, 77, [], []),
  (77, .iload_n 1, 78, [1], []),
  (78, .iload_n 3, 79, [3], []),
  (79, .iload_n 2, 80, [2], []),
  (80, .invokevirtual 215, 83, [], []),
  (83, .ifCond .eq 5, 86, [88], []),
  (86, .iload_n 2, 87, [2], []),
  (87, .ireturn, 88, [], []),
  (88, .iinc 3 1, 91, [], [1]),
  (91, .goto (-53), 94, [38], []),
  (94, .iinc 2 1, 97, [], [1]),
  (97, .goto (-74), 100, [23], []),
  (100, .iconst (-1), 101, [], [(-1)]),
  (101, .ireturn, 102, [], [])]
theorem zo_X11_check : ab_ok cX11_check zp_X11_check = true := by decide +kernel
def zg_X11_check : ab_G := (zw_C, zs_tab, zf_X11, zc_X11, [(144, 50), (147, 51)], [(179, 2, zt_X5_has), (198, 1, zt_X10_go), (215, 4, zt_X10_together), (284, 3, zt_X5_awake)], [])
theorem zm_X11_check : ab_MG zg_X11_check := ab_MGof (List.forall_mem_cons.mpr ⟨ab_pure_mono _, List.forall_mem_cons.mpr ⟨zt_X10_go_mono, List.forall_mem_cons.mpr ⟨ab_pp_mono _, List.forall_mem_cons.mpr ⟨ab_pp_mono _, List.forall_mem_nil _⟩⟩⟩⟩) (List.forall_mem_nil _)
abbrev zr_X11_check (Q : ab_R) : ab_K := ab_Run zg_X11_check zp_X11_check (some .int) 4 Q
set_option maxRecDepth 20000 in
theorem zv_X11_check_0 {Q : ab_R} {M : ab_M} {N : ab_N} (l1 : Int32) (h : ((ab_b (0 ≤ l1 ∧ l1 < (M 2) 6 ∧ l1 < 5)) = 0 → Q (some (.int (-5 : Int32))) M N) ∧ (¬ ((ab_b (0 ≤ l1 ∧ l1 < (M 2) 6 ∧ l1 < 5)) = 0) → zt_X10_go [.ref 6] M N (fun r M2 N2 => zr_X11_check Q 21 [some (.ref 0), some (.int l1), none, none] (ab_ol r []) M2 N2))) : zr_X11_check Q 0 [some (.ref 0), some (.int l1)] [] M N := ab_Run_s zm_X11_check (sp := [(21, [true, true, false, false]), (23, [true, true, true, false]), (38, [true, true, true, true])]) 55 h
set_option maxRecDepth 20000 in
theorem zv_X11_check_21 {Q : ab_R} {M : ab_M} {N : ab_N} (l1 : Int32) (h : zr_X11_check Q 23 [some (.ref 0), some (.int l1), some (.int (0 : Int32)), none] [] M N) : zr_X11_check Q 21 [some (.ref 0), some (.int l1), none, none] [] M N := ab_Run_s zm_X11_check (sp := [(21, [true, true, false, false]), (23, [true, true, true, false]), (38, [true, true, true, true])]) 55 h
set_option maxRecDepth 20000 in
theorem zv_X11_check_23 {Q : ab_R} {M : ab_M} {N : ab_N} (l1 : Int32) (l2 : Int32) (h : vp_in (0 : Int32) 5 ∧ (((M 17 0) ≤ l2 → Q (some (.int (-1 : Int32))) M N) ∧ (¬ ((M 17 0) ≤ l2) → zr_X11_check Q 38 [some (.ref 0), some (.int l1), some (.int l2), some (.int (0 : Int32))] [] M N))) : zr_X11_check Q 23 [some (.ref 0), some (.int l1), some (.int l2), none] [] M N := ab_Run_s zm_X11_check (sp := [(21, [true, true, false, false]), (23, [true, true, true, false]), (38, [true, true, true, true])]) 55 h
set_option maxRecDepth 20000 in
theorem zv_X11_check_38 {Q : ab_R} {M : ab_M} {N : ab_N} (l1 : Int32) (l2 : Int32) (l3 : Int32) (h : ((M 2 6) ≤ l3 → zr_X11_check Q 23 [some (.ref 0), some (.int l1), some (.int (l2 + (1 : Int32))), none] [] M N) ∧ (¬ ((M 2 6) ≤ l3) → (vp_in l1 5) ∧ (((ab_b (zAwk ((M 25) l1.toNatClampNeg) ((M 29) l1.toNatClampNeg) l2)) = 0 → (vp_in l3 5) ∧ (((ab_b (zAwk ((M 25) l3.toNatClampNeg) ((M 29) l3.toNatClampNeg) l2)) = 0 → zr_X11_check Q 38 [some (.ref 0), some (.int l1), some (.int l2), some (.int (l3 + (1 : Int32)))] [] M N) ∧ (¬ ((ab_b (zAwk ((M 25) l3.toNatClampNeg) ((M 29) l3.toNatClampNeg) l2)) = 0) → (vp_in (l2 * 5 + l1) 60 ∧ vp_in (l2 * 5 + l3) 60) ∧ (((ab_b ((M 37) (l2 * 5 + l1).toNatClampNeg = (M 37) (l2 * 5 + l3).toNatClampNeg)) = 0 → zr_X11_check Q 38 [some (.ref 0), some (.int l1), some (.int l2), some (.int (l3 + (1 : Int32)))] [] M N) ∧ (¬ ((ab_b ((M 37) (l2 * 5 + l1).toNatClampNeg = (M 37) (l2 * 5 + l3).toNatClampNeg)) = 0) → Q (some (.int l2)) M N))))) ∧ (¬ ((ab_b (zAwk ((M 25) l1.toNatClampNeg) ((M 29) l1.toNatClampNeg) l2)) = 0) → zr_X11_check Q 38 [some (.ref 0), some (.int l1), some (.int l2), some (.int (l3 + (1 : Int32)))] [] M N)))) : zr_X11_check Q 38 [some (.ref 0), some (.int l1), some (.int l2), some (.int l3)] [] M N := ab_Run_s zm_X11_check (sp := [(21, [true, true, false, false]), (23, [true, true, true, false]), (38, [true, true, true, true])]) 55 h
theorem zL_X11_check1 {Q : ab_R} {M : ab_M} {N : ab_N} {d : ab_M} {m h : Nat} (hm : m < zMen d) (h5 : zMen d ≤ 5) (h6 : M 2 6 = nI (zMen d)) (h12 : h < 12) (e25 : M 25 = d 25) (e29 : M 29 = d 29) (hW : ∀ m, m < zMen d → M 37 (h * 5 + m) = (zWk d h).1 m) (hA : zCkP d m h → Q (some (.int (nI h))) M N) (hB : ¬ zCkP d m h → zr_X11_check Q 23 [some (.ref 0), some (.int (nI m)), some (.int (nI (h + 1))), none] [] M N) : ∀ (r o : Nat), o + r = zMen d → (∀ j, j < o → ¬ (¬ zAwk (d 25 m) (d 29 m) (nI h) ∧ zAwk (d 25 j) (d 29 j) (nI h) ∧ (zWk d h).1 j = (zWk d h).1 m)) → zr_X11_check Q 38 [some (.ref 0), some (.int (nI m)), some (.int (nI h)), some (.int (nI o))] [] M N := by
  intro r
  induction r with
  | zero =>
    intro o ho hj
    have e : o = zMen d := by omega
    subst e
    refine zv_X11_check_38 _ _ _ ?_
    rw [h6, nI_1]
    refine ⟨fun _ => hB (fun z => ?_), fun c => absurd (nI_le (Nat.le_refl _) (by omega)) c⟩
    obtain ⟨z1, j, z2, z3, z4⟩ := z
    exact hj j z2 ⟨z1, z3, z4⟩
  | succ r ih =>
    intro o ho hj
    have go : ¬ (¬ zAwk (d 25 m) (d 29 m) (nI h) ∧ zAwk (d 25 o) (d 29 o) (nI h) ∧ (zWk d h).1 o = (zWk d h).1 m) → zr_X11_check Q 38 [some (.ref 0), some (.int (nI m)), some (.int (nI h)), some (.int (nI (o + 1)))] [] M N := fun g => ih (o + 1) (by omega) (fun j hj2 => by
      by_cases e : j = o
      · rw [e]; exact g
      · exact hj j (by omega))
    refine zv_X11_check_38 _ _ _ ?_
    rw [h6, nI_1, nI_1, nI_clamp (show m < 2 ^ 31 by omega), nI_clamp (show o < 2 ^ 31 by omega), zN_mul h 5 5, nI_add, nI_add, nI_clamp (show h * 5 + m < 2 ^ 31 by omega), nI_clamp (show h * 5 + o < 2 ^ 31 by omega), hW m hm, hW o (by omega), e25, e29]
    refine ⟨fun c => absurd c (nI_ge (by omega) (by omega)), fun _ => ⟨nI_in_ (by omega), fun c1 => ⟨nI_in_ (by omega), fun c2 => ?_, fun c2 => ⟨⟨nI_in_ (by omega), nI_in_ (by omega)⟩, fun c3 => ?_, fun c3 => ?_⟩⟩, fun c1 => ?_⟩⟩
    · exact go (fun z => ab_b_0.mp c2 z.2.1)
    · exact go (fun z => ab_b_0.mp c3 z.2.2.symm)
    · exact hA ⟨ab_b_0.mp c1, o, by omega, zIx0 c2, (zIx0 c3).symm⟩
    · exact go (fun z => z.1 (zIx0 c1))
theorem zL_X11_check {Q : ab_R} {M : ab_M} {N : ab_N} {d : ab_M} {m : Nat} (hm : m < zMen d) (h5 : zMen d ≤ 5) (h6 : M 2 6 = nI (zMen d)) (h0 : M 17 0 = nI (zHrs d)) (h12 : zHrs d ≤ 12) (e25 : M 25 = d 25) (e29 : M 29 = d 29) (hW : ∀ h, h < zHrs d → ∀ m, m < zMen d → M 37 (h * 5 + m) = (zWk d h).1 m) (hk : Q (some (.int (zMtF (zCkB d m) (zHrs d) 0))) M N) : ∀ (r h : Nat), h + r = zHrs d → zMtF (zCkB d m) r h = zMtF (zCkB d m) (zHrs d) 0 → zr_X11_check Q 23 [some (.ref 0), some (.int (nI m)), some (.int (nI h)), none] [] M N := by
  intro r
  induction r with
  | zero =>
    intro h hr he
    rw [← he] at hk
    exact zv_X11_check_23 _ _ ⟨ab_vpk (by decide), fun _ => hk, fun c => absurd (by rw [h0]; exact nI_le (by omega) (by omega)) c⟩
  | succ r ih =>
    intro h hr he
    have e : zMtF (zCkB d m) (r + 1) h = if zCkB d m h = true then nI h else zMtF (zCkB d m) r (h + 1) := rfl
    refine zv_X11_check_23 _ _ ⟨ab_vpk (by decide), fun c => absurd (by rw [← h0]; exact c) (nI_ge (a := h) (b := zHrs d) (by omega) (by omega)), fun _ => ?_⟩
    refine zL_X11_check1 hm h5 h6 (by omega) e25 e29 (hW h (by omega)) (fun z => ?_) (fun z => ?_) (zMen d) 0 (by omega) (fun j hj => absurd hj (Nat.not_lt_zero _))
    · rw [if_pos (zCkB_t.mpr z)] at e
      rw [← he, e] at hk
      exact hk
    · rw [if_neg (fun q => z (zCkB_t.mp q))] at e
      exact ih (h + 1) (by omega) (e.symm.trans he)
theorem zE_X11_check (as : List Value) (M : ab_M) (N : ab_N) (k : ab_R) (hT : zt_X11_check as M N k) : ab_cs as ≤ 4 ∧ zr_X11_check k 0 (ab_en as) [] M N := by
  obtain ⟨m, rfl, hN, hk⟩ := ab_m1_e hT
  obtain ⟨n7, p8, n12, m5, n0, h12, -⟩ := zCn hN
  have hk := fun M2 N2 (hF : zFr zQc M M2) (hA : zAsks M2) => hk _ M2 N2 ⟨hF, hA, rfl⟩
  unfold zCkA at hk
  refine ⟨Nat.le_of_ble_eq_true rfl, zv_X11_check_0 _ ?_⟩
  rw [n12]
  refine ⟨fun c => ?_, fun c => ab_m0_i hN ?_⟩
  · have hk := hk M N (zFr_rf _ _) hN.1
    rw [if_neg (zIcn m5 rfl (by decide) c)] at hk
    exact hk
  · rintro o M2 N2 ⟨rfl, rfl, g1, gA, g2⟩
    have hk := hk M2 N2 (zFr_mono g1 (by decide)) gA
    have a1 := zIcp m5 rfl (by decide) c
    rw [if_pos a1] at hk
    obtain ⟨km, y1, rfl⟩ := zIxN (by omega) a1
    rw [nI_clamp (show km < 2 ^ 31 by omega)] at hk
    exact zv_X11_check_21 _ (zL_X11_check y1 m5 (by rw [g1 2 (by decide), n12]) (by rw [g1 17 (by decide), n0]) h12 (g1 25 (by decide)) (g1 29 (by decide)) (fun h hh => (g2 h hh).1) hk (zHrs M) 0 (by omega) rfl)
abbrev zR_X11_check : Room := { frames := 6, cells := 0, slots := 0, locals := 155 }
set_option maxRecDepth 20000 in
theorem zM_X11_check (l : Launch) : ab_Met l zw_C vwCl zZ_C yX11_check cX11_check 4 (some .int) zR_X11_check zt_X11_check := ab_ofRun (G := zg_X11_check) (P := zp_X11_check) rfl zo_X11_check (by decide +kernel) zl_cl zl_lamC zf_X11_ok zs_tabOK zc_X11_ok zs_X11_ok (List.forall_mem_cons.mpr ⟨ab_callV zZ_C_ok (zM_X5_has l) (ab_in 642 (by decide +kernel) rfl) (ab_in 639 (by decide +kernel) rfl) (ab_in 640 (by decide +kernel) rfl) (ab_in 641 (by decide +kernel) rfl) (ab_in 3 (by decide +kernel) rfl) (by unfold ab_yok; decide +kernel) ⟨rfl, rfl⟩ (by decide) zV_X5_has, List.forall_mem_cons.mpr ⟨ab_callV zZ_C_ok (zM_X10_go l) (ab_in 658 (by decide +kernel) rfl) (ab_in 655 (by decide +kernel) rfl) (ab_in 656 (by decide +kernel) rfl) (ab_in 657 (by decide +kernel) rfl) (ab_in 7 (by decide +kernel) rfl) (by unfold ab_yok; decide +kernel) ⟨rfl, rfl⟩ (by decide) zV_X10_go, List.forall_mem_cons.mpr ⟨ab_callV zZ_C_ok (zM_X10_together l) (ab_in 728 (by decide +kernel) rfl) (ab_in 725 (by decide +kernel) rfl) (ab_in 726 (by decide +kernel) rfl) (ab_in 727 (by decide +kernel) rfl) (ab_in 7 (by decide +kernel) rfl) (by unfold ab_yok; decide +kernel) ⟨rfl, rfl⟩ (by decide) zV_X10_together, List.forall_mem_cons.mpr ⟨ab_callV zZ_C_ok (zM_X5_awake l) (ab_in 688 (by decide +kernel) rfl) (ab_in 842 (by decide +kernel) rfl) (ab_in 686 (by decide +kernel) rfl) (ab_in 687 (by decide +kernel) rfl) (ab_in 3 (by decide +kernel) rfl) (by unfold ab_yok; decide +kernel) ⟨rfl, rfl⟩ (by decide) zV_X5_awake, List.forall_mem_nil _⟩⟩⟩⟩) (List.forall_mem_nil _) zE_X11_check
noncomputable def zt_X12_check : ab_T := ab_lq (α := ab_M × Int32) (fun x r M _ => r = [.int x.2] ∧ zRN x.1 M ∧ x.1 6 7 = -1)
  (fun x M N o M2 N2 => zFr zSL M M2 ∧ N2 = N ∧ o = some (.int (zCkA x.1 x.2)))
theorem zt_X12_check_mono : ab_mono zt_X12_check := ab_lq_mono _ _
theorem zV_X12_check : ab_recv zw_M vwCl RX12 zt_X12_check := ab_lq_v
def zp_X12_check : ab_P := [(0, .aload_n 0, 1, [0], []),
  (1, .iload_n 1, 2, [1], []),
  (2, .invokevirtual 268, 5, [], []),
  (5, .ifCond .ne 6, 8, [11], []),
  (8, .bipush (-5), 10, [], [(-5)]),
  (10, .ireturn, 11, [], []),
  (11, .aload_n 0, 12, [0], []),
  (12, .invokevirtual 311, 15, [], []),
  (15, .iconst 0, 16, [], [0]),
  (16, .istore_n 2, 17, [2], []),
  (17, .iload_n 2, 18, [2], []),
  (18, .aload_n 0, 19, [0], []),
  (19, .getfield 7, 22, [], []),
  (22, .if_icmp .ge 75, 25, [97], []),
  (25, .iconst 0, 26, [], [0]),
  (26, .istore_n 3, 27, [3], []),
  (27, .iload_n 3, 28, [3], []),
  (28, .aload_n 0, 29, [0], []),
  (29, .getfield 179, 32, [], []),
  (32, .if_icmp .ge 59, 35, [91], []),
  (35, .iload_n 3, 36, [3], []),
  (36, .iload_n 1, 37, [1], []),
  (37, .if_icmp .eq 48, 40, [85], []),
  (40, .aload_n 0, 41, [0], []),
  (41, .iload_n 1, 42, [1], []),
  (42, .iload_n 2, 43, [2], []),
  (43, .invokevirtual 282, 46, [], []),
  (46, .ifCond .ne 39, 49, [85], []),
  (49, .aload_n 0, 50, [0], []),
  (50, .iload_n 3, 51, [3], []),
  (51, .iload_n 2, 52, [2], []),
  (52, .invokevirtual 282, 55, [], []),
  (55, .ifCond .eq 30, 58, [85], []),
  (58, .aload_n 0, 59, [0], []),
  (59, .getfield 144, 62, [], []),
  (62, .bipush 12, 64, [], [12]),
  (64, .iload_n 3, 65, [3], []),
  (65, .imul, 66, [], []),
  (66, .iload_n 2, 67, [2], []),
  (67, .iadd, 68, [], []),
  (68, .iaload, 69, [], []),
  (69, .aload_n 0, 70, [0], []),
  (70, .getfield 144, 73, [], []),
  (73, .bipush 12, 75, [], [12]),
  (75, .iload_n 1, 76, [1], []),
  (76, .imul, 77, [], []),
  (77, .iload_n 2, 78, [2], []),
  (78, .iadd, 79, [], []),
  (79, .iaload, 80, [], []),
  (80, .if_icmp .ne 5, 83, [85], []),
  (83, .iload_n 2, 84, [2], []),
  (84, .ireturn, 85, [], []),
  (85, .iinc 3 1, 88, [], [1]),
  (88, .goto (-61), 91, [27], []),
  (91, .iinc 2 1, 94, [], [1]),
  (94, .goto (-77), 97, [17], []),
  (97, .iconst (-1), 98, [], [(-1)]),
  (98, .ireturn, 99, [], [])]
theorem zo_X12_check : ab_ok cX12_check zp_X12_check = true := by decide +kernel
def zg_X12_check : ab_G := (zw_M, [], zf_X12, zc_X12, [], [(268, 2, zt_X12_isMan), (282, 3, zt_X12_doesLook), (311, 1, zt_X12_walk)], [])
theorem zm_X12_check : ab_MG zg_X12_check := ab_MGof (List.forall_mem_cons.mpr ⟨ab_pure_mono _, List.forall_mem_cons.mpr ⟨ab_pp_mono _, List.forall_mem_cons.mpr ⟨zt_X12_walk_mono, List.forall_mem_nil _⟩⟩⟩) (List.forall_mem_nil _)
abbrev zr_X12_check (Q : ab_R) : ab_K := ab_Run zg_X12_check zp_X12_check (some .int) 4 Q
set_option maxRecDepth 20000 in
theorem zv_X12_check_0 {Q : ab_R} {M : ab_M} {N : ab_N} (l1 : Int32) (h : ((ab_b (0 ≤ l1 ∧ l1 ≤ (M 0) 12 - 1)) = 0 → Q (some (.int (-5 : Int32))) M N) ∧ (¬ ((ab_b (0 ≤ l1 ∧ l1 ≤ (M 0) 12 - 1)) = 0) → zt_X12_walk [.ref 0] M N (fun r M2 N2 => zr_X12_check Q 15 [some (.ref 0), some (.int l1), none, none] (ab_ol r []) M2 N2))) : zr_X12_check Q 0 [some (.ref 0), some (.int l1)] [] M N := ab_Run_s zm_X12_check (sp := [(15, [true, true, false, false]), (17, [true, true, true, false]), (27, [true, true, true, true])]) 60 h
set_option maxRecDepth 20000 in
theorem zv_X12_check_15 {Q : ab_R} {M : ab_M} {N : ab_N} (l1 : Int32) (h : zr_X12_check Q 17 [some (.ref 0), some (.int l1), some (.int (0 : Int32)), none] [] M N) : zr_X12_check Q 15 [some (.ref 0), some (.int l1), none, none] [] M N := ab_Run_s zm_X12_check (sp := [(15, [true, true, false, false]), (17, [true, true, true, false]), (27, [true, true, true, true])]) 60 h
set_option maxRecDepth 20000 in
theorem zv_X12_check_17 {Q : ab_R} {M : ab_M} {N : ab_N} (l1 : Int32) (l2 : Int32) (h : ((M 0 0) ≤ l2 → Q (some (.int (-1 : Int32))) M N) ∧ (¬ ((M 0 0) ≤ l2) → zr_X12_check Q 27 [some (.ref 0), some (.int l1), some (.int l2), some (.int (0 : Int32))] [] M N)) : zr_X12_check Q 17 [some (.ref 0), some (.int l1), some (.int l2), none] [] M N := ab_Run_s zm_X12_check (sp := [(15, [true, true, false, false]), (17, [true, true, true, false]), (27, [true, true, true, true])]) 60 h
set_option maxRecDepth 20000 in
theorem zv_X12_check_27 {Q : ab_R} {M : ab_M} {N : ab_N} (l1 : Int32) (l2 : Int32) (l3 : Int32) (h : ((M 0 12) ≤ l3 → zr_X12_check Q 17 [some (.ref 0), some (.int l1), some (.int (l2 + (1 : Int32))), none] [] M N) ∧ (¬ ((M 0 12) ≤ l3) → (l3 = l1 → zr_X12_check Q 27 [some (.ref 0), some (.int l1), some (.int l2), some (.int (l3 + (1 : Int32)))] [] M N) ∧ (¬ (l3 = l1) → (vp_in l1 5 ∧ ¬ (M 10) l1.toNatClampNeg + 2 = 0) ∧ (((ab_b (¬ l1 = (M 0) 30 ∧ (¬ (M 6) l1.toNatClampNeg = 5 ∨ ¬ l2 - l2 / ((M 10) l1.toNatClampNeg + 2) * ((M 10) l1.toNatClampNeg + 2) = (M 10) l1.toNatClampNeg + 1))) = 0 → (vp_in l3 5 ∧ ¬ (M 10) l3.toNatClampNeg + 2 = 0) ∧ (((ab_b (¬ l3 = (M 0) 30 ∧ (¬ (M 6) l3.toNatClampNeg = 5 ∨ ¬ l2 - l2 / ((M 10) l3.toNatClampNeg + 2) * ((M 10) l3.toNatClampNeg + 2) = (M 10) l3.toNatClampNeg + 1))) = 0 → zr_X12_check Q 27 [some (.ref 0), some (.int l1), some (.int l2), some (.int (l3 + (1 : Int32)))] [] M N) ∧ (¬ ((ab_b (¬ l3 = (M 0) 30 ∧ (¬ (M 6) l3.toNatClampNeg = 5 ∨ ¬ l2 - l2 / ((M 10) l3.toNatClampNeg + 2) * ((M 10) l3.toNatClampNeg + 2) = (M 10) l3.toNatClampNeg + 1))) = 0) → vp_in (((12 : Int32) * l3) + l2) 60 ∧ (vp_in (((12 : Int32) * l1) + l2) 60 ∧ (((M 28 (((12 : Int32) * l3) + l2).toNatClampNeg) = (M 28 (((12 : Int32) * l1) + l2).toNatClampNeg) → Q (some (.int l2)) M N) ∧ (¬ ((M 28 (((12 : Int32) * l3) + l2).toNatClampNeg) = (M 28 (((12 : Int32) * l1) + l2).toNatClampNeg)) → zr_X12_check Q 27 [some (.ref 0), some (.int l1), some (.int l2), some (.int (l3 + (1 : Int32)))] [] M N)))))) ∧ (¬ ((ab_b (¬ l1 = (M 0) 30 ∧ (¬ (M 6) l1.toNatClampNeg = 5 ∨ ¬ l2 - l2 / ((M 10) l1.toNatClampNeg + 2) * ((M 10) l1.toNatClampNeg + 2) = (M 10) l1.toNatClampNeg + 1))) = 0) → zr_X12_check Q 27 [some (.ref 0), some (.int l1), some (.int l2), some (.int (l3 + (1 : Int32)))] [] M N))))) : zr_X12_check Q 27 [some (.ref 0), some (.int l1), some (.int l2), some (.int l3)] [] M N := ab_Run_s zm_X12_check (sp := [(15, [true, true, false, false]), (17, [true, true, true, false]), (27, [true, true, true, true])]) 60 h
theorem zDoes_m1 {d : ab_M} (h : d 6 7 = -1) {m : Nat} (hm : m < 2 ^ 31) (g : Nat) : zDoes d m g ↔ zAwk (d 25 m) (d 29 m) (nI g) := by
  unfold zDoes
  rw [h]
  exact ⟨fun z => z.2, fun z => ⟨nI_m1 hm, z⟩⟩
theorem zL_X12_check1 {Q : ab_R} {M : ab_M} {N : ab_N} {d : ab_M} {m h : Nat} (hR : zRN d M) (h7 : d 6 7 = -1) (hm : m < zMen d) (hh : h < 12) (hW : ∀ m, m < zMen d → M 28 (12 * m + h) = (zWk d h).1 m) (hA : zCkP d m h → Q (some (.int (nI h))) M N) (hB : ¬ zCkP d m h → zr_X12_check Q 17 [some (.ref 0), some (.int (nI m)), some (.int (nI (h + 1))), none] [] M N) : ∀ (r o : Nat), o + r = zMen d → (∀ j, j < o → ¬ (¬ zAwk (d 25 m) (d 29 m) (nI h) ∧ zAwk (d 25 j) (d 29 j) (nI h) ∧ (zWk d h).1 j = (zWk d h).1 m)) → zr_X12_check Q 27 [some (.ref 0), some (.int (nI m)), some (.int (nI h)), some (.int (nI o))] [] M N := by
  obtain ⟨n7, p8, n12, m5, n0, h1, h12, -⟩ := zNI_n hR
  intro r
  induction r with
  | zero =>
    intro o ho hj
    have e : o = zMen d := by omega
    subst e
    refine zv_X12_check_27 _ _ _ ?_
    rw [n12, nI_1]
    refine ⟨fun _ => hB (fun z => ?_), fun c => absurd (nI_le (Nat.le_refl _) (by omega)) c⟩
    obtain ⟨z1, j, z2, z3, z4⟩ := z
    exact hj j z2 ⟨z1, z3, z4⟩
  | succ r ih =>
    intro o ho hj
    have go : ¬ (¬ zAwk (d 25 m) (d 29 m) (nI h) ∧ zAwk (d 25 o) (d 29 o) (nI h) ∧ (zWk d h).1 o = (zWk d h).1 m) → zr_X12_check Q 27 [some (.ref 0), some (.int (nI m)), some (.int (nI h)), some (.int (nI (o + 1)))] [] M N := fun g => ih (o + 1) (by omega) (fun j hj2 => by
      by_cases e : j = o
      · rw [e]; exact g
      · exact hj j (by omega))
    have ix : ∀ m : Nat, (12 : Int32) * nI m + nI h = nI (12 * m + h) := fun m => by rw [show (12 : Int32) = nI 12 from rfl, pk_mul, nI_add]
    have dm := zDoes_r hR hm h
    have do_ := zDoes_r hR (m := o) (by omega) h
    rw [zDoes_m1 h7 (by omega)] at dm do_
    refine zv_X12_check_27 _ _ _ ?_
    rw [n12, nI_1, nI_1, nI_clamp (show m < 2 ^ 31 by omega), nI_clamp (show o < 2 ^ 31 by omega), ix, ix, nI_clamp (show 12 * m + h < 2 ^ 31 by omega), nI_clamp (show 12 * o + h < 2 ^ 31 by omega), hW m hm, hW o (by omega)]
    refine ⟨fun c => absurd c (nI_ge (by omega) (by omega)), fun _ => ⟨fun c => go (fun z => ?_), fun c => ⟨⟨nI_in_ (by omega), zMo_ne hR hm⟩, fun c1 => ⟨⟨nI_in_ (by omega), zMo_ne hR (by omega)⟩, fun c2 => ?_, fun c2 => ⟨nI_in_ (by omega), nI_in_ (by omega), fun c3 => ?_, fun c3 => ?_⟩⟩, fun c1 => ?_⟩⟩⟩
    · have e : o = m := (nI_eq (by omega) (by omega)).mp c
      rw [e] at z
      exact z.1 z.2.1
    · exact go (fun z => do_.mp c2 z.2.1)
    · exact hA ⟨dm.mp c1, o, by omega, Decidable.not_not.mp (fun z => c2 (do_.mpr z)), c3⟩
    · exact go (fun z => c3 z.2.2)
    · exact go (fun z => c1 (dm.mpr z.1))
theorem zL_X12_check {Q : ab_R} {M : ab_M} {N : ab_N} {d : ab_M} {m : Nat} (hR : zRN d M) (h7 : d 6 7 = -1) (hm : m < zMen d) (hW : zWkR d M (zHrs d)) (hk : Q (some (.int (zMtF (zCkB d m) (zHrs d) 0))) M N) : ∀ (r h : Nat), h + r = zHrs d → zMtF (zCkB d m) r h = zMtF (zCkB d m) (zHrs d) 0 → zr_X12_check Q 17 [some (.ref 0), some (.int (nI m)), some (.int (nI h)), none] [] M N := by
  obtain ⟨n7, p8, n12, m5, n0, h1, h12, -⟩ := zNI_n hR
  intro r
  induction r with
  | zero =>
    intro h hr he
    rw [← he] at hk
    exact zv_X12_check_17 _ _ ⟨fun _ => hk, fun c => absurd (by rw [n0]; exact nI_le (by omega) (by omega)) c⟩
  | succ r ih =>
    intro h hr he
    have e : zMtF (zCkB d m) (r + 1) h = if zCkB d m h = true then nI h else zMtF (zCkB d m) r (h + 1) := rfl
    refine zv_X12_check_17 _ _ ⟨fun c => absurd (by rw [← n0]; exact c) (nI_ge (a := h) (b := zHrs d) (by omega) (by omega)), fun _ => ?_⟩
    refine zL_X12_check1 hR h7 hm (by omega) (hW h (by omega)).1 (fun z => ?_) (fun z => ?_) (zMen d) 0 (by omega) (fun j hj => absurd hj (Nat.not_lt_zero _))
    · rw [if_pos (zCkB_t.mpr z)] at e
      rw [← he, e] at hk
      exact hk
    · rw [if_neg (fun q => z (zCkB_t.mp q))] at e
      exact ih (h + 1) (by omega) (e.symm.trans he)
theorem zE_X12_check (as : List Value) (M : ab_M) (N : ab_N) (k : ab_R) (hT : zt_X12_check as M N k) : ab_cs as ≤ 4 ∧ zr_X12_check k 0 (ab_en as) [] M N := by
  obtain ⟨⟨d, m⟩, q, rfl, ⟨rfl, hR, h7⟩, hk⟩ := hT
  dsimp only at hR h7 hk ⊢
  obtain ⟨n7, p8, n12, m5, n0, h1, h12, -⟩ := zNI_n hR
  have hk := fun M2 (hF : zFr zSL M M2) => hk _ M2 N ⟨hF, rfl, rfl⟩
  unfold zCkA at hk
  refine ⟨Nat.le_of_ble_eq_true rfl, zv_X12_check_0 _ ?_⟩
  rw [n12]
  refine ⟨fun c => ?_, fun c => ⟨d, _, rfl, ⟨rfl, hR⟩, ?_⟩⟩
  · have hk := hk M (zFr_rf _ _)
    rw [if_neg (ab_b_0.mp c)] at hk
    exact hk
  · rintro o M2 N2 ⟨rfl, rfl, g1, g2⟩
    have hk := hk M2 g1
    have a1 := zIx0 c
    rw [if_pos a1] at hk
    obtain ⟨km, y1, rfl⟩ := zIxN (by omega) a1
    rw [nI_clamp (show km < 2 ^ 31 by omega)] at hk
    exact zv_X12_check_15 _ (zL_X12_check (zRN_zfr hR g1 (by decide)) h7 y1 g2 hk (zHrs d) 0 (by omega) rfl)
abbrev zR_X12_check : Room := { frames := 7, cells := 0, slots := 0, locals := 166 }
set_option maxRecDepth 20000 in
theorem zM_X12_check (l : Launch) : ab_Met l zw_M vwCl zZ_M yX12_check cX12_check 4 (some .int) zR_X12_check zt_X12_check := ab_ofRun (G := zg_X12_check) (P := zp_X12_check) rfl zo_X12_check (by decide +kernel) zl_cl zl_lamM zf_X12_ok ab_Tab_nil zc_X12_ok ab_Sta_nil (List.forall_mem_cons.mpr ⟨ab_callV zZ_M_ok (zM_X12_isMan l) (ab_in 1301 (by decide +kernel) rfl) (ab_in 1298 (by decide +kernel) rfl) (ab_in 1300 (by decide +kernel) rfl) (ab_inS (List.mem_of_getElem? (i := 39) (by decide +kernel)) rfl) (ab_in 17 (by decide +kernel) rfl) (by unfold ab_yok; decide +kernel) ⟨rfl, rfl⟩ (by decide) zV_X12_isMan, List.forall_mem_cons.mpr ⟨ab_callV zZ_M_ok (zM_X12_doesLook l) (ab_in 1329 (by decide +kernel) rfl) (ab_in 1326 (by decide +kernel) rfl) (ab_in 1328 (by decide +kernel) rfl) (ab_inS (List.mem_of_getElem? (i := 44) (by decide +kernel)) rfl) (ab_in 17 (by decide +kernel) rfl) (by unfold ab_yok; decide +kernel) ⟨rfl, rfl⟩ (by decide) zV_X12_doesLook, List.forall_mem_cons.mpr ⟨ab_callV zZ_M_ok (zM_X12_walk l) (ab_in 1317 (by decide +kernel) rfl) (ab_in 1314 (by decide +kernel) rfl) (ab_in 1316 (by decide +kernel) rfl) (ab_inS (List.mem_of_getElem? (i := 41) (by decide +kernel)) rfl) (ab_in 17 (by decide +kernel) rfl) (by unfold ab_yok; decide +kernel) ⟨rfl, rfl⟩ (by decide) zV_X12_walk, List.forall_mem_nil _⟩⟩⟩) (List.forall_mem_nil _) zE_X12_check
