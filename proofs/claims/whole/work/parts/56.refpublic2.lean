/-! the reference: what is asked of a piece's night *)
-/
def zNO : Int64 := -4611686018427387904
def zHaA (d : ab_M) (p w : Int32) : Int64 := if zHasN p (zPcs d) then (if 0 ≤ w ∧ w ≤ 2 then zTold d (zRk d p.toNatClampNeg (zHrs d)) w.toNatClampNeg else zNO) else zNO
def zt_X12_harm : ab_T := ab_lq (α := ab_M × Int32 × Int32) (fun x r M _ => r = [.int x.2.1, .int x.2.2] ∧ zRN x.1 M)
  (fun x M N o M2 N2 => zFr zSL M M2 ∧ zNfr [0, 32] N N2 ∧ o = some (.long (zHaA x.1 x.2.1 x.2.2)))
theorem zt_X12_harm_mono : ab_mono zt_X12_harm := ab_lq_mono _ _
theorem zV_X12_harm : ab_recv zw_M vwCl RX12 zt_X12_harm := ab_lq_v
def zp_X12_harm : ab_P := [(0, .aload_n 0, 1, [0], []),
  (1, .iload_n 1, 2, [1], []),
  (2, .invokevirtual 182, 5, [], []),
  (5, .ifCond .eq 12, 8, [17], []),
  (8, .iload_n 2, 9, [2], []),
  (9, .iconst 0, 10, [], [0]),
  (10, .iconst 2, 11, [], [2]),
  (11, .invokestatic 175, 14, [], []),
  (14, .ifCond .ne 7, 17, [21], []),
  (17, .ldc2_w 341, 20, [], []),
  (20, .lreturn, 21, [], []),
  (21, .aload_n 0, 22, [0], []),
  (22, .invokevirtual 311, 25, [], []),
  (25, .aload_n 0, 26, [0], []),
  (26, .iload_n 1, 27, [1], []),
  (27, .aload_n 0, 28, [0], []),
  (28, .getfield 7, 31, [], []),
  (31, .iconst 1, 32, [], [1]),
  (32, .isub, 33, [], []),
  (33, .invokevirtual 334, 36, [], []),
  (36, .iload_n 2, 37, [2], []),
  (37, .ifCond .ne 10, 40, [47], []),
  (40, .aload_n 0, 41, [0], []),
  (41, .getfield 323, 44, [], []),
  (44, .goto 24, 47, [68], []),
  (47, .iload_n 2, 48, [2], []),
  (48, .iconst 1, 49, [], [1]),
  (49, .if_icmp .ne 15, 52, [64], []),
  (52, .aload_n 0, 53, [0], []),
  (53, .getfield 157, 56, [], []),
  (56, .aload_n 0, 57, [0], []),
  (57, .getfield 13, 60, [], []),
  (60, .laload, 61, [], []),
  (61, .goto 7, 64, [68], []),
  (64, .aload_n 0, 65, [0], []),
  (65, .getfield 319, 68, [], []),
  (68, .lreturn, 69, [], [])]
theorem zo_X12_harm : ab_ok cX12_harm zp_X12_harm = true := by decide +kernel
def zg_X12_harm : ab_G := (zw_M, [], zf_X12, zc_X12, [], [(182, 2, zt_X12_isPiece), (311, 1, zt_X12_walk), (334, 3, zt_X12_reckons)], [(175, 3, zt_X12_in)])
theorem zm_X12_harm : ab_MG zg_X12_harm := ab_MGof (List.forall_mem_cons.mpr ⟨ab_pure_mono _, List.forall_mem_cons.mpr ⟨zt_X12_walk_mono, List.forall_mem_cons.mpr ⟨zt_X12_reckons_mono, List.forall_mem_nil _⟩⟩⟩) (List.forall_mem_cons.mpr ⟨ab_pure_mono _, List.forall_mem_nil _⟩)
abbrev zr_X12_harm (Q : ab_R) : ab_K := ab_Run zg_X12_harm zp_X12_harm (some .long) 3 Q
set_option maxRecDepth 20000 in
theorem zv_X12_harm_0 {Q : ab_R} {M : ab_M} {N : ab_N} (l1 : Int32) (l2 : Int32) (h : ((ab_b (0 ≤ l1 ∧ l1 ≤ (M 0) 7 - 1)) = 0 → Q (some (.long (-4611686018427387904 : Int64))) M N) ∧ (¬ ((ab_b (0 ≤ l1 ∧ l1 ≤ (M 0) 7 - 1)) = 0) → ((ab_b ((0 : Int32) ≤ l2 ∧ l2 ≤ (2 : Int32))) = 0 → Q (some (.long (-4611686018427387904 : Int64))) M N) ∧ (¬ ((ab_b ((0 : Int32) ≤ l2 ∧ l2 ≤ (2 : Int32))) = 0) → zt_X12_walk [.ref 0] M N (fun r M2 N2 => zr_X12_harm Q 25 [some (.ref 0), some (.int l1), some (.int l2)] (ab_ol r []) M2 N2)))) : zr_X12_harm Q 0 [some (.ref 0), some (.int l1), some (.int l2)] [] M N := ab_Run_s zm_X12_harm (sp := [(25, [true, true, true]), (36, [true, false, true])]) 39 h
set_option maxRecDepth 20000 in
theorem zv_X12_harm_25 {Q : ab_R} {M : ab_M} {N : ab_N} (l1 : Int32) (l2 : Int32) (h : zt_X12_reckons [.ref 0, .int l1, .int ((M 0 0) - (1 : Int32))] M N (fun r M2 N2 => zr_X12_harm Q 36 [some (.ref 0), none, some (.int l2)] (ab_ol r []) M2 N2)) : zr_X12_harm Q 25 [some (.ref 0), some (.int l1), some (.int l2)] [] M N := ab_Run_s zm_X12_harm (sp := [(25, [true, true, true]), (36, [true, false, true])]) 39 h
set_option maxRecDepth 20000 in
theorem zv_X12_harm_36 {Q : ab_R} {M : ab_M} {N : ab_N} (l2 : Int32) (h : (l2 = 0 → Q (some (.long (N 0 66))) M N) ∧ (¬ (l2 = 0) → (l2 = (1 : Int32) → vp_in (M 0 1) 7 ∧ (Q (some (.long (N 32 (M 0 1).toNatClampNeg))) M N)) ∧ (¬ (l2 = (1 : Int32)) → Q (some (.long (N 0 67))) M N))) : zr_X12_harm Q 36 [some (.ref 0), none, some (.int l2)] [] M N := ab_Run_s zm_X12_harm (sp := [(25, [true, true, true]), (36, [true, false, true])]) 39 h
theorem zRkn {d M : ab_M} {N : ab_N} {p h : Nat} (hR : zRN d M) (hW : zWkR d M (zHrs d)) (hp : p < zPcs d) (hh : h < zHrs d) {k : ab_R} (hk : ∀ M2 N2, zFr [26, 27] M M2 → zNfr [0, 32] N N2 → zHasR N2 (zRk d p (h + 1)) → k none M2 N2) : zt_X12_reckons [.ref 0, .int (nI p), .int (nI h)] M N k := by
  refine ⟨(d, p, h), _, rfl, ⟨rfl, hR, hW, hp, hh⟩, ?_⟩
  rintro o M2 N2 ⟨rfl, a, b, c⟩
  exact hk M2 N2 a b c
theorem zE_X12_harm (as : List Value) (M : ab_M) (N : ab_N) (k : ab_R) (hT : zt_X12_harm as M N k) : ab_cs as ≤ 3 ∧ zr_X12_harm k 0 (ab_en as) [] M N := by
  obtain ⟨⟨d, p, w⟩, q, rfl, ⟨rfl, hR⟩, hk⟩ := hT
  dsimp only at hR hk ⊢
  obtain ⟨n7, p8, n12, m5, n0, h1, h12, n1, b2, b6⟩ := zNI_n hR
  have hk := fun M2 N2 (hF : zFr zSL M M2) (hN : zNfr [0, 32] N N2) => hk _ M2 N2 ⟨hF, hN, rfl⟩
  unfold zHaA at hk
  refine ⟨Nat.le_of_ble_eq_true rfl, zv_X12_harm_0 _ _ ?_⟩
  rw [n7]
  refine ⟨fun c => ?_, fun c => ⟨fun c2 => ?_, fun c2 => ⟨d, _, rfl, ⟨rfl, hR⟩, ?_⟩⟩⟩
  · have hk := hk M N (zFr_rf _ _) (zNfr_rf _ _)
    rw [if_neg (ab_b_0.mp c)] at hk
    exact hk
  · have hk := hk M N (zFr_rf _ _) (zNfr_rf _ _)
    rw [if_pos (zIx0 c), if_neg (ab_b_0.mp c2)] at hk
    exact hk
  · rintro o M2 N2 ⟨rfl, rfl, g1, g2⟩
    have a1 := zIx0 c
    have a2 := zIx0 c2
    obtain ⟨kp, y1, rfl⟩ := zIxN (by omega) a1
    obtain ⟨kw, y2, rfl⟩ := nI_ex a2.1
    have w2 : kw ≤ 2 := (nI_leI (b := 2) y2 (by decide)).mp a2.2
    have hR2 : zRN d M2 := zRN_zfr hR g1 (by decide)
    refine zv_X12_harm_25 _ _ ?_
    rw [g1 0 (by decide), n0, show nI (zHrs d) - 1 = nI (zHrs d - 1) by rw [show zHrs d = (zHrs d - 1) + 1 by omega, nI_pred]; rfl]
    refine zRkn hR2 g2 y1 (show zHrs d - 1 < zHrs d by omega) (fun M3 N3 f1 f2 f3 => ?_)
    rw [show zHrs d - 1 + 1 = zHrs d by omega] at f3
    have hk := hk M3 N3 (zFr_tr g1 (zFr_mono f1 (by decide))) f2
    rw [if_pos a1, if_pos a2, nI_clamp (show kp < 2 ^ 31 by omega), nI_clamp y2] at hk
    unfold zTold at hk
    refine zv_X12_harm_36 _ ⟨fun c => ?_, fun c => ⟨fun c2 => ?_, fun c2 => ?_⟩⟩
    · have e : kw = 0 := (nI_eq (b := 0) (by omega) (by decide)).mp c
      rw [if_pos e, ← f3.2.1] at hk
      exact hk
    · have e : kw = 1 := (nI_eq (b := 1) (by omega) (by decide)).mp c2
      rw [if_neg (by omega), if_pos e] at hk
      rw [f1 0 (by decide), g1 0 (by decide), n1, nI_clamp (show zBrk d < 2 ^ 31 by omega)]
      refine ⟨nI_in_ (by omega), ?_⟩
      rw [f3.1 _ (by omega)]
      exact hk
    · have e0 : ¬ kw = 0 := fun z => c (by rw [z]; rfl)
      have e1 : ¬ kw = 1 := fun z => c2 (by rw [z]; rfl)
      rw [if_neg e0, if_neg e1, ← f3.2.2] at hk
      exact hk
abbrev zR_X12_harm : Room := { frames := 7, cells := 0, slots := 0, locals := 166 }
set_option maxRecDepth 20000 in
theorem zM_X12_harm (l : Launch) : ab_Met l zw_M vwCl zZ_M yX12_harm cX12_harm 3 (some .long) zR_X12_harm zt_X12_harm := ab_ofRun (G := zg_X12_harm) (P := zp_X12_harm) rfl zo_X12_harm (by decide +kernel) zl_cl zl_lamM zf_X12_ok ab_Tab_nil zc_X12_ok ab_Sta_nil (List.forall_mem_cons.mpr ⟨ab_callV zZ_M_ok (zM_X12_isPiece l) (ab_in 1208 (by decide +kernel) rfl) (ab_in 1205 (by decide +kernel) rfl) (ab_in 1207 (by decide +kernel) rfl) (ab_inS (List.mem_of_getElem? (i := 27) (by decide +kernel)) rfl) (ab_in 17 (by decide +kernel) rfl) (by unfold ab_yok; decide +kernel) ⟨rfl, rfl⟩ (by decide) zV_X12_isPiece, List.forall_mem_cons.mpr ⟨ab_callV zZ_M_ok (zM_X12_walk l) (ab_in 1317 (by decide +kernel) rfl) (ab_in 1314 (by decide +kernel) rfl) (ab_in 1316 (by decide +kernel) rfl) (ab_inS (List.mem_of_getElem? (i := 41) (by decide +kernel)) rfl) (ab_in 17 (by decide +kernel) rfl) (by unfold ab_yok; decide +kernel) ⟨rfl, rfl⟩ (by decide) zV_X12_walk, List.forall_mem_cons.mpr ⟨ab_callV zZ_M_ok (zM_X12_reckons l) (ab_in 1376 (by decide +kernel) rfl) (ab_in 1373 (by decide +kernel) rfl) (ab_in 1375 (by decide +kernel) rfl) (ab_inS (List.mem_of_getElem? (i := 51) (by decide +kernel)) rfl) (ab_in 17 (by decide +kernel) rfl) (by unfold ab_yok; decide +kernel) ⟨rfl, rfl⟩ (by decide) zV_X12_reckons, List.forall_mem_nil _⟩⟩⟩) (List.forall_mem_cons.mpr ⟨ab_callS zZ_M_ok (zM_X12_in l) (ab_in 1200 (by decide +kernel) rfl) (ab_in 1198 (by decide +kernel) rfl) (ab_in 1199 (by decide +kernel) rfl) (ab_in 17 (by decide +kernel) rfl) (by unfold ab_yok; decide +kernel) ⟨rfl, rfl⟩ (by decide), List.forall_mem_nil _⟩) zE_X12_harm
def zStA (d : ab_M) (p h s : Int32) : Int64 := if zHasN p (zPcs d) then (if zHasN h (zHrs d) then (if 0 ≤ s ∧ s ≤ nI (zBrk d) then (zRk d p.toNatClampNeg (h.toNatClampNeg + 1)).1 s.toNatClampNeg else zNO) else zNO) else zNO
def zt_X12_state : ab_T := ab_lq (α := ab_M × Int32 × Int32 × Int32) (fun x r M _ => r = [.int x.2.1, .int x.2.2.1, .int x.2.2.2] ∧ zRN x.1 M)
  (fun x M N o M2 N2 => zFr zSL M M2 ∧ zNfr [0, 32] N N2 ∧ o = some (.long (zStA x.1 x.2.1 x.2.2.1 x.2.2.2)))
theorem zt_X12_state_mono : ab_mono zt_X12_state := ab_lq_mono _ _
theorem zV_X12_state : ab_recv zw_M vwCl RX12 zt_X12_state := ab_lq_v
def zp_X12_state : ab_P := [(0, .aload_n 0, 1, [0], []),
  (1, .iload_n 1, 2, [1], []),
  (2, .invokevirtual 182, 5, [], []),
  (5, .ifCond .eq 23, 8, [28], []),
  (8, .aload_n 0, 9, [0], []),
  (9, .iload_n 2, 10, [2], []),
  (10, .invokevirtual 308, 13, [], []),
  (13, .ifCond .eq 15, 16, [28], []),
  (16, .iload_n 3, 17, [3], []),
  (17, .iconst 0, 18, [], [0]),
  (18, .aload_n 0, 19, [0], []),
  (19, .getfield 13, 22, [], []),
  (22, .invokestatic 175, 25, [], []),
  (25, .ifCond .ne 7, 28, [32], []),
  (28, .ldc2_w 341, 31, [], []),
  (31, .lreturn, 32, [], []),
  (32, .aload_n 0, 33, [0], []),
  (33, .invokevirtual 311, 36, [], []),
  (36, .aload_n 0, 37, [0], []),
  (37, .iload_n 1, 38, [1], []),
  (38, .iload_n 2, 39, [2], []),
  (39, .invokevirtual 334, 42, [], []),
  (42, .aload_n 0, 43, [0], []),
  (43, .getfield 157, 46, [], []),
  (46, .iload_n 3, 47, [3], []),
  (47, .laload, 48, [], []),
  (48, .lreturn, 49, [], [])]
theorem zo_X12_state : ab_ok cX12_state zp_X12_state = true := by decide +kernel
def zg_X12_state : ab_G := (zw_M, [], zf_X12, zc_X12, [], [(182, 2, zt_X12_isPiece), (308, 2, zt_X12_isHour), (311, 1, zt_X12_walk), (334, 3, zt_X12_reckons)], [(175, 3, zt_X12_in)])
theorem zm_X12_state : ab_MG zg_X12_state := ab_MGof (List.forall_mem_cons.mpr ⟨ab_pure_mono _, List.forall_mem_cons.mpr ⟨ab_pure_mono _, List.forall_mem_cons.mpr ⟨zt_X12_walk_mono, List.forall_mem_cons.mpr ⟨zt_X12_reckons_mono, List.forall_mem_nil _⟩⟩⟩⟩) (List.forall_mem_cons.mpr ⟨ab_pure_mono _, List.forall_mem_nil _⟩)
abbrev zr_X12_state (Q : ab_R) : ab_K := ab_Run zg_X12_state zp_X12_state (some .long) 4 Q
set_option maxRecDepth 20000 in
theorem zv_X12_state_0 {Q : ab_R} {M : ab_M} {N : ab_N} (l1 : Int32) (l2 : Int32) (l3 : Int32) (h : ((ab_b (0 ≤ l1 ∧ l1 ≤ (M 0) 7 - 1)) = 0 → Q (some (.long (-4611686018427387904 : Int64))) M N) ∧ (¬ ((ab_b (0 ≤ l1 ∧ l1 ≤ (M 0) 7 - 1)) = 0) → ((ab_b (0 ≤ l2 ∧ l2 ≤ (M 0) 0 - 1)) = 0 → Q (some (.long (-4611686018427387904 : Int64))) M N) ∧ (¬ ((ab_b (0 ≤ l2 ∧ l2 ≤ (M 0) 0 - 1)) = 0) → ((ab_b ((0 : Int32) ≤ l3 ∧ l3 ≤ (M 0 1))) = 0 → Q (some (.long (-4611686018427387904 : Int64))) M N) ∧ (¬ ((ab_b ((0 : Int32) ≤ l3 ∧ l3 ≤ (M 0 1))) = 0) → zt_X12_walk [.ref 0] M N (fun r M2 N2 => zr_X12_state Q 36 [some (.ref 0), some (.int l1), some (.int l2), some (.int l3)] (ab_ol r []) M2 N2))))) : zr_X12_state Q 0 [some (.ref 0), some (.int l1), some (.int l2), some (.int l3)] [] M N := ab_Run_s zm_X12_state (sp := [(36, [true, true, true, true]), (42, [true, false, false, true])]) 29 h
set_option maxRecDepth 20000 in
theorem zv_X12_state_36 {Q : ab_R} {M : ab_M} {N : ab_N} (l1 : Int32) (l2 : Int32) (l3 : Int32) (h : zt_X12_reckons [.ref 0, .int l1, .int l2] M N (fun r M2 N2 => zr_X12_state Q 42 [some (.ref 0), none, none, some (.int l3)] (ab_ol r []) M2 N2)) : zr_X12_state Q 36 [some (.ref 0), some (.int l1), some (.int l2), some (.int l3)] [] M N := ab_Run_s zm_X12_state (sp := [(36, [true, true, true, true]), (42, [true, false, false, true])]) 29 h
set_option maxRecDepth 20000 in
theorem zv_X12_state_42 {Q : ab_R} {M : ab_M} {N : ab_N} (l3 : Int32) (h : vp_in l3 7 ∧ (Q (some (.long (N 32 l3.toNatClampNeg))) M N)) : zr_X12_state Q 42 [some (.ref 0), none, none, some (.int l3)] [] M N := ab_Run_s zm_X12_state (sp := [(36, [true, true, true, true]), (42, [true, false, false, true])]) 29 h
theorem zE_X12_state (as : List Value) (M : ab_M) (N : ab_N) (k : ab_R) (hT : zt_X12_state as M N k) : ab_cs as ≤ 4 ∧ zr_X12_state k 0 (ab_en as) [] M N := by
  obtain ⟨⟨d, p, h, s⟩, q, rfl, ⟨rfl, hR⟩, hk⟩ := hT
  dsimp only at hR hk ⊢
  obtain ⟨n7, p8, n12, m5, n0, h1, h12, n1, b2, b6⟩ := zNI_n hR
  have hk := fun M2 N2 (hF : zFr zSL M M2) (hN : zNfr [0, 32] N N2) => hk _ M2 N2 ⟨hF, hN, rfl⟩
  unfold zStA at hk
  refine ⟨Nat.le_of_ble_eq_true rfl, zv_X12_state_0 _ _ _ ?_⟩
  rw [n7, n0, n1]
  refine ⟨fun c => ?_, fun c => ⟨fun c2 => ?_, fun c2 => ⟨fun c3 => ?_, fun c3 => ⟨d, _, rfl, ⟨rfl, hR⟩, ?_⟩⟩⟩⟩
  · have hk := hk M N (zFr_rf _ _) (zNfr_rf _ _)
    rw [if_neg (ab_b_0.mp c)] at hk
    exact hk
  · have hk := hk M N (zFr_rf _ _) (zNfr_rf _ _)
    rw [if_pos (zIx0 c), if_neg (ab_b_0.mp c2)] at hk
    exact hk
  · have hk := hk M N (zFr_rf _ _) (zNfr_rf _ _)
    rw [if_pos (zIx0 c), if_pos (zIx0 c2), if_neg (ab_b_0.mp c3)] at hk
    exact hk
  · rintro o M2 N2 ⟨rfl, rfl, g1, g2⟩
    have a1 := zIx0 c
    have a2 := zIx0 c2
    have a3 := zIx0 c3
    obtain ⟨kp, y1, rfl⟩ := zIxN (by omega) a1
    obtain ⟨kh, y2, rfl⟩ := zIxN (by omega) a2
    obtain ⟨ks, y3, rfl⟩ := nI_ex a3.1
    have w2 : ks ≤ zBrk d := (nI_leI y3 (by omega)).mp a3.2
    have hR2 : zRN d M2 := zRN_zfr hR g1 (by decide)
    refine zv_X12_state_36 _ _ _ (zRkn hR2 g2 y1 y2 (fun M3 N3 f1 f2 f3 => ?_))
    have hk := hk M3 N3 (zFr_tr g1 (zFr_mono f1 (by decide))) f2
    rw [if_pos a1, if_pos a2, if_pos a3, nI_clamp (show kp < 2 ^ 31 by omega), nI_clamp (show kh < 2 ^ 31 by omega), nI_clamp y3] at hk
    refine zv_X12_state_42 _ ?_
    rw [nI_clamp y3]
    refine ⟨nI_in_ (by omega), ?_⟩
    rw [f3.1 _ (by omega)]
    exact hk
abbrev zR_X12_state : Room := { frames := 7, cells := 0, slots := 0, locals := 166 }
set_option maxRecDepth 20000 in
theorem zM_X12_state (l : Launch) : ab_Met l zw_M vwCl zZ_M yX12_state cX12_state 4 (some .long) zR_X12_state zt_X12_state := ab_ofRun (G := zg_X12_state) (P := zp_X12_state) rfl zo_X12_state (by decide +kernel) zl_cl zl_lamM zf_X12_ok ab_Tab_nil zc_X12_ok ab_Sta_nil (List.forall_mem_cons.mpr ⟨ab_callV zZ_M_ok (zM_X12_isPiece l) (ab_in 1208 (by decide +kernel) rfl) (ab_in 1205 (by decide +kernel) rfl) (ab_in 1207 (by decide +kernel) rfl) (ab_inS (List.mem_of_getElem? (i := 27) (by decide +kernel)) rfl) (ab_in 17 (by decide +kernel) rfl) (by unfold ab_yok; decide +kernel) ⟨rfl, rfl⟩ (by decide) zV_X12_isPiece, List.forall_mem_cons.mpr ⟨ab_callV zZ_M_ok (zM_X12_isHour l) (ab_in 1313 (by decide +kernel) rfl) (ab_in 1310 (by decide +kernel) rfl) (ab_in 1312 (by decide +kernel) rfl) (ab_inS (List.mem_of_getElem? (i := 40) (by decide +kernel)) rfl) (ab_in 17 (by decide +kernel) rfl) (by unfold ab_yok; decide +kernel) ⟨rfl, rfl⟩ (by decide) zV_X12_isHour, List.forall_mem_cons.mpr ⟨ab_callV zZ_M_ok (zM_X12_walk l) (ab_in 1317 (by decide +kernel) rfl) (ab_in 1314 (by decide +kernel) rfl) (ab_in 1316 (by decide +kernel) rfl) (ab_inS (List.mem_of_getElem? (i := 41) (by decide +kernel)) rfl) (ab_in 17 (by decide +kernel) rfl) (by unfold ab_yok; decide +kernel) ⟨rfl, rfl⟩ (by decide) zV_X12_walk, List.forall_mem_cons.mpr ⟨ab_callV zZ_M_ok (zM_X12_reckons l) (ab_in 1376 (by decide +kernel) rfl) (ab_in 1373 (by decide +kernel) rfl) (ab_in 1375 (by decide +kernel) rfl) (ab_inS (List.mem_of_getElem? (i := 51) (by decide +kernel)) rfl) (ab_in 17 (by decide +kernel) rfl) (by unfold ab_yok; decide +kernel) ⟨rfl, rfl⟩ (by decide) zV_X12_reckons, List.forall_mem_nil _⟩⟩⟩⟩) (List.forall_mem_cons.mpr ⟨ab_callS zZ_M_ok (zM_X12_in l) (ab_in 1200 (by decide +kernel) rfl) (ab_in 1198 (by decide +kernel) rfl) (ab_in 1199 (by decide +kernel) rfl) (ab_in 17 (by decide +kernel) rfl) (by unfold ab_yok; decide +kernel) ⟨rfl, rfl⟩ (by decide), List.forall_mem_nil _⟩) zE_X12_state
/-- hours that a piece is looked at -/
def zCnt (B : Nat → Int32) (p : Int32) : Nat → Int32
  | 0 => 0
  | h + 1 => zCnt B p h + ((B h >>> (p &&& 31)) &&& 1)
def zLkB (d : ab_M) : Nat → Int32 := fun h => nI (zBits (zWk d h).2.2.2 (zPcs d))
def zOfA (d : ab_M) (p w : Int32) : Int32 := if zHasN p (zPcs d) then (if 0 ≤ w ∧ w ≤ 1 then (if w = 0 then zCnt (zLkB d) p (zHrs d) else nI (zLgR (zBt (zLkB d) p) (zHrs d)).2) else -7) else -5
theorem zLgR_c {B C : Nat → Bool} : ∀ n, (∀ h, h < n → B h = C h) → zLgR B n = zLgR C n
  | 0, _ => rfl
  | n + 1, h => by
    have := zLgR_c n (fun j hj => h j (by omega))
    unfold zLgR
    rw [this, h n (by omega)]
theorem zCnt_c {B C : Nat → Int32} {p : Int32} : ∀ n, (∀ h, h < n → B h = C h) → zCnt B p n = zCnt C p n
  | 0, _ => rfl
  | n + 1, h => by
    have := zCnt_c (p := p) n (fun j hj => h j (by omega))
    unfold zCnt
    rw [this, h n (by omega)]
def zt_X12_often : ab_T := ab_lq (α := ab_M × Int32 × Int32) (fun x r M _ => r = [.int x.2.1, .int x.2.2] ∧ zRN x.1 M)
  (fun x M N o M2 N2 => zFr zSL M M2 ∧ N2 = N ∧ o = some (.int (zOfA x.1 x.2.1 x.2.2)))
theorem zt_X12_often_mono : ab_mono zt_X12_often := ab_lq_mono _ _
theorem zV_X12_often : ab_recv zw_M vwCl RX12 zt_X12_often := ab_lq_v
def zp_X12_often : ab_P := [(0, .aload_n 0, 1, [0], []),
  (1, .iload_n 1, 2, [1], []),
  (2, .invokevirtual 182, 5, [], []),
  (5, .ifCond .ne 6, 8, [11], []),
  (8, .bipush (-5), 10, [], [(-5)]),
  (10, .ireturn, 11, [], []),
  (11, .iload_n 2, 12, [2], []),
  (12, .iconst 0, 13, [], [0]),
  (13, .iconst 1, 14, [], [1]),
  (14, .invokestatic 175, 17, [], []),
  (17, .ifCond .ne 6, 20, [23], []),
  (20, .bipush (-7), 22, [], [(-7)]),
  (22, .ireturn, 23, [], []),
  (23, .aload_n 0, 24, [0], []),
  (24, .invokevirtual 311, 27, [], []),
  (27, .iconst 0, 28, [], [0]),
  (28, .istore_n 3, 29, [3], []),
  (29, .iconst 0, 30, [], [0]),
  (30, .istore 4, 32, [], []),
  (32, .iload 4, 34, [], []),
  (34, .aload_n 0, 35, [0], []),
  (35, .getfield 7, 38, [], []),
  (38, .if_icmp .ge 23, 41, [61], []),
  (41, .iload_n 3, 42, [3], []),
  (42, .aload_n 0, 43, [0], []),
  (43, .getfield 147, 46, [], []),
  (46, .iload 4, 48, [], []),
  (48, .iaload, 49, [], []),
  (49, .iload_n 1, 50, [1], []),
  (50, .ishr, 51, [], []),
  (51, .iconst 1, 52, [], [1]),
  (52, .iand, 53, [], []),
  (53, .iadd, 54, [], []),
  (54, .istore_n 3, 55, [3], []),
  (55, .iinc 4 1, 58, [], [1]),
  (58, .goto (-26), 61, [32], []),
  (61, .iload_n 2, 62, [2], []),
  (62, .ifCond .ne 7, 65, [69], []),
  (65, .iload_n 3, 66, [3], []),
  (66, .goto 8, 69, [74], []),
  (69, .aload_n 0, 70, [0], []),
  (70, .iload_n 1, 71, [1], []),
  (71, .invokevirtual 314, 74, [], []),
  (74, .ireturn, 75, [], [])]
theorem zo_X12_often : ab_ok cX12_often zp_X12_often = true := by decide +kernel
def zg_X12_often : ab_G := (zw_M, [], zf_X12, zc_X12, [], [(182, 2, zt_X12_isPiece), (311, 1, zt_X12_walk), (314, 2, zt_X12_rowWithout)], [(175, 3, zt_X12_in)])
theorem zm_X12_often : ab_MG zg_X12_often := ab_MGof (List.forall_mem_cons.mpr ⟨ab_pure_mono _, List.forall_mem_cons.mpr ⟨zt_X12_walk_mono, List.forall_mem_cons.mpr ⟨zt_X12_rowWithout_mono, List.forall_mem_nil _⟩⟩⟩) (List.forall_mem_cons.mpr ⟨ab_pure_mono _, List.forall_mem_nil _⟩)
abbrev zr_X12_often (Q : ab_R) : ab_K := ab_Run zg_X12_often zp_X12_often (some .int) 5 Q
set_option maxRecDepth 20000 in
theorem zv_X12_often_0 {Q : ab_R} {M : ab_M} {N : ab_N} (l1 : Int32) (l2 : Int32) (h : ((ab_b (0 ≤ l1 ∧ l1 ≤ (M 0) 7 - 1)) = 0 → Q (some (.int (-5 : Int32))) M N) ∧ (¬ ((ab_b (0 ≤ l1 ∧ l1 ≤ (M 0) 7 - 1)) = 0) → ((ab_b ((0 : Int32) ≤ l2 ∧ l2 ≤ (1 : Int32))) = 0 → Q (some (.int (-7 : Int32))) M N) ∧ (¬ ((ab_b ((0 : Int32) ≤ l2 ∧ l2 ≤ (1 : Int32))) = 0) → zt_X12_walk [.ref 0] M N (fun r M2 N2 => zr_X12_often Q 27 [some (.ref 0), some (.int l1), some (.int l2), none, none] (ab_ol r []) M2 N2)))) : zr_X12_often Q 0 [some (.ref 0), some (.int l1), some (.int l2)] [] M N := ab_Run_s zm_X12_often (sp := [(27, [true, true, true, false, false]), (32, [true, true, true, true, true]), (74, [false, false, false, false, false])]) 46 h
set_option maxRecDepth 20000 in
theorem zv_X12_often_27 {Q : ab_R} {M : ab_M} {N : ab_N} (l1 : Int32) (l2 : Int32) (h : zr_X12_often Q 32 [some (.ref 0), some (.int l1), some (.int l2), some (.int (0 : Int32)), some (.int (0 : Int32))] [] M N) : zr_X12_often Q 27 [some (.ref 0), some (.int l1), some (.int l2), none, none] [] M N := ab_Run_s zm_X12_often (sp := [(27, [true, true, true, false, false]), (32, [true, true, true, true, true]), (74, [false, false, false, false, false])]) 46 h
set_option maxRecDepth 20000 in
theorem zv_X12_often_32 {Q : ab_R} {M : ab_M} {N : ab_N} (l1 : Int32) (l2 : Int32) (l3 : Int32) (l4 : Int32) (h : ((M 0 0) ≤ l4 → (l2 = 0 → zr_X12_often Q 74 [none, none, none, none, none] [.int l3] M N) ∧ (¬ (l2 = 0) → zt_X12_rowWithout [.ref 0, .int l1] M N (fun r M2 N2 => zr_X12_often Q 74 [none, none, none, none, none] (ab_ol r []) M2 N2))) ∧ (¬ ((M 0 0) ≤ l4) → vp_in l4 12 ∧ (zr_X12_often Q 32 [some (.ref 0), some (.int l1), some (.int l2), some (.int (l3 + (((M 29 l4.toNatClampNeg) >>> (l1 &&& 31)) &&& (1 : Int32)))), some (.int (l4 + (1 : Int32)))] [] M N))) : zr_X12_often Q 32 [some (.ref 0), some (.int l1), some (.int l2), some (.int l3), some (.int l4)] [] M N := ab_Run_s zm_X12_often (sp := [(27, [true, true, true, false, false]), (32, [true, true, true, true, true]), (74, [false, false, false, false, false])]) 46 h
set_option maxRecDepth 20000 in
theorem zv_X12_often_74 {Q : ab_R} {M : ab_M} {N : ab_N} (s0 : Int32) (h : Q (some (.int s0)) M N) : zr_X12_often Q 74 [none, none, none, none, none] [.int s0] M N := ab_Run_s zm_X12_often (sp := [(27, [true, true, true, false, false]), (32, [true, true, true, true, true]), (74, [false, false, false, false, false])]) 46 h
theorem zL_X12_often {Q : ab_R} {M : ab_M} {N : ab_N} {d : ab_M} {p w : Int32} (h0 : M 0 0 = nI (zHrs d)) (h12 : zHrs d ≤ 12) (hW : zWkR d M (zHrs d)) (hk : Q (some (.int (if w = 0 then zCnt (zLkB d) p (zHrs d) else nI (zLgR (zBt (zLkB d) p) (zHrs d)).2))) M N) : ∀ (r h : Nat), h + r = zHrs d → zr_X12_often Q 32 [some (.ref 0), some (.int p), some (.int w), some (.int (zCnt (zLkB d) p h)), some (.int (nI h))] [] M N := by
  intro r
  induction r with
  | zero =>
    intro h hr
    have e : h = zHrs d := by omega
    subst e
    refine zv_X12_often_32 _ _ _ _ ⟨fun _ => ⟨fun c => ?_, fun c => ?_⟩, fun c => absurd (by rw [h0]; exact nI_le (Nat.le_refl _) (by omega)) c⟩
    · rw [if_pos c] at hk
      exact zv_X12_often_74 _ hk
    · rw [if_neg c] at hk
      refine ⟨(zHrs d, p), _, rfl, ⟨rfl, h0, h12⟩, ?_⟩
      rintro o M2 N2 ⟨rfl, rfl, rfl⟩
      refine zv_X12_often_74 _ ?_
      dsimp only
      rw [zLgR_c (C := zBt (zLkB d) p) (zHrs d) (fun h hh => by unfold zBt; rw [(hW h hh).2.2]; rfl)]
      exact hk
  | succ r ih =>
    intro h hr
    have ih := ih (h + 1) (by omega)
    refine zv_X12_often_32 _ _ _ _ ?_
    rw [h0, nI_clamp (show h < 2 ^ 31 by omega), nI_1, (hW h (by omega)).2.2]
    exact ⟨fun c => absurd c (nI_ge (by omega) (by omega)), fun _ => ⟨nI_in_ (by omega), ih⟩⟩
theorem zE_X12_often (as : List Value) (M : ab_M) (N : ab_N) (k : ab_R) (hT : zt_X12_often as M N k) : ab_cs as ≤ 5 ∧ zr_X12_often k 0 (ab_en as) [] M N := by
  obtain ⟨⟨d, p, w⟩, q, rfl, ⟨rfl, hR⟩, hk⟩ := hT
  dsimp only at hR hk ⊢
  obtain ⟨n7, p8, n12, m5, n0, h1, h12, -⟩ := zNI_n hR
  have hk := fun M2 (hF : zFr zSL M M2) => hk _ M2 N ⟨hF, rfl, rfl⟩
  unfold zOfA at hk
  refine ⟨Nat.le_of_ble_eq_true rfl, zv_X12_often_0 _ _ ?_⟩
  rw [n7]
  refine ⟨fun c => ?_, fun c => ⟨fun c2 => ?_, fun c2 => ⟨d, _, rfl, ⟨rfl, hR⟩, ?_⟩⟩⟩
  · have hk := hk M (zFr_rf _ _)
    rw [if_neg (ab_b_0.mp c)] at hk
    exact hk
  · have hk := hk M (zFr_rf _ _)
    rw [if_pos (zIx0 c), if_neg (ab_b_0.mp c2)] at hk
    exact hk
  · rintro o M2 N2 ⟨rfl, rfl, g1, g2⟩
    have hk := hk M2 g1
    rw [if_pos (zIx0 c), if_pos (zIx0 c2)] at hk
    exact zv_X12_often_27 _ _ (zL_X12_often (d := d) (by rw [g1 0 (by decide), n0]) h12 g2 hk (zHrs d) 0 (by omega))
abbrev zR_X12_often : Room := { frames := 7, cells := 0, slots := 0, locals := 166 }
set_option maxRecDepth 20000 in
theorem zM_X12_often (l : Launch) : ab_Met l zw_M vwCl zZ_M yX12_often cX12_often 5 (some .int) zR_X12_often zt_X12_often := ab_ofRun (G := zg_X12_often) (P := zp_X12_often) rfl zo_X12_often (by decide +kernel) zl_cl zl_lamM zf_X12_ok ab_Tab_nil zc_X12_ok ab_Sta_nil (List.forall_mem_cons.mpr ⟨ab_callV zZ_M_ok (zM_X12_isPiece l) (ab_in 1208 (by decide +kernel) rfl) (ab_in 1205 (by decide +kernel) rfl) (ab_in 1207 (by decide +kernel) rfl) (ab_inS (List.mem_of_getElem? (i := 27) (by decide +kernel)) rfl) (ab_in 17 (by decide +kernel) rfl) (by unfold ab_yok; decide +kernel) ⟨rfl, rfl⟩ (by decide) zV_X12_isPiece, List.forall_mem_cons.mpr ⟨ab_callV zZ_M_ok (zM_X12_walk l) (ab_in 1317 (by decide +kernel) rfl) (ab_in 1314 (by decide +kernel) rfl) (ab_in 1316 (by decide +kernel) rfl) (ab_inS (List.mem_of_getElem? (i := 41) (by decide +kernel)) rfl) (ab_in 17 (by decide +kernel) rfl) (by unfold ab_yok; decide +kernel) ⟨rfl, rfl⟩ (by decide) zV_X12_walk, List.forall_mem_cons.mpr ⟨ab_callV zZ_M_ok (zM_X12_rowWithout l) (ab_in 1360 (by decide +kernel) rfl) (ab_in 1357 (by decide +kernel) rfl) (ab_in 1359 (by decide +kernel) rfl) (ab_inS (List.mem_of_getElem? (i := 49) (by decide +kernel)) rfl) (ab_in 17 (by decide +kernel) rfl) (by unfold ab_yok; decide +kernel) ⟨rfl, rfl⟩ (by decide) zV_X12_rowWithout, List.forall_mem_nil _⟩⟩⟩) (List.forall_mem_cons.mpr ⟨ab_callS zZ_M_ok (zM_X12_in l) (ab_in 1200 (by decide +kernel) rfl) (ab_in 1198 (by decide +kernel) rfl) (ab_in 1199 (by decide +kernel) rfl) (ab_in 17 (by decide +kernel) rfl) (by unfold ab_yok; decide +kernel) ⟨rfl, rfl⟩ (by decide), List.forall_mem_nil _⟩) zE_X12_often
