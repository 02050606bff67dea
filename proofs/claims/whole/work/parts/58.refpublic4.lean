/-! the reference: one LOOK more *)
-/
def zMoreD (d : ab_M) (a b : Int32) : ab_M := ab_u d 6 (upd (upd (d 6) 11 a) 12 b)
theorem zRN_more {d M : ab_M} (h : zRN d M) (a b : Int32) : zRN (zMoreD d a b) (ab_u M 0 (upd (upd (M 0) 25 a) 26 b)) := by
  obtain ⟨⟨⟨a1, a2, a3, a4, a5, a6, a7, a8⟩, ⟨b1, b2, b3, b4, b5, b6, b7, b8, b9, b10, b11⟩, ⟨c1, c2, c3, c4, c5⟩, w, hw, l1, l2, l3⟩, i0, i1, i2, i3⟩ := h
  have e : ∀ q, q ≠ 6 → zMoreD d a b q = d q := fun q hq => ab_u_ne _ _ hq
  have e6 : ∀ j, j ≠ 11 → j ≠ 12 → zMoreD d a b 6 j = d 6 j := fun j x y => by unfold zMoreD; rw [ab_u_eq, upd_ne _ _ y, upd_ne _ _ x]
  have m : ∀ q, q ≠ 0 → ab_u M 0 (upd (upd (M 0) 25 a) 26 b) q = M q := fun q hq => ab_u_ne _ _ hq
  have m0 : ∀ j, j ≠ 25 → j ≠ 26 → ab_u M 0 (upd (upd (M 0) 25 a) 26 b) 0 j = M 0 j := fun j x y => by rw [ab_u_eq, upd_ne _ _ y, upd_ne _ _ x]
  have e11 : zMoreD d a b 6 11 = a := by unfold zMoreD; rw [ab_u_eq, upd_ne _ _ (by decide), upd_eq]
  have e12 : zMoreD d a b 6 12 = b := by unfold zMoreD; rw [ab_u_eq, upd_eq]
  have m25 : ab_u M 0 (upd (upd (M 0) 25 a) 26 b) 0 25 = a := by rw [ab_u_eq, upd_ne _ _ (by decide), upd_eq]
  have m26 : ab_u M 0 (upd (upd (M 0) 25 a) 26 b) 0 26 = b := by rw [ab_u_eq, upd_eq]
  refine ⟨⟨?_, ?_, ?_, w, hw, ?_, ?_, ?_⟩, ?_, ?_, ?_, ?_⟩
  · rw [e 17 (by decide), e 1 (by decide), e 2 (by decide), m0 0 (by decide) (by decide), m0 1 (by decide) (by decide), m0 2 (by decide) (by decide), m0 3 (by decide) (by decide), m0 4 (by decide) (by decide), m0 5 (by decide) (by decide), m0 7 (by decide) (by decide), m0 12 (by decide) (by decide)]
    exact ⟨a1, a2, a3, a4, a5, a6, a7, a8⟩
  · rw [e 18 (by decide), e 13 (by decide), e 14 (by decide), e 15 (by decide), e 16 (by decide), e 25 (by decide), e 26 (by decide), e 27 (by decide), e 28 (by decide), e 29 (by decide), e 30 (by decide), m 1 (by decide), m 2 (by decide), m 3 (by decide), m 4 (by decide), m 5 (by decide), m 6 (by decide), m 7 (by decide), m 8 (by decide), m 9 (by decide), m 10 (by decide), m 11 (by decide)]
    exact ⟨b1, b2, b3, b4, b5, b6, b7, b8, b9, b10, b11⟩
  · rw [e6 7 (by decide) (by decide), e6 8 (by decide) (by decide), e6 9 (by decide) (by decide), e6 10 (by decide) (by decide), m0 30 (by decide) (by decide), m0 27 (by decide) (by decide), m0 28 (by decide) (by decide), m0 29 (by decide) (by decide), e11, e12, m25, m26]
    exact ⟨c1, c2, c3, rfl, Or.inr rfl⟩
  · rw [e 3 (by decide)]; exact l1
  · rw [m0 24 (by decide) (by decide)]; exact l2
  · unfold zTextEq at l3 ⊢
    rw [e 32 (by decide), e 31 (by decide), m 13 (by decide), m 14 (by decide)]
    exact l3
  · unfold zI0 at i0 ⊢
    rw [e 17 (by decide), e 1 (by decide), e 2 (by decide)]
    exact i0
  · unfold zI1 zMen at i1 ⊢
    rw [e 25 (by decide), e 26 (by decide), e 27 (by decide), e 28 (by decide), e 29 (by decide), e 1 (by decide), e 2 (by decide), e6 8 (by decide) (by decide), e6 10 (by decide) (by decide)]
    exact i1
  · rw [e 15 (by decide)]; exact i2
  · rw [e 16 (by decide)]; exact i3
theorem zMoreD_p (d : ab_M) (a b : Int32) : zPcs (zMoreD d a b) = zPcs d := by unfold zPcs zMoreD; rw [ab_u_ne _ _ (by decide)]
def zMoA (d : ab_M) (p h : Int32) : Int64 := if zHasN p (zPcs d) then (if zHasN h (zHrs d) then zSum d 0 (zPcs d) - zSum (zMoreD d p h) 0 (zPcs d) else zNO) else zNO
def zt_X12_more : ab_T := ab_lq (α := ab_M × Int32 × Int32) (fun x r M _ => r = [.int x.2.1, .int x.2.2] ∧ zRN x.1 M ∧ M 0 25 = -1)
  (fun x M N o M2 N2 => zFr (0 :: zSL) M M2 ∧ (∀ j, j ≠ 26 → M2 0 j = M 0 j) ∧ zNfr [0, 32] N N2 ∧ o = some (.long (zMoA x.1 x.2.1 x.2.2)))
theorem zt_X12_more_mono : ab_mono zt_X12_more := ab_lq_mono _ _
theorem zV_X12_more : ab_recv zw_M vwCl RX12 zt_X12_more := ab_lq_v
def zp_X12_more : ab_P := [(0, .aload_n 0, 1, [0], []),
  (1, .iload_n 1, 2, [1], []),
  (2, .invokevirtual 182, 5, [], []),
  (5, .ifCond .eq 26, 8, [31], []),
  (8, .aload_n 0, 9, [0], []),
  (9, .iload_n 2, 10, [2], []),
  (10, .invokevirtual 308, 13, [], []),
  (13, .ifCond .eq 18, 16, [31], []),
  (16, .aload_n 0, 17, [0], []),
  (17, .iconst 0, 18, [], [0]),
  (18, .invokevirtual 337, 21, [], []),
  (21, .aload_n 0, 22, [0], []),
  (22, .iload_n 1, 23, [1], []),
  (23, .iload_n 2, 24, [2], []),
  (24, .invokevirtual 343, 27, [], []),
  (27, .lsub, 28, [], []),
  (28, .goto 6, 31, [34], []),
  (31, .ldc2_w 341, 34, [], []),
  (34, .lreturn, 35, [], [])]
theorem zo_X12_more : ab_ok cX12_more zp_X12_more = true := by decide +kernel
def zg_X12_more : ab_G := (zw_M, [], zf_X12, zc_X12, [], [(182, 2, zt_X12_isPiece), (308, 2, zt_X12_isHour), (337, 2, zt_X12_runAll), (343, 3, zt_X12_withLook)], [])
theorem zm_X12_more : ab_MG zg_X12_more := ab_MGof (List.forall_mem_cons.mpr ⟨ab_pure_mono _, List.forall_mem_cons.mpr ⟨ab_pure_mono _, List.forall_mem_cons.mpr ⟨zt_X12_runAll_mono, List.forall_mem_cons.mpr ⟨zt_X12_withLook_mono, List.forall_mem_nil _⟩⟩⟩⟩) (List.forall_mem_nil _)
abbrev zr_X12_more (Q : ab_R) : ab_K := ab_Run zg_X12_more zp_X12_more (some .long) 3 Q
set_option maxRecDepth 20000 in
theorem zv_X12_more_0 {Q : ab_R} {M : ab_M} {N : ab_N} (l1 : Int32) (l2 : Int32) (h : ((ab_b (0 ≤ l1 ∧ l1 ≤ (M 0) 7 - 1)) = 0 → Q (some (.long (-4611686018427387904 : Int64))) M N) ∧ (¬ ((ab_b (0 ≤ l1 ∧ l1 ≤ (M 0) 7 - 1)) = 0) → ((ab_b (0 ≤ l2 ∧ l2 ≤ (M 0) 0 - 1)) = 0 → Q (some (.long (-4611686018427387904 : Int64))) M N) ∧ (¬ ((ab_b (0 ≤ l2 ∧ l2 ≤ (M 0) 0 - 1)) = 0) → zt_X12_runAll [.ref 0, .int (0 : Int32)] M N (fun r M2 N2 => zr_X12_more Q 21 [some (.ref 0), some (.int l1), some (.int l2)] (ab_ol r []) M2 N2)))) : zr_X12_more Q 0 [some (.ref 0), some (.int l1), some (.int l2)] [] M N := ab_Run_s zm_X12_more (sp := [(21, [true, true, true]), (27, [false, false, false])]) 21 h
set_option maxRecDepth 20000 in
theorem zv_X12_more_21 {Q : ab_R} {M : ab_M} {N : ab_N} (l1 : Int32) (l2 : Int32) (s0 : Int64) (h : zt_X12_withLook [.ref 0, .int l1, .int l2] M N (fun r M2 N2 => zr_X12_more Q 27 [none, none, none] (ab_ol r [.long s0]) M2 N2)) : zr_X12_more Q 21 [some (.ref 0), some (.int l1), some (.int l2)] [.long s0] M N := ab_Run_s zm_X12_more (sp := [(21, [true, true, true]), (27, [false, false, false])]) 21 h
set_option maxRecDepth 20000 in
theorem zv_X12_more_27 {Q : ab_R} {M : ab_M} {N : ab_N} (s0 : Int64) (s1 : Int64) (h : Q (some (.long (s0 - s1))) M N) : zr_X12_more Q 27 [none, none, none] [.long s1, .long s0] M N := ab_Run_s zm_X12_more (sp := [(21, [true, true, true]), (27, [false, false, false])]) 21 h
theorem zE_X12_more (as : List Value) (M : ab_M) (N : ab_N) (k : ab_R) (hT : zt_X12_more as M N k) : ab_cs as ≤ 3 ∧ zr_X12_more k 0 (ab_en as) [] M N := by
  obtain ⟨⟨d, p, h⟩, q, rfl, ⟨rfl, hR, h25⟩, hk⟩ := hT
  dsimp only at hR hk ⊢
  obtain ⟨n7, p8, n12, m5, n0, h1, h12, -⟩ := zNI_n hR
  have hk := fun M2 N2 hF h0 hN => hk _ M2 N2 ⟨hF, h0, hN, rfl⟩
  unfold zMoA at hk
  refine ⟨Nat.le_of_ble_eq_true rfl, zv_X12_more_0 _ _ ?_⟩
  rw [n7, n0]
  refine ⟨fun c => ?_, fun c => ⟨fun c2 => ?_, fun c2 => ⟨(d, 0), _, rfl, ⟨rfl, hR, show 0 ≤ 2 by decide⟩, ?_⟩⟩⟩
  · have hk := hk M N (zFr_rf _ _) (fun _ _ => rfl) (zNfr_rf _ _)
    rw [if_neg (ab_b_0.mp c)] at hk
    exact hk
  · have hk := hk M N (zFr_rf _ _) (fun _ _ => rfl) (zNfr_rf _ _)
    rw [if_pos (zIx0 c), if_neg (ab_b_0.mp c2)] at hk
    exact hk
  · rintro o M2 N2 ⟨g1, g2, rfl⟩
    have hR2 : zRN d M2 := zRN_zfr hR g1 (by decide)
    refine zv_X12_more_21 _ _ _ ⟨(zMoreD d p h, p, h), _, rfl, ⟨rfl, zRN_more hR2 p h⟩, ?_⟩
    rintro o M3 N3 ⟨f1, f0, f2, rfl⟩
    dsimp only at f0 ⊢
    refine zv_X12_more_27 _ _ ?_
    have hk := hk M3 N3 (zFr_tr (zFr_mono g1 (by decide)) f1) (fun j hj => by
      rw [f0]
      by_cases e : j = 25
      · rw [e, upd_eq, h25]
      · rw [upd_ne _ _ e, upd_ne _ _ hj, upd_ne _ _ e, g1 0 (by decide)]) (zNfr_tr g2 f2)
    rw [if_pos (zIx0 c), if_pos (zIx0 c2)] at hk
    rw [zMoreD_p]
    exact hk
abbrev zR_X12_more : Room := { frames := 9, cells := 0, slots := 0, locals := 214 }
set_option maxRecDepth 20000 in
theorem zM_X12_more (l : Launch) : ab_Met l zw_M vwCl zZ_M yX12_more cX12_more 3 (some .long) zR_X12_more zt_X12_more := ab_ofRun (G := zg_X12_more) (P := zp_X12_more) rfl zo_X12_more (by decide +kernel) zl_cl zl_lamM zf_X12_ok ab_Tab_nil zc_X12_ok ab_Sta_nil (List.forall_mem_cons.mpr ⟨ab_callV zZ_M_ok (zM_X12_isPiece l) (ab_in 1208 (by decide +kernel) rfl) (ab_in 1205 (by decide +kernel) rfl) (ab_in 1207 (by decide +kernel) rfl) (ab_inS (List.mem_of_getElem? (i := 27) (by decide +kernel)) rfl) (ab_in 17 (by decide +kernel) rfl) (by unfold ab_yok; decide +kernel) ⟨rfl, rfl⟩ (by decide) zV_X12_isPiece, List.forall_mem_cons.mpr ⟨ab_callV zZ_M_ok (zM_X12_isHour l) (ab_in 1313 (by decide +kernel) rfl) (ab_in 1310 (by decide +kernel) rfl) (ab_in 1312 (by decide +kernel) rfl) (ab_inS (List.mem_of_getElem? (i := 40) (by decide +kernel)) rfl) (ab_in 17 (by decide +kernel) rfl) (by unfold ab_yok; decide +kernel) ⟨rfl, rfl⟩ (by decide) zV_X12_isHour, List.forall_mem_cons.mpr ⟨ab_callV zZ_M_ok (zM_X12_runAll l) (ab_in 1372 (by decide +kernel) rfl) (ab_in 1369 (by decide +kernel) rfl) (ab_in 1371 (by decide +kernel) rfl) (ab_inS (List.mem_of_getElem? (i := 50) (by decide +kernel)) rfl) (ab_in 17 (by decide +kernel) rfl) (by unfold ab_yok; decide +kernel) ⟨rfl, rfl⟩ (by decide) zV_X12_runAll, List.forall_mem_cons.mpr ⟨ab_callV zZ_M_ok (zM_X12_withLook l) (ab_in 1404 (by decide +kernel) rfl) (ab_in 1401 (by decide +kernel) rfl) (ab_in 1403 (by decide +kernel) rfl) (ab_inS (List.mem_of_getElem? (i := 53) (by decide +kernel)) rfl) (ab_in 17 (by decide +kernel) rfl) (by unfold ab_yok; decide +kernel) ⟨rfl, rfl⟩ (by decide) zV_X12_withLook, List.forall_mem_nil _⟩⟩⟩⟩) (List.forall_mem_nil _) zE_X12_more
