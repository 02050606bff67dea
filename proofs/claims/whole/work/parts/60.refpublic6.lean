/-! the reference: the village called *)
-/
def zCalD (d : ab_M) (a : Int32) : ab_M := ab_u d 1 (upd (d 1) 7 a)
theorem zRN_called {d M : ab_M} (h : zRN d M) {a : Int32} (ha : -1 ≤ a ∧ a ≤ 11) : zRN (zCalD d a) (ab_u M 0 (upd (M 0) 5 a)) := by
  obtain ⟨⟨⟨a1, a2, a3, a4, a5, a6, a7, a8⟩, ⟨b1, b2, b3, b4, b5, b6, b7, b8, b9, b10, b11⟩, ⟨c1, c2, c3, c4, c5⟩, w, hw, l1, l2, l3⟩, i0, i1, i2, i3⟩ := h
  have e : ∀ q, q ≠ 1 → zCalD d a q = d q := fun q hq => ab_u_ne _ _ hq
  have e4 : zCalD d a 1 4 = d 1 4 := by unfold zCalD; rw [ab_u_eq, upd_ne _ _ (by decide)]
  have e7 : zCalD d a 1 7 = a := by unfold zCalD; rw [ab_u_eq, upd_eq]
  have m : ∀ q, q ≠ 0 → ab_u M 0 (upd (M 0) 5 a) q = M q := fun q hq => ab_u_ne _ _ hq
  have m0 : ∀ j, j ≠ 5 → ab_u M 0 (upd (M 0) 5 a) 0 j = M 0 j := fun j x => by rw [ab_u_eq, upd_ne _ _ x]
  have m5 : ab_u M 0 (upd (M 0) 5 a) 0 5 = a := by rw [ab_u_eq, upd_eq]
  refine ⟨⟨?_, ?_, ?_, w, hw, ?_, ?_, ?_⟩, ?_, ?_, ?_, ?_⟩
  · rw [e 17 (by decide), e4, e7, e 2 (by decide), m0 0 (by decide), m0 1 (by decide), m0 2 (by decide), m0 3 (by decide), m0 4 (by decide), m5, m0 7 (by decide), m0 12 (by decide)]
    exact ⟨a1, a2, a3, a4, a5, rfl, a7, a8⟩
  · rw [e 18 (by decide), e 13 (by decide), e 14 (by decide), e 15 (by decide), e 16 (by decide), e 25 (by decide), e 26 (by decide), e 27 (by decide), e 28 (by decide), e 29 (by decide), e 30 (by decide), m 1 (by decide), m 2 (by decide), m 3 (by decide), m 4 (by decide), m 5 (by decide), m 6 (by decide), m 7 (by decide), m 8 (by decide), m 9 (by decide), m 10 (by decide), m 11 (by decide)]
    exact ⟨b1, b2, b3, b4, b5, b6, b7, b8, b9, b10, b11⟩
  · rw [e 6 (by decide), m0 30 (by decide), m0 27 (by decide), m0 28 (by decide), m0 29 (by decide), m0 25 (by decide), m0 26 (by decide)]
    exact ⟨c1, c2, c3, c4, c5⟩
  · rw [e 3 (by decide)]; exact l1
  · rw [m0 24 (by decide)]; exact l2
  · unfold zTextEq at l3 ⊢
    rw [e 32 (by decide), e 31 (by decide), m 13 (by decide), m 14 (by decide)]
    exact l3
  · unfold zI0 at i0 ⊢
    rw [e 17 (by decide), e4, e7, e 2 (by decide)]
    exact ⟨i0.1, i0.2.1, i0.2.2.1, i0.2.2.2.1, i0.2.2.2.2.1, i0.2.2.2.2.2.1, ha, i0.2.2.2.2.2.2.2⟩
  · unfold zI1 zMen at i1 ⊢
    rw [e 25 (by decide), e 26 (by decide), e 27 (by decide), e 28 (by decide), e 29 (by decide), e4, e 2 (by decide), e 6 (by decide)]
    exact i1
  · rw [e 15 (by decide)]; exact i2
  · rw [e 16 (by decide)]; exact i3
theorem zCalD_p (d : ab_M) (a : Int32) : zPcs (zCalD d a) = zPcs d := by unfold zPcs zCalD; rw [ab_u_eq, upd_ne _ _ (by decide)]
def zViA (d : ab_M) (a : Int32) : Int64 := if -1 ≤ a ∧ a ≤ 11 then zSum (zCalD d a) 0 (zPcs d) else zNO
def zt_X12_village : ab_T := ab_lq (α := ab_M × Int32) (fun x r M _ => r = [.int x.2] ∧ zRN x.1 M)
  (fun x M N o M2 N2 => zFr zSL M M2 ∧ zNfr [0, 32] N N2 ∧ o = some (.long (zViA x.1 x.2)))
theorem zt_X12_village_mono : ab_mono zt_X12_village := ab_lq_mono _ _
theorem zV_X12_village : ab_recv zw_M vwCl RX12 zt_X12_village := ab_lq_v
def zp_X12_village : ab_P := [(0, .iload_n 1, 1, [1], []),
  (1, .iconst (-1), 2, [], [(-1)]),
  (2, .bipush 11, 4, [], [11]),
  (4, .invokestatic 175, 7, [], []),
  (7, .ifCond .eq 11, 10, [18], []),
  (10, .aload_n 0, 11, [0], []),
  (11, .iload_n 1, 12, [1], []),
  (12, .invokevirtual 346, 15, [], []),
  (15, .goto 6, 18, [21], []),
  (18, .ldc2_w 341, 21, [], []),
  (21, .lreturn, 22, [], [])]
theorem zo_X12_village : ab_ok cX12_village zp_X12_village = true := by decide +kernel
def zg_X12_village : ab_G := (zw_M, [], zf_X12, zc_X12, [], [(346, 2, zt_X12_calledIn)], [(175, 3, zt_X12_in)])
theorem zm_X12_village : ab_MG zg_X12_village := ab_MGof (List.forall_mem_cons.mpr ⟨zt_X12_calledIn_mono, List.forall_mem_nil _⟩) (List.forall_mem_cons.mpr ⟨ab_pure_mono _, List.forall_mem_nil _⟩)
abbrev zr_X12_village (Q : ab_R) : ab_K := ab_Run zg_X12_village zp_X12_village (some .long) 2 Q
set_option maxRecDepth 20000 in
theorem zv_X12_village_0 {Q : ab_R} {M : ab_M} {N : ab_N} (l1 : Int32) (h : ((ab_b ((-1 : Int32) ≤ l1 ∧ l1 ≤ (11 : Int32))) = 0 → Q (some (.long (-4611686018427387904 : Int64))) M N) ∧ (¬ ((ab_b ((-1 : Int32) ≤ l1 ∧ l1 ≤ (11 : Int32))) = 0) → zt_X12_calledIn [.ref 0, .int l1] M N (fun r M2 N2 => zr_X12_village Q 15 [none, none] (ab_ol r []) M2 N2))) : zr_X12_village Q 0 [some (.ref 0), some (.int l1)] [] M N := ab_Run_s zm_X12_village (sp := [(15, [false, false])]) 13 h
set_option maxRecDepth 20000 in
theorem zv_X12_village_15 {Q : ab_R} {M : ab_M} {N : ab_N} (s0 : Int64) (h : Q (some (.long s0)) M N) : zr_X12_village Q 15 [none, none] [.long s0] M N := ab_Run_s zm_X12_village (sp := [(15, [false, false])]) 13 h
theorem zE_X12_village (as : List Value) (M : ab_M) (N : ab_N) (k : ab_R) (hT : zt_X12_village as M N k) : ab_cs as ≤ 2 ∧ zr_X12_village k 0 (ab_en as) [] M N := by
  obtain ⟨⟨d, a⟩, q, rfl, ⟨rfl, hR⟩, hk⟩ := hT
  dsimp only at hR hk ⊢
  refine ⟨Nat.le_of_ble_eq_true rfl, zv_X12_village_0 _ ⟨fun c => ?_, fun c => ?_⟩⟩
  · exact hk _ _ _ ⟨zFr_rf _ _, zNfr_rf _ _, by unfold zViA; rw [if_neg (ab_b_0.mp c)]; rfl⟩
  · have c := zIx0 c
    refine ⟨(zCalD d a, a), _, rfl, ⟨rfl, zRN_called hR c⟩, ?_⟩
    rintro o M2 N2 ⟨g1, g2, rfl⟩
    exact zv_X12_village_15 _ (hk _ _ _ ⟨g1, g2, by unfold zViA; rw [if_pos c, zCalD_p]⟩)
abbrev zR_X12_village : Room := { frames := 9, cells := 0, slots := 0, locals := 214 }
set_option maxRecDepth 20000 in
theorem zM_X12_village (l : Launch) : ab_Met l zw_M vwCl zZ_M yX12_village cX12_village 2 (some .long) zR_X12_village zt_X12_village := ab_ofRun (G := zg_X12_village) (P := zp_X12_village) rfl zo_X12_village (by decide +kernel) zl_cl zl_lamM zf_X12_ok ab_Tab_nil zc_X12_ok ab_Sta_nil (List.forall_mem_cons.mpr ⟨ab_callV zZ_M_ok (zM_X12_calledIn l) (ab_in 1460 (by decide +kernel) rfl) (ab_in 1457 (by decide +kernel) rfl) (ab_in 1459 (by decide +kernel) rfl) (ab_inS (List.mem_of_getElem? (i := 54) (by decide +kernel)) rfl) (ab_in 17 (by decide +kernel) rfl) (by unfold ab_yok; decide +kernel) ⟨rfl, rfl⟩ (by decide) zV_X12_calledIn, List.forall_mem_nil _⟩) (List.forall_mem_cons.mpr ⟨ab_callS zZ_M_ok (zM_X12_in l) (ab_in 1200 (by decide +kernel) rfl) (ab_in 1198 (by decide +kernel) rfl) (ab_in 1199 (by decide +kernel) rfl) (ab_in 17 (by decide +kernel) rfl) (by unfold ab_yok; decide +kernel) ⟨rfl, rfl⟩ (by decide), List.forall_mem_nil _⟩) zE_X12_village
