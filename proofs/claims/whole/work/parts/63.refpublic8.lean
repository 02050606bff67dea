/-! the reference: trusts *)
-/
def zTruD (d : ab_M) (t : Int32) : ab_M := ab_u d 17 (upd (d 17) 3 t)
theorem zRN_trust {d M : ab_M} (h : zRN d M) {t : Int32} (ht : 0 ≤ t ∧ t ≤ 8) : zRN (zTruD d t) (ab_u M 0 (upd (M 0) 3 t)) := by
  obtain ⟨⟨⟨a1, a2, a3, a4, a5, a6, a7, a8⟩, ⟨b1, b2, b3, b4, b5, b6, b7, b8, b9, b10, b11⟩, ⟨c1, c2, c3, c4, c5⟩, w, hw, l1, l2, l3⟩, i0, i1, i2, i3⟩ := h
  have e : ∀ q, q ≠ 17 → zTruD d t q = d q := fun q hq => ab_u_ne _ _ hq
  have e0 : ∀ j, j ≠ 3 → zTruD d t 17 j = d 17 j := fun j x => by unfold zTruD; rw [ab_u_eq, upd_ne _ _ x]
  have e3 : zTruD d t 17 3 = t := by unfold zTruD; rw [ab_u_eq, upd_eq]
  have m : ∀ q, q ≠ 0 → ab_u M 0 (upd (M 0) 3 t) q = M q := fun q hq => ab_u_ne _ _ hq
  have m0 : ∀ j, j ≠ 3 → ab_u M 0 (upd (M 0) 3 t) 0 j = M 0 j := fun j x => by rw [ab_u_eq, upd_ne _ _ x]
  have m3 : ab_u M 0 (upd (M 0) 3 t) 0 3 = t := by rw [ab_u_eq, upd_eq]
  refine ⟨⟨?_, ?_, ?_, w, hw, ?_, ?_, ?_⟩, ?_, ?_, ?_, ?_⟩
  · rw [e0 0 (by decide), e0 1 (by decide), e0 2 (by decide), e3, e0 4 (by decide), e 1 (by decide), e 2 (by decide), m0 0 (by decide), m0 1 (by decide), m0 2 (by decide), m3, m0 4 (by decide), m0 5 (by decide), m0 7 (by decide), m0 12 (by decide)]
    exact ⟨a1, a2, a3, rfl, a5, a6, a7, a8⟩
  · rw [e 18 (by decide), e 13 (by decide), e 14 (by decide), e 15 (by decide), e 16 (by decide), e 25 (by decide), e 26 (by decide), e 27 (by decide), e 28 (by decide), e 29 (by decide), e 30 (by decide), m 1 (by decide), m 2 (by decide), m 3 (by decide), m 4 (by decide), m 5 (by decide), m 6 (by decide), m 7 (by decide), m 8 (by decide), m 9 (by decide), m 10 (by decide), m 11 (by decide)]
    exact ⟨b1, b2, b3, b4, b5, b6, b7, b8, b9, b10, b11⟩
  · rw [e 6 (by decide), m0 30 (by decide), m0 27 (by decide), m0 28 (by decide), m0 29 (by decide), m0 25 (by decide), m0 26 (by decide)]
    exact ⟨c1, c2, c3, c4, c5⟩
  · rw [e 3 (by decide)]; exact l1
  · rw [m0 24 (by decide)]; exact l2
  · unfold zTextEq at l3 ⊢
    rw [e 32 (by decide), e 31 (by decide), m 13 (by decide), m 14 (by decide)]
    exact l3
  · unfold zI0 at i0 ⊢
    rw [e0 0 (by decide), e0 1 (by decide), e0 2 (by decide), e3, e0 4 (by decide), e 1 (by decide), e 2 (by decide)]
    exact ⟨i0.1, i0.2.1, i0.2.2.1, ht, i0.2.2.2.2⟩
  · unfold zI1 zMen at i1 ⊢
    rw [e 25 (by decide), e 26 (by decide), e 27 (by decide), e 28 (by decide), e 29 (by decide), e 1 (by decide), e 2 (by decide), e 6 (by decide)]
    exact i1
  · rw [e 15 (by decide)]; exact i2
  · rw [e 16 (by decide)]; exact i3
theorem zTruD_p (d : ab_M) (t : Int32) : zPcs (zTruD d t) = zPcs d := by unfold zPcs zTruD; rw [ab_u_ne _ _ (by decide)]
/-- is what a call at hour a spares little, with k less trust -/
def zLit (d : ab_M) (a l t : Int32) : Int32 := if 0 < lg_cmp (zSum (zCalD (zTruD d t) (-1)) 0 (zPcs d) - zSum (zCalD (zTruD d t) a) 0 (zPcs d)) (1000000000 * l.toInt64) then 0 else 1
theorem zLit_call {d M : ab_M} {N : ab_N} {k : ab_R} {a l c : Int32} (hR : zRN d M) (ha : -1 ≤ a ∧ a ≤ 11) (ht : 0 ≤ M 0 3 - c ∧ M 0 3 - c ≤ 8) (hk : ∀ M2 N2, zFr zSL M M2 → zNfr [0, 32] N N2 → k (some (.int (zLit d a l (M 0 3 - c)))) M2 N2) : zt_X12_isLittle [.ref 0, .int a, .int l, .int c] M N k := by
  have h := fun b hb => zRN_called (a := b) (zRN_trust hR ht) hb
  simp only [ab_u_eq, ab_u_u] at h
  refine ⟨(zCalD (zTruD d (M 0 3 - c)) (-1), zCalD (zTruD d (M 0 3 - c)) a, a, l, c), _, rfl, ⟨rfl, h _ (by decide), h _ ha⟩, ?_⟩
  rintro o M2 N2 ⟨g1, g2, rfl⟩
  dsimp only
  rw [zCalD_p, zCalD_p, zTruD_p]
  exact hk M2 N2 g1 g2
def zTrF (d : ab_M) (a l : Int32) (tr : Nat) : Nat → Nat → Int32
  | 0, _ => -1
  | r + 1, k => if zLit d a l (nI (tr - k)) = 0 then zTrF d a l tr r (k + 1) else nI k
def zTrs (d : ab_M) : Nat := (d 17 3).toNatClampNeg
def zTrA (d : ab_M) (a l : Int32) : Int32 := if zHasN a (zHrs d) then (if 0 ≤ l ∧ l ≤ 9999 then (if zLit d a l (nI (zTrs d)) = 0 then zTrF d a l (zTrs d) (zTrs d) 1 else -1) else -2) else -2
def zt_X12_trusts : ab_T := ab_lq (α := ab_M × Int32 × Int32) (fun x r M _ => r = [.int x.2.1, .int x.2.2] ∧ zRN x.1 M)
  (fun x M N o M2 N2 => zFr zSL M M2 ∧ zNfr [0, 32] N N2 ∧ o = some (.int (zTrA x.1 x.2.1 x.2.2)))
theorem zt_X12_trusts_mono : ab_mono zt_X12_trusts := ab_lq_mono _ _
theorem zV_X12_trusts : ab_recv zw_M vwCl RX12 zt_X12_trusts := ab_lq_v
def zp_X12_trusts : ab_P := [(0, .aload_n 0, 1, [0], []),
  (1, .iload_n 1, 2, [1], []),
  (2, .invokevirtual 308, 5, [], []),
  (5, .ifCond .eq 14, 8, [19], []),
  (8, .iload_n 2, 9, [2], []),
  (9, .iconst 0, 10, [], [0]),
  (10, .sipush 9999, 13, [], [9999]),
  (13, .invokestatic 175, 16, [], []),
  (16, .ifCond .ne 6, 19, [22], []),
  (19, .bipush (-2), 21, [], [(-2)]),
  (21, .ireturn, 22, [], []),
  (22, .aload_n 0, 23, [0], []),
  (23, .iload_n 1, 24, [1], []),
  (24, .iload_n 2, 25, [2], []),
  (25, .iconst 0, 26, [], [0]),
  (26, .invokevirtual 349, 29, [], []),
  (29, .ifCond .eq 5, 32, [34], []),
  (32, .iconst (-1), 33, [], [(-1)]),
  (33, .ireturn, 34, [], []),
  (34, .iconst 1, 35, [], [1]),
  (35, .istore_n 3, 36, [3], []),
  (36, .iload_n 3, 37, [3], []),
  (37, .aload_n 0, 38, [0], []),
  (38, .getfield 16, 41, [], []),
  (41, .if_icmp .gt 21, 44, [62], []),
  (44, .aload_n 0, 45, [0], []),
  (45, .iload_n 1, 46, [1], []),
  (46, .iload_n 2, 47, [2], []),
  (47, .iload_n 3, 48, [3], []),
  (48, .invokevirtual 349, 51, [], []),
  (51, .ifCond .eq 5, 54, [56], []),
  (54, .iload_n 3, 55, [3], []),
  (55, .ireturn, 56, [], []),
  (56, .iinc 3 1, 59, [], [1]),
  (59, .goto (-23), 62, [36], []),
  (62, .iconst (-1), 63, [], [(-1)]),
  (63, .ireturn, 64, [], [])]
theorem zo_X12_trusts : ab_ok cX12_trusts zp_X12_trusts = true := by decide +kernel
def zg_X12_trusts : ab_G := (zw_M, [], zf_X12, zc_X12, [], [(308, 2, zt_X12_isHour), (349, 4, zt_X12_isLittle)], [(175, 3, zt_X12_in)])
theorem zm_X12_trusts : ab_MG zg_X12_trusts := ab_MGof (List.forall_mem_cons.mpr ⟨ab_pure_mono _, List.forall_mem_cons.mpr ⟨zt_X12_isLittle_mono, List.forall_mem_nil _⟩⟩) (List.forall_mem_cons.mpr ⟨ab_pure_mono _, List.forall_mem_nil _⟩)
abbrev zr_X12_trusts (Q : ab_R) : ab_K := ab_Run zg_X12_trusts zp_X12_trusts (some .int) 4 Q
set_option maxRecDepth 20000 in
theorem zv_X12_trusts_0 {Q : ab_R} {M : ab_M} {N : ab_N} (l1 : Int32) (l2 : Int32) (h : ((ab_b (0 ≤ l1 ∧ l1 ≤ (M 0) 0 - 1)) = 0 → Q (some (.int (-2 : Int32))) M N) ∧ (¬ ((ab_b (0 ≤ l1 ∧ l1 ≤ (M 0) 0 - 1)) = 0) → ((ab_b ((0 : Int32) ≤ l2 ∧ l2 ≤ (9999 : Int32))) = 0 → Q (some (.int (-2 : Int32))) M N) ∧ (¬ ((ab_b ((0 : Int32) ≤ l2 ∧ l2 ≤ (9999 : Int32))) = 0) → zt_X12_isLittle [.ref 0, .int l1, .int l2, .int (0 : Int32)] M N (fun r M2 N2 => zr_X12_trusts Q 29 [some (.ref 0), some (.int l1), some (.int l2), none] (ab_ol r []) M2 N2)))) : zr_X12_trusts Q 0 [some (.ref 0), some (.int l1), some (.int l2)] [] M N := ab_Run_s zm_X12_trusts (sp := [(29, [true, true, true, false]), (36, [true, true, true, true]), (51, [true, true, true, true])]) 39 h
set_option maxRecDepth 20000 in
theorem zv_X12_trusts_29 {Q : ab_R} {M : ab_M} {N : ab_N} (l1 : Int32) (l2 : Int32) (s0 : Int32) (h : (s0 = 0 → zr_X12_trusts Q 36 [some (.ref 0), some (.int l1), some (.int l2), some (.int (1 : Int32))] [] M N) ∧ (¬ (s0 = 0) → Q (some (.int (-1 : Int32))) M N)) : zr_X12_trusts Q 29 [some (.ref 0), some (.int l1), some (.int l2), none] [.int s0] M N := ab_Run_s zm_X12_trusts (sp := [(29, [true, true, true, false]), (36, [true, true, true, true]), (51, [true, true, true, true])]) 39 h
set_option maxRecDepth 20000 in
theorem zv_X12_trusts_36 {Q : ab_R} {M : ab_M} {N : ab_N} (l1 : Int32) (l2 : Int32) (l3 : Int32) (h : ((M 0 3) < l3 → Q (some (.int (-1 : Int32))) M N) ∧ (¬ ((M 0 3) < l3) → zt_X12_isLittle [.ref 0, .int l1, .int l2, .int l3] M N (fun r M2 N2 => zr_X12_trusts Q 51 [some (.ref 0), some (.int l1), some (.int l2), some (.int l3)] (ab_ol r []) M2 N2))) : zr_X12_trusts Q 36 [some (.ref 0), some (.int l1), some (.int l2), some (.int l3)] [] M N := ab_Run_s zm_X12_trusts (sp := [(29, [true, true, true, false]), (36, [true, true, true, true]), (51, [true, true, true, true])]) 39 h
set_option maxRecDepth 20000 in
theorem zv_X12_trusts_51 {Q : ab_R} {M : ab_M} {N : ab_N} (l1 : Int32) (l2 : Int32) (l3 : Int32) (s0 : Int32) (h : (s0 = 0 → zr_X12_trusts Q 36 [some (.ref 0), some (.int l1), some (.int l2), some (.int (l3 + (1 : Int32)))] [] M N) ∧ (¬ (s0 = 0) → Q (some (.int l3)) M N)) : zr_X12_trusts Q 51 [some (.ref 0), some (.int l1), some (.int l2), some (.int l3)] [.int s0] M N := ab_Run_s zm_X12_trusts (sp := [(29, [true, true, true, false]), (36, [true, true, true, true]), (51, [true, true, true, true])]) 39 h
theorem zTrs_n {d M : ab_M} (h : zRN d M) : M 0 3 = nI (zTrs d) ∧ zTrs d ≤ 8 := by
  have e : d 17 3 = M 0 3 := h.1.1.2.2.2.1
  obtain ⟨k, y, e2⟩ := zIxM (n := 8) (by decide) h.2.1.2.2.2.1
  have : zTrs d = k := by unfold zTrs; rw [e2, nI_clamp (by omega)]
  rw [this, ← e, e2]
  exact ⟨rfl, y⟩
theorem zL_X12_trusts {Q : ab_R} {d M0 : ab_M} {N0 : ab_N} {a l res : Int32} (ha : -1 ≤ a ∧ a ≤ 11) (hk : ∀ M N, zFr zSL M0 M → zNfr [0, 32] N0 N → Q (some (.int res)) M N) : ∀ (r k : Nat) (M : ab_M) (N : ab_N), k + r = zTrs d + 1 → zRN d M → zFr zSL M0 M → zNfr [0, 32] N0 N → zTrF d a l (zTrs d) r k = res → zr_X12_trusts Q 36 [some (.ref 0), some (.int a), some (.int l), some (.int (nI k))] [] M N := by
  intro r
  induction r with
  | zero =>
    intro k M N hr hR hF hN e
    obtain ⟨t1, t2⟩ := zTrs_n hR
    have hk := hk M N hF hN
    rw [← e] at hk
    exact zv_X12_trusts_36 _ _ _ ⟨fun _ => hk, fun c => absurd (by rw [t1]; exact nI_lt (by omega) (by omega)) c⟩
  | succ r ih =>
    intro k M N hr hR hF hN e
    obtain ⟨t1, t2⟩ := zTrs_n hR
    have es : M 0 3 - nI k = nI (zTrs d - k) := by rw [t1, pk_sub (by omega)]
    refine zv_X12_trusts_36 _ _ _ ⟨fun c => absurd (by rw [← t1]; exact c) (nI_nlt (a := zTrs d) (b := k) (by omega) (by omega)), fun _ => zLit_call hR ha (by rw [es]; exact ⟨nI_pos' (by omega), nI_le (b := 8) (by omega) (by decide)⟩) (fun M2 N2 g1 g2 => ?_)⟩
    rw [es]
    have e2 : zTrF d a l (zTrs d) (r + 1) k = if zLit d a l (nI (zTrs d - k)) = 0 then zTrF d a l (zTrs d) r (k + 1) else nI k := rfl
    refine zv_X12_trusts_51 _ _ _ _ ⟨fun c => ?_, fun c => ?_⟩
    · rw [nI_1]
      exact ih (k + 1) M2 N2 (by omega) (zRN_zfr hR g1 (by decide)) (zFr_tr hF g1) (zNfr_tr hN g2) (by rw [← e, e2, if_pos c])
    · have hk := hk M2 N2 (zFr_tr hF g1) (zNfr_tr hN g2)
      rw [← e, e2, if_neg c] at hk
      exact hk
theorem zE_X12_trusts (as : List Value) (M : ab_M) (N : ab_N) (k : ab_R) (hT : zt_X12_trusts as M N k) : ab_cs as ≤ 4 ∧ zr_X12_trusts k 0 (ab_en as) [] M N := by
  obtain ⟨⟨d, a, l⟩, q, rfl, ⟨rfl, hR⟩, hk⟩ := hT
  dsimp only at hR hk ⊢
  obtain ⟨n7, p8, n12, m5, n0, h1, h12, -⟩ := zNI_n hR
  obtain ⟨t1, t2⟩ := zTrs_n hR
  have hk := fun M2 N2 (hF : zFr zSL M M2) (hN : zNfr [0, 32] N N2) => hk _ M2 N2 ⟨hF, hN, rfl⟩
  unfold zTrA at hk
  refine ⟨Nat.le_of_ble_eq_true rfl, zv_X12_trusts_0 _ _ ?_⟩
  rw [n0]
  refine ⟨fun c => ?_, fun c => ⟨fun c2 => ?_, fun c2 => ?_⟩⟩
  · have hk := hk M N (zFr_rf _ _) (zNfr_rf _ _)
    rw [if_neg (ab_b_0.mp c)] at hk
    exact hk
  · have hk := hk M N (zFr_rf _ _) (zNfr_rf _ _)
    rw [if_pos (zIx0 c), if_neg (ab_b_0.mp c2)] at hk
    exact hk
  · have a1 := zIx0 c
    rw [if_pos a1, if_pos (zIx0 c2)] at hk
    obtain ⟨ka, y, ea⟩ := zIxN (by omega) a1
    have ha : -1 ≤ a ∧ a ≤ 11 := by rw [ea]; exact ⟨Int32.le_trans (by decide) (nI_pos' (n := ka) (by omega)), nI_le (b := 11) (by omega) (by decide)⟩
    have es : M 0 3 - 0 = nI (zTrs d) := by rw [t1, Int32.sub_zero]
    refine zLit_call hR ha (by rw [es]; exact ⟨nI_pos' (by omega), nI_le (b := 8) (by omega) (by decide)⟩) (fun M2 N2 g1 g2 => ?_)
    rw [es]
    refine zv_X12_trusts_29 _ _ _ ⟨fun c => ?_, fun c => ?_⟩
    · rw [if_pos c] at hk
      exact zL_X12_trusts (d := d) (M0 := M) (N0 := N) ha hk (zTrs d) 1 M2 N2 (by omega) (zRN_zfr hR g1 (by decide)) g1 g2 rfl
    · rw [if_neg c] at hk
      exact hk M2 N2 g1 g2
abbrev zR_X12_trusts : Room := { frames := 10, cells := 0, slots := 0, locals := 240 }
set_option maxRecDepth 20000 in
theorem zM_X12_trusts (l : Launch) : ab_Met l zw_M vwCl zZ_M yX12_trusts cX12_trusts 4 (some .int) zR_X12_trusts zt_X12_trusts := ab_ofRun (G := zg_X12_trusts) (P := zp_X12_trusts) rfl zo_X12_trusts (by decide +kernel) zl_cl zl_lamM zf_X12_ok ab_Tab_nil zc_X12_ok ab_Sta_nil (List.forall_mem_cons.mpr ⟨ab_callV zZ_M_ok (zM_X12_isHour l) (ab_in 1313 (by decide +kernel) rfl) (ab_in 1310 (by decide +kernel) rfl) (ab_in 1312 (by decide +kernel) rfl) (ab_inS (List.mem_of_getElem? (i := 40) (by decide +kernel)) rfl) (ab_in 17 (by decide +kernel) rfl) (by unfold ab_yok; decide +kernel) ⟨rfl, rfl⟩ (by decide) zV_X12_isHour, List.forall_mem_cons.mpr ⟨ab_callV zZ_M_ok (zM_X12_isLittle l) (ab_in 1472 (by decide +kernel) rfl) (ab_in 1469 (by decide +kernel) rfl) (ab_in 1471 (by decide +kernel) rfl) (ab_inS (List.mem_of_getElem? (i := 55) (by decide +kernel)) rfl) (ab_in 17 (by decide +kernel) rfl) (by unfold ab_yok; decide +kernel) ⟨rfl, rfl⟩ (by decide) zV_X12_isLittle, List.forall_mem_nil _⟩⟩) (List.forall_mem_cons.mpr ⟨ab_callS zZ_M_ok (zM_X12_in l) (ab_in 1200 (by decide +kernel) rfl) (ab_in 1198 (by decide +kernel) rfl) (ab_in 1199 (by decide +kernel) rfl) (ab_in 17 (by decide +kernel) rfl) (by unfold ab_yok; decide +kernel) ⟨rfl, rfl⟩ (by decide), List.forall_mem_nil _⟩) zE_X12_trusts
