/-! the reference: places by a sheet, when to call *)
-/
def zPlA (M : ab_M) (l : Int32) (n : Nat) : Int32 := if zHwA M l n = 0 then zPlB (fun j => M 23 (40 * l.toNatClampNeg + j)) n (zTotR (fun j => M 23 (40 * l.toNatClampNeg + j)) n) n else zHwA M l n
theorem zHwA_0 {M : ab_M} {l : Int32} {n : Nat} (h : zHwA M l n = 0) : ∃ s : Nat, s < 4 ∧ l = nI s := by
  unfold zHwA at h
  by_cases c : 0 ≤ l ∧ l ≤ 3
  · obtain ⟨s, y, e⟩ := zIxM (n := 3) (by decide) c
    exact ⟨s, by omega, e⟩
  · rw [if_neg c] at h
    exact absurd h (by decide)
def zt_X12_places : ab_T := ab_lq (α := Nat × Int32) (fun x r M _ => r = [.int x.2] ∧ M 0 7 = nI x.1 ∧ x.1 ≤ 8)
  (fun x M N o M2 N2 => M2 = M ∧ N2 = N ∧ o = some (.int (zPlA M x.2 x.1)))
theorem zt_X12_places_mono : ab_mono zt_X12_places := ab_lq_mono _ _
theorem zV_X12_places : ab_recv zw_M vwCl RX12 zt_X12_places := ab_lq_v
def zp_X12_places : ab_P := [(0, .aload_n 0, 1, [0], []),
  (1, .iload_n 1, 2, [1], []),
  (2, .invokevirtual 352, 5, [], []),
  (5, .istore_n 2, 6, [2], []),
  (6, .iload_n 2, 7, [2], []),
  (7, .ifCond .ne 11, 10, [18], []),
  (10, .aload_n 0, 11, [0], []),
  (11, .iload_n 1, 12, [1], []),
  (12, .invokevirtual 355, 15, [], []),
  (15, .goto 4, 18, [19], []),
  (18, .iload_n 2, 19, [2], []),
  (19, .ireturn, 20, [], [])]
theorem zo_X12_places : ab_ok cX12_places zp_X12_places = true := by decide +kernel
def zg_X12_places : ab_G := (zw_M, [], zf_X12, zc_X12, [], [(352, 2, zt_X12_holesWrong), (355, 2, zt_X12_placesBy)], [])
theorem zm_X12_places : ab_MG zg_X12_places := ab_MGof (List.forall_mem_cons.mpr ⟨zt_X12_holesWrong_mono, List.forall_mem_cons.mpr ⟨zt_X12_placesBy_mono, List.forall_mem_nil _⟩⟩) (List.forall_mem_nil _)
abbrev zr_X12_places (Q : ab_R) : ab_K := ab_Run zg_X12_places zp_X12_places (some .int) 3 Q
set_option maxRecDepth 20000 in
theorem zv_X12_places_0 {Q : ab_R} {M : ab_M} {N : ab_N} (l1 : Int32) (h : zt_X12_holesWrong [.ref 0, .int l1] M N (fun r M2 N2 => zr_X12_places Q 5 [some (.ref 0), some (.int l1), none] (ab_ol r []) M2 N2)) : zr_X12_places Q 0 [some (.ref 0), some (.int l1)] [] M N := ab_Run_s zm_X12_places (sp := [(5, [true, true, false]), (15, [false, false, false])]) 14 h
set_option maxRecDepth 20000 in
theorem zv_X12_places_5 {Q : ab_R} {M : ab_M} {N : ab_N} (l1 : Int32) (s0 : Int32) (h : (s0 = 0 → zt_X12_placesBy [.ref 0, .int l1] M N (fun r M2 N2 => zr_X12_places Q 15 [none, none, none] (ab_ol r []) M2 N2)) ∧ (¬ (s0 = 0) → Q (some (.int s0)) M N)) : zr_X12_places Q 5 [some (.ref 0), some (.int l1), none] [.int s0] M N := ab_Run_s zm_X12_places (sp := [(5, [true, true, false]), (15, [false, false, false])]) 14 h
set_option maxRecDepth 20000 in
theorem zv_X12_places_15 {Q : ab_R} {M : ab_M} {N : ab_N} (s0 : Int32) (h : Q (some (.int s0)) M N) : zr_X12_places Q 15 [none, none, none] [.int s0] M N := ab_Run_s zm_X12_places (sp := [(5, [true, true, false]), (15, [false, false, false])]) 14 h
theorem zE_X12_places (as : List Value) (M : ab_M) (N : ab_N) (k : ab_R) (hT : zt_X12_places as M N k) : ab_cs as ≤ 3 ∧ zr_X12_places k 0 (ab_en as) [] M N := by
  obtain ⟨⟨n, l⟩, q, rfl, ⟨rfl, h7, hn⟩, hk⟩ := hT
  dsimp only at h7 hn hk ⊢
  have hk := hk _ _ _ ⟨rfl, rfl, rfl⟩
  unfold zPlA at hk
  refine ⟨Nat.le_of_ble_eq_true rfl, zv_X12_places_0 _ ⟨(n, l), _, rfl, ⟨rfl, h7, hn⟩, ?_⟩⟩
  rintro o M2 N2 ⟨rfl, rfl, rfl⟩
  refine zv_X12_places_5 _ _ ⟨fun c => ?_, fun c => ?_⟩
  · have c : zHwA M2 l n = 0 := c
    rw [if_pos c] at hk
    obtain ⟨s, hs, e⟩ := zHwA_0 c
    rw [e, nI_clamp (show s < 2 ^ 31 by omega)] at hk
    rw [e]
    refine ⟨(s, n), _, rfl, ⟨rfl, hs, h7, hn⟩, ?_⟩
    rintro o M3 N3 ⟨rfl, rfl, rfl⟩
    exact zv_X12_places_15 _ hk
  · have c : ¬ zHwA M2 l n = 0 := c
    rw [if_neg c] at hk
    exact hk
abbrev zR_X12_places : Room := { frames := 2, cells := 0, slots := 0, locals := 45 }
set_option maxRecDepth 20000 in
theorem zM_X12_places (l : Launch) : ab_Met l zw_M vwCl zZ_M yX12_places cX12_places 3 (some .int) zR_X12_places zt_X12_places := ab_ofRun (G := zg_X12_places) (P := zp_X12_places) rfl zo_X12_places (by decide +kernel) zl_cl zl_lamM zf_X12_ok ab_Tab_nil zc_X12_ok ab_Sta_nil (List.forall_mem_cons.mpr ⟨ab_callV zZ_M_ok (zM_X12_holesWrong l) (ab_in 1480 (by decide +kernel) rfl) (ab_in 1477 (by decide +kernel) rfl) (ab_in 1479 (by decide +kernel) rfl) (ab_inS (List.mem_of_getElem? (i := 56) (by decide +kernel)) rfl) (ab_in 17 (by decide +kernel) rfl) (by unfold ab_yok; decide +kernel) ⟨rfl, rfl⟩ (by decide) zV_X12_holesWrong, List.forall_mem_cons.mpr ⟨ab_callV zZ_M_ok (zM_X12_placesBy l) (ab_in 1484 (by decide +kernel) rfl) (ab_in 1481 (by decide +kernel) rfl) (ab_in 1483 (by decide +kernel) rfl) (ab_inS (List.mem_of_getElem? (i := 57) (by decide +kernel)) rfl) (ab_in 17 (by decide +kernel) rfl) (by unfold ab_yok; decide +kernel) ⟨rfl, rfl⟩ (by decide) zV_X12_placesBy, List.forall_mem_nil _⟩⟩) (List.forall_mem_nil _) zE_X12_places
def zCwX (d : ab_M) (l : Int32) (h : Nat) : Int64 := zSum (zCalD d (nI h)) 0 (zPcs d) + 1000000000 * l.toInt64
def zCw (d : ab_M) (l : Int32) : Nat → Int32 × Int64
  | 0 => (-1, zSum (zCalD d (-1)) 0 (zPcs d))
  | h + 1 => if 0 ≤ lg_cmp (zCwX d l h) (zCw d l h).2 then zCw d l h else (nI h, zCwX d l h)
def zt_X12_callWhen : ab_T := ab_lq (α := ab_M × Int32) (fun x r M _ => r = [.int x.2] ∧ zRN x.1 M)
  (fun x M N o M2 N2 => zFr zSL M M2 ∧ zNfr [0, 32] N N2 ∧ o = some (.int (if 0 ≤ x.2 ∧ x.2 ≤ 9999 then (zCw x.1 x.2 (zHrs x.1)).1 else -2)))
theorem zt_X12_callWhen_mono : ab_mono zt_X12_callWhen := ab_lq_mono _ _
theorem zV_X12_callWhen : ab_recv zw_M vwCl RX12 zt_X12_callWhen := ab_lq_v
def zp_X12_callWhen : ab_P := [(0, .iload_n 1, 1, [1], []),
  (1, .iconst 0, 2, [], [0]),
  (2, .sipush 9999, 5, [], [9999]),
  (5, .invokestatic 175, 8, [], []),
  (8, .ifCond .ne 6, 11, [14], []),
  (11, .bipush (-2), 13, [], [(-2)]),
  (13, .ireturn, 14, [], []),
  (14, .aload_n 0, 15, [0], []),
  (15, .iconst (-1), 16, [], [(-1)]),
  (16, .invokevirtual 346, 19, [], []),
  (19, .lstore_n 2, 20, [2], []),
  (20, .iconst (-1), 21, [], [(-1)]),
  (21, .istore 4, 23, [], []),
  (23, .iconst 0, 24, [], [0]),
  (24, .istore 5, 26, [], []),
  (26, .iload 5, 28, [], []),
  (28, .aload_n 0, 29, [0], []),
  (29, .getfield 7, 32, [], []),
  (32, .if_icmp .ge 54, 35, [86], []),
  (35, .aload_n 0, 36, [0], []),
  (36, .iload 5, 38, [], []),
  (38, .invokevirtual 346, 41, [], []),
  (41, .ldc2_w 326, 44, [], []),
  (44, .iload_n 1, 45, [1], []),
  (45, .i2l, 46, [], []),
  (46, .lmul, 47, [], []),
  (47, .ladd, 48, [], []),
  (48, .lstore 6, 50, [], []),
  (50, .lload 6, 52, [], []),
  (52, .lload_n 2, 53, [2], []),
  (53, .lcmp, 54, [], []),
  (54, .ifCond .ge 8, 57, [62], []),
  (57, .iload 5, 59, [], []),
  (59, .goto 5, 62, [64], []),
  (62, .iload 4, 64, [], []),
  (64, .istore 4, 66, [], []),
  (66, .lload 6, 68, [], []),
  (68, .lload_n 2, 69, [2], []),
  (69, .lcmp, 70, [], []),
  (70, .ifCond .ge 8, 73, [78], []),
  (73, .lload 6, 75, [], []),
  (75, .goto 4, 78, [79], []),
  (78, .lload_n 2, 79, [2], []),
  (79, .lstore_n 2, 80, [2], []),
  (80, .iinc 5 1, 83, [], [1]),
  (83, .goto (-57), 86, [26], []),
  (86, .iload 4, 88, [], []),
  (88, .ireturn, 89, [], [])]
theorem zo_X12_callWhen : ab_ok cX12_callWhen zp_X12_callWhen = true := by decide +kernel
def zg_X12_callWhen : ab_G := (zw_M, [], zf_X12, zc_X12, [], [(346, 2, zt_X12_calledIn)], [(175, 3, zt_X12_in)])
theorem zm_X12_callWhen : ab_MG zg_X12_callWhen := ab_MGof (List.forall_mem_cons.mpr ⟨zt_X12_calledIn_mono, List.forall_mem_nil _⟩) (List.forall_mem_cons.mpr ⟨ab_pure_mono _, List.forall_mem_nil _⟩)
abbrev zr_X12_callWhen (Q : ab_R) : ab_K := ab_Run zg_X12_callWhen zp_X12_callWhen (some .int) 8 Q
set_option maxRecDepth 20000 in
theorem zv_X12_callWhen_0 {Q : ab_R} {M : ab_M} {N : ab_N} (l1 : Int32) (h : ((ab_b ((0 : Int32) ≤ l1 ∧ l1 ≤ (9999 : Int32))) = 0 → Q (some (.int (-2 : Int32))) M N) ∧ (¬ ((ab_b ((0 : Int32) ≤ l1 ∧ l1 ≤ (9999 : Int32))) = 0) → zt_X12_calledIn [.ref 0, .int (-1 : Int32)] M N (fun r M2 N2 => zr_X12_callWhen Q 19 [some (.ref 0), some (.int l1), none, none, none, none, none, none] (ab_ol r []) M2 N2))) : zr_X12_callWhen Q 0 [some (.ref 0), some (.int l1)] [] M N := ab_Run_s zm_X12_callWhen (sp := [(19, [true, true, false, false, false, false, false, false]), (26, [true, true, true, false, true, true, false, false]), (41, [true, true, true, false, true, true, false, false]), (64, [true, true, true, false, false, true, true, false])]) 50 h
set_option maxRecDepth 20000 in
theorem zv_X12_callWhen_19 {Q : ab_R} {M : ab_M} {N : ab_N} (l1 : Int32) (s0 : Int64) (h : zr_X12_callWhen Q 26 [some (.ref 0), some (.int l1), some (.long s0), none, some (.int (-1 : Int32)), some (.int (0 : Int32)), none, none] [] M N) : zr_X12_callWhen Q 19 [some (.ref 0), some (.int l1), none, none, none, none, none, none] [.long s0] M N := ab_Run_s zm_X12_callWhen (sp := [(19, [true, true, false, false, false, false, false, false]), (26, [true, true, true, false, true, true, false, false]), (41, [true, true, true, false, true, true, false, false]), (64, [true, true, true, false, false, true, true, false])]) 50 h
set_option maxRecDepth 20000 in
theorem zv_X12_callWhen_26 {Q : ab_R} {M : ab_M} {N : ab_N} (l1 : Int32) (l2 : Int64) (l4 : Int32) (l5 : Int32) (h : ((M 0 0) ≤ l5 → Q (some (.int l4)) M N) ∧ (¬ ((M 0 0) ≤ l5) → zt_X12_calledIn [.ref 0, .int l5] M N (fun r M2 N2 => zr_X12_callWhen Q 41 [some (.ref 0), some (.int l1), some (.long l2), none, some (.int l4), some (.int l5), none, none] (ab_ol r []) M2 N2))) : zr_X12_callWhen Q 26 [some (.ref 0), some (.int l1), some (.long l2), none, some (.int l4), some (.int l5), none, none] [] M N := ab_Run_s zm_X12_callWhen (sp := [(19, [true, true, false, false, false, false, false, false]), (26, [true, true, true, false, true, true, false, false]), (41, [true, true, true, false, true, true, false, false]), (64, [true, true, true, false, false, true, true, false])]) 50 h
set_option maxRecDepth 20000 in
theorem zv_X12_callWhen_41 {Q : ab_R} {M : ab_M} {N : ab_N} (l1 : Int32) (l2 : Int64) (l4 : Int32) (l5 : Int32) (s0 : Int64) (h : (0 ≤ (lg_cmp (s0 + ((1000000000 : Int64) * (l1.toInt64))) l2) → zr_X12_callWhen Q 64 [some (.ref 0), some (.int l1), some (.long l2), none, none, some (.int l5), some (.long (s0 + ((1000000000 : Int64) * (l1.toInt64)))), none] [.int l4] M N) ∧ (¬ (0 ≤ (lg_cmp (s0 + ((1000000000 : Int64) * (l1.toInt64))) l2)) → zr_X12_callWhen Q 64 [some (.ref 0), some (.int l1), some (.long l2), none, none, some (.int l5), some (.long (s0 + ((1000000000 : Int64) * (l1.toInt64)))), none] [.int l5] M N)) : zr_X12_callWhen Q 41 [some (.ref 0), some (.int l1), some (.long l2), none, some (.int l4), some (.int l5), none, none] [.long s0] M N := ab_Run_s zm_X12_callWhen (sp := [(19, [true, true, false, false, false, false, false, false]), (26, [true, true, true, false, true, true, false, false]), (41, [true, true, true, false, true, true, false, false]), (64, [true, true, true, false, false, true, true, false])]) 50 h
set_option maxRecDepth 20000 in
theorem zv_X12_callWhen_64 {Q : ab_R} {M : ab_M} {N : ab_N} (l1 : Int32) (l2 : Int64) (l5 : Int32) (l6 : Int64) (s0 : Int32) (h : (0 ≤ (lg_cmp l6 l2) → zr_X12_callWhen Q 26 [some (.ref 0), some (.int l1), some (.long l2), none, some (.int s0), some (.int (l5 + (1 : Int32))), none, none] [] M N) ∧ (¬ (0 ≤ (lg_cmp l6 l2)) → zr_X12_callWhen Q 26 [some (.ref 0), some (.int l1), some (.long l6), none, some (.int s0), some (.int (l5 + (1 : Int32))), none, none] [] M N)) : zr_X12_callWhen Q 64 [some (.ref 0), some (.int l1), some (.long l2), none, none, some (.int l5), some (.long l6), none] [.int s0] M N := ab_Run_s zm_X12_callWhen (sp := [(19, [true, true, false, false, false, false, false, false]), (26, [true, true, true, false, true, true, false, false]), (41, [true, true, true, false, true, true, false, false]), (64, [true, true, true, false, false, true, true, false])]) 50 h
theorem zL_X12_callWhen {Q : ab_R} {d M0 : ab_M} {N0 : ab_N} {l : Int32} (hk : ∀ M N, zFr zSL M0 M → zNfr [0, 32] N0 N → Q (some (.int (zCw d l (zHrs d)).1)) M N) : ∀ (r h : Nat) (M : ab_M) (N : ab_N) (a : Int32) (x : Int64), h + r = zHrs d → zRN d M → zFr zSL M0 M → zNfr [0, 32] N0 N → zCw d l h = (a, x) → zr_X12_callWhen Q 26 [some (.ref 0), some (.int l), some (.long x), none, some (.int a), some (.int (nI h)), none, none] [] M N := by
  intro r
  induction r with
  | zero =>
    intro h M N a x hr hR hF hN e
    obtain ⟨n7, p8, n12, m5, n0, h1, h12, -⟩ := zNI_n hR
    have ep : h = zHrs d := by omega
    subst ep
    have hk := hk M N hF hN
    rw [e] at hk
    exact zv_X12_callWhen_26 _ _ _ _ ⟨fun _ => hk, fun c => absurd (by rw [n0]; exact nI_le (Nat.le_refl _) (by omega)) c⟩
  | succ r ih =>
    intro h M N a x hr hR hF hN e
    obtain ⟨n7, p8, n12, m5, n0, h1, h12, -⟩ := zNI_n hR
    refine zv_X12_callWhen_26 _ _ _ _ ⟨fun c => absurd (by rw [← n0]; exact c) (nI_ge (a := h) (b := zHrs d) (by omega) (by omega)), fun _ => ⟨(zCalD d (nI h), nI h), _, rfl, ⟨rfl, zRN_called hR ⟨Int32.le_trans (by decide) (nI_pos' (n := h) (by omega)), nI_le (b := 11) (by omega) (by decide)⟩⟩, ?_⟩⟩
    rintro o M3 N3 ⟨f1, f2, rfl⟩
    have go := fun a2 x2 => ih (h + 1) M3 N3 a2 x2 (by omega) (zRN_zfr hR f1 (by decide)) (zFr_tr hF f1) (zNfr_tr hN f2)
    have e2 : zCw d l (h + 1) = if 0 ≤ lg_cmp (zCwX d l h) (zCw d l h).2 then zCw d l h else (nI h, zCwX d l h) := rfl
    rw [e] at e2
    dsimp only
    rw [zCalD_p]
    refine zv_X12_callWhen_41 _ _ _ _ _ ⟨fun c => ?_, fun c => ?_⟩
    · refine zv_X12_callWhen_64 _ _ _ _ _ ⟨fun _ => ?_, fun z => absurd c z⟩
      rw [nI_1]
      exact go _ _ (by rw [e2]; exact if_pos c)
    · refine zv_X12_callWhen_64 _ _ _ _ _ ⟨fun z => absurd z c, fun _ => ?_⟩
      rw [nI_1]
      exact go _ _ (by rw [e2]; exact if_neg c)
theorem zE_X12_callWhen (as : List Value) (M : ab_M) (N : ab_N) (k : ab_R) (hT : zt_X12_callWhen as M N k) : ab_cs as ≤ 8 ∧ zr_X12_callWhen k 0 (ab_en as) [] M N := by
  obtain ⟨⟨d, l⟩, q, rfl, ⟨rfl, hR⟩, hk⟩ := hT
  dsimp only at hR hk ⊢
  refine ⟨Nat.le_of_ble_eq_true rfl, zv_X12_callWhen_0 _ ⟨fun c => ?_, fun c => ⟨(zCalD d (-1), -1), _, rfl, ⟨rfl, zRN_called hR (by decide)⟩, ?_⟩⟩⟩
  · exact hk _ _ _ ⟨zFr_rf _ _, zNfr_rf _ _, by rw [if_neg (ab_b_0.mp c)]⟩
  · rintro o M2 N2 ⟨g1, g2, rfl⟩
    dsimp only
    rw [zCalD_p]
    exact zv_X12_callWhen_19 _ _ (zL_X12_callWhen (d := d) (M0 := M) (N0 := N) (fun M3 N3 a b => hk _ _ _ ⟨a, b, by rw [if_pos (zIx0 c)]⟩) (zHrs d) 0 M2 N2 _ _ (by omega) (zRN_zfr hR g1 (by decide)) g1 g2 rfl)
abbrev zR_X12_callWhen : Room := { frames := 9, cells := 0, slots := 0, locals := 214 }
set_option maxRecDepth 20000 in
theorem zM_X12_callWhen (l : Launch) : ab_Met l zw_M vwCl zZ_M yX12_callWhen cX12_callWhen 8 (some .int) zR_X12_callWhen zt_X12_callWhen := ab_ofRun (G := zg_X12_callWhen) (P := zp_X12_callWhen) rfl zo_X12_callWhen (by decide +kernel) zl_cl zl_lamM zf_X12_ok ab_Tab_nil zc_X12_ok ab_Sta_nil (List.forall_mem_cons.mpr ⟨ab_callV zZ_M_ok (zM_X12_calledIn l) (ab_in 1460 (by decide +kernel) rfl) (ab_in 1457 (by decide +kernel) rfl) (ab_in 1459 (by decide +kernel) rfl) (ab_inS (List.mem_of_getElem? (i := 54) (by decide +kernel)) rfl) (ab_in 17 (by decide +kernel) rfl) (by unfold ab_yok; decide +kernel) ⟨rfl, rfl⟩ (by decide) zV_X12_calledIn, List.forall_mem_nil _⟩) (List.forall_mem_cons.mpr ⟨ab_callS zZ_M_ok (zM_X12_in l) (ab_in 1200 (by decide +kernel) rfl) (ab_in 1198 (by decide +kernel) rfl) (ab_in 1199 (by decide +kernel) rfl) (ab_in 17 (by decide +kernel) rfl) (by unfold ab_yok; decide +kernel) ⟨rfl, rfl⟩ (by decide), List.forall_mem_nil _⟩) zE_X12_callWhen
