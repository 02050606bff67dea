/-! Reckoning.grow, reckon, told *)
-/
theorem updL_self_ne {f : Nat → Int64} {k j : Nat} {x : Int64} (h : j ≠ k) : vp_updL f k x j = f j := updL_ne f x h
def zp_X6_grow : ab_P := [(0, .aload_n 0, 1, [0], []),
  (1, .getfield 15, 4, [], []),
  (4, .getfield 31, 7, [], []),
  (7, .iconst 1, 8, [], [1]),
  (8, .iaload, 9, [], []),
  (9, .istore_n 3, 10, [3], []),
  (10, .aload_n 0, 11, [0], []),
  (11, .getfield 9, 14, [], []),
  (14, .iload_n 3, 15, [3], []),
  (15, .iconst 1, 16, [], [1]),
  (16, .isub, 17, [], []),
  (17, .laload, 18, [], []),
  (18, .lstore 4, 20, [], []),
  (20, .aload_n 0, 21, [0], []),
  (21, .getfield 9, 24, [], []),
  (24, .iload_n 3, 25, [3], []),
  (25, .dup2, 26, [], []),
  (26, .laload, 27, [], []),
  (27, .lload 4, 29, [], []),
  (29, .ladd, 30, [], []),
  (30, .lastore, 31, [], []),
  (31, .aload_n 0, 32, [0], []),
  (32, .dup, 33, [], []),
  (33, .getfield 27, 36, [], []),
  (36, .lload 4, 38, [], []),
  (38, .aload_n 0, 39, [0], []),
  (39, .getfield 23, 42, [], []),
  (42, .iconst 2, 43, [], [2]),
  (43, .iload_n 1, 44, [1], []),
  (44, .iload_n 2, 45, [2], []),
  (45, .iload_n 3, 46, [3], []),
  (46, .iconst 0, 47, [], [0]),
  (47, .invokevirtual 70, 50, [], []),
  (50, .i2l, 51, [], []),
  (51, .lmul, 52, [], []),
  (52, .ladd, 53, [], []),
  (53, .putfield 27, 56, [], []),
  (56, .iload_n 3, 57, [3], []),
  (57, .iconst 1, 58, [], [1]),
  (58, .isub, 59, [], []),
  (59, .istore 6, 61, [], []),
  (61, .iload 6, 63, [], []),
  (63, .iconst 1, 64, [], [1]),
  (64, .if_icmp .le 25, 67, [89], []),
  (67, .aload_n 0, 68, [0], []),
  (68, .getfield 9, 71, [], []),
  (71, .iload 6, 73, [], []),
  (73, .aload_n 0, 74, [0], []),
  (74, .getfield 9, 77, [], []),
  (77, .iload 6, 79, [], []),
  (79, .iconst 1, 80, [], [1]),
  (80, .isub, 81, [], []),
  (81, .laload, 82, [], []),
  (82, .lastore, 83, [], []),
  (83, .iinc 6 (-1), 86, [], [(-1)]),
  (86, .goto (-25), 89, [61], []),
  (89, .aload_n 0, 90, [0], []),
  (90, .getfield 9, 93, [], []),
  (93, .iconst 1, 94, [], [1]),
  (94, .aload_n 0, 95, [0], []),
  (95, .getfield 9, 98, [], []),
  (98, .iconst 0, 99, [], [0]),
  (99, .laload, 100, [], []),
  (100, .aload_n 0, 101, [0], []),
  (101, .getfield 23, 104, [], []),
  (104, .iconst 0, 105, [], [0]),
  (105, .iload_n 1, 106, [1], []),
  (106, .iload_n 2, 107, [2], []),
  (107, .aload_n 0, 108, [0], []),
  (108, .getfield 19, 111, [], []),
  (111, .iload_n 1, 112, [1], []),
  (112, .iload_n 2, 113, [2], []),
  (113, .invokevirtual 76, 116, [], []),
  (116, .iconst 0, 117, [], [0]),
  (117, .invokevirtual 70, 120, [], []),
  (120, .i2l, 121, [], []),
  (121, .lmul, 122, [], []),
  (122, .ldc2_w 80, 125, [], []),
  (125, .ldiv, 126, [], []),
  (126, .lastore, 127, [], []),
  (127, .aload_n 0, 128, [0], []),
  (128, .getfield 9, 131, [], []),
  (131, .iconst 0, 132, [], [0]),
  (132, .dup2, 133, [], []),
  (133, .laload, 134, [], []),
  (134, .aload_n 0, 135, [0], []),
  (135, .getfield 9, 138, [], []),
  (138, .iconst 1, 139, [], [1]),
  (139, .laload, 140, [], []),
  (140, .lsub, 141, [], []),
  (141, .lastore, 142, [], []),
  (142, .return_, 143, [], [])]
theorem zo_X6_grow : ab_ok cX6_grow zp_X6_grow = true := by decide +kernel
def zg_X6_grow : ab_G := (zw_C, zs_tab, zf_X6, zc_X6, [], [(70, 6, zt_X1_ask), (76, 3, zt_X10_sinceOf)], [])
theorem zm_X6_grow : ab_MG zg_X6_grow := ab_MGof (List.forall_mem_cons.mpr ⟨zt_X1_ask_mono, List.forall_mem_cons.mpr ⟨ab_pp_mono _, List.forall_mem_nil _⟩⟩) (List.forall_mem_nil _)
abbrev zr_X6_grow (Q : ab_R) : ab_K := ab_Run zg_X6_grow zp_X6_grow none 7 Q
set_option maxRecDepth 20000 in
theorem zv_X6_grow_0 {Q : ab_R} {M : ab_M} {N : ab_N} (l1 : Int32) (l2 : Int32) (h : vp_in (1 : Int32) 5 ∧ (vp_in ((M 17 1) - (1 : Int32)) 7 ∧ (vp_in (M 17 1) 7 ∧ (vp_in (M 17 1) 7 ∧ (let y1 : Nat → Int64 := vp_updL (N 41) (M 17 1).toNatClampNeg ((N 41 (M 17 1).toNatClampNeg) + (N 41 ((M 17 1) - (1 : Int32)).toNatClampNeg)); zt_X1_ask [.ref 5, .int (2 : Int32), .int l1, .int l2, .int (M 17 1), .int (0 : Int32)] M (ab_u N 41 y1) (fun r M2 N2 => zr_X6_grow Q 50 [some (.ref 7), some (.int l1), some (.int l2), some (.int (M 17 1)), none, none, none] (ab_ol r [.long (N 41 ((M 17 1) - (1 : Int32)).toNatClampNeg), .long (N 7 4), .ref 7]) M2 N2)))))) : zr_X6_grow Q 0 [some (.ref 7), some (.int l1), some (.int l2)] [] M N := ab_Run_s zm_X6_grow (sp := [(50, [true, true, true, true, false, false, false]), (61, [true, true, true, false, false, false, true]), (120, [true, false, false, false, false, false, false])]) 94 h
set_option maxRecDepth 20000 in
theorem zv_X6_grow_50 {Q : ab_R} {M : ab_M} {N : ab_N} (l1 : Int32) (l2 : Int32) (l3 : Int32) (s1 : Int64) (s2 : Int64) (s3 : Int32) (h : let y1 : Nat → Int64 := vp_updL (N 7) 4 (s1 + (s2 * (s3.toInt64))); zr_X6_grow Q 61 [some (.ref 7), some (.int l1), some (.int l2), none, none, none, some (.int (l3 - (1 : Int32)))] [] M (ab_u N 7 y1)) : zr_X6_grow Q 50 [some (.ref 7), some (.int l1), some (.int l2), some (.int l3), none, none, none] [.int s3, .long s2, .long s1, .ref 7] M N := ab_Run_s zm_X6_grow (sp := [(50, [true, true, true, true, false, false, false]), (61, [true, true, true, false, false, false, true]), (120, [true, false, false, false, false, false, false])]) 94 h
set_option maxRecDepth 20000 in
theorem zv_X6_grow_61 {Q : ab_R} {M : ab_M} {N : ab_N} (l1 : Int32) (l2 : Int32) (l6 : Int32) (h : (l6 ≤ (1 : Int32) → vp_in (0 : Int32) 7 ∧ ((vp_in (l2 * 8 + l1) 96) ∧ (zt_X1_ask [.ref 5, .int (0 : Int32), .int l1, .int l2, .int ((M 39) (l2 * 8 + l1).toNatClampNeg), .int (0 : Int32)] M N (fun r M2 N2 => zr_X6_grow Q 120 [some (.ref 7), none, none, none, none, none, none] (ab_ol r [.long (N 41 0), .int (1 : Int32), .ref 41]) M2 N2)))) ∧ (¬ (l6 ≤ (1 : Int32)) → vp_in (l6 - (1 : Int32)) 7 ∧ (vp_in l6 7 ∧ (let y1 : Nat → Int64 := vp_updL (N 41) l6.toNatClampNeg (N 41 (l6 - (1 : Int32)).toNatClampNeg); zr_X6_grow Q 61 [some (.ref 7), some (.int l1), some (.int l2), none, none, none, some (.int (l6 + (-1 : Int32)))] [] M (ab_u N 41 y1))))) : zr_X6_grow Q 61 [some (.ref 7), some (.int l1), some (.int l2), none, none, none, some (.int l6)] [] M N := ab_Run_s zm_X6_grow (sp := [(50, [true, true, true, true, false, false, false]), (61, [true, true, true, false, false, false, true]), (120, [true, false, false, false, false, false, false])]) 94 h
set_option maxRecDepth 20000 in
theorem zv_X6_grow_120 {Q : ab_R} {M : ab_M} {N : ab_N} (s1 : Int32) (s2 : Int64) (s3 : Int32) (h : ¬ (1000 : Int64) = 0 ∧ (vp_in s1 7 ∧ (let y1 : Nat → Int64 := vp_updL (N 41) s1.toNatClampNeg ((s2 * (s3.toInt64)) / (1000 : Int64)); vp_in (0 : Int32) 7 ∧ (vp_in (1 : Int32) 7 ∧ (vp_in (0 : Int32) 7 ∧ (let y2 : Nat → Int64 := vp_updL (y1) 0 ((y1 0) - (y1 1)); Q none M (ab_u (ab_u N 41 y1) 41 y2))))))) : zr_X6_grow Q 120 [some (.ref 7), none, none, none, none, none, none] [.int s3, .long s2, .int s1, .ref 41] M N := ab_Run_s zm_X6_grow (sp := [(50, [true, true, true, true, false, false, false]), (61, [true, true, true, false, false, false, true]), (120, [true, false, false, false, false, false, false])]) 94 h
/-- the shift, from step i down -/
theorem zL_X6_grow {Q : ab_R} {M : ab_M} {N0 : ab_N} (q g B : Nat) (f : Nat → Int64) (hB : B ≤ 6) (kk : ∀ F : Nat → Int64, (∀ j, j < 7 → F j = zShift f B j) → zr_X6_grow Q 61 [some (.ref 7), some (.int (nI q)), some (.int (nI g)), none, none, none, some (.int (nI 1))] [] M (ab_u N0 41 F)) :
    ∀ (i : Nat) (F : Nat → Int64), i + 1 < B → (∀ j, j < 7 → F j = if i + 2 ≤ j ∧ j < B then f (j - 1) else f j) → zr_X6_grow Q 61 [some (.ref 7), some (.int (nI q)), some (.int (nI g)), none, none, none, some (.int (nI (i + 1)))] [] M (ab_u N0 41 F) := by
  intro i
  induction i with
  | zero =>
    intro F hi hF
    exact kk F (fun j hj => by rw [hF j hj]; rfl)
  | succ i ih =>
    intro F hi hF
    refine zv_X6_grow_61 _ _ _ ⟨fun c => absurd c (nI_ge (a := 1) (by omega) (by omega)), fun _ => ?_⟩
    rw [nI_pred, pk_m1]
    refine ⟨nI_in_ (by omega), nI_in_ (by omega), ?_⟩
    rw [nI_clamp (show i + 1 < 2 ^ 31 by omega), nI_clamp (show i + 1 + 1 < 2 ^ 31 by omega)]
    intro y1
    have e : y1 = vp_updL F (i + 1 + 1) (F (i + 1)) := by
      show vp_updL (ab_u N0 41 F 41) _ (ab_u N0 41 F 41 (i + 1)) = _
      rw [ab_u_eq]
    clear_value y1
    subst e
    rw [ab_u_u]
    refine ih _ (by omega) (fun j hj => ?_)
    by_cases e : j = i + 1 + 1
    · rw [e, updL_eq, hF (i + 1) (by omega), if_neg (by omega), if_pos (by omega)]
      rfl
    · rw [updL_ne _ _ e, hF j hj]
      by_cases c : i + 1 + 2 ≤ j ∧ j < B
      · rw [if_pos c, if_pos (by omega)]
      · rw [if_neg c, if_neg (by omega)]
theorem zE_X6_grow (as : List Value) (M : ab_M) (N : ab_N) (k : ab_R) (hT : zt_X6_grow as M N k) : ab_cs as ≤ 7 ∧ zr_X6_grow k 0 (ab_en as) [] M N := by
  obtain ⟨p, h, rfl, ⟨hN, q, g, sc, hq, hg, rfl, rfl, hs1, hs2⟩, hk⟩ := ab_m2_e hT
  obtain ⟨hA, h0, h1⟩ := id hN
  obtain ⟨hB, hB6, hB2⟩ := zB_eq h0
  obtain ⟨hP, hP8⟩ := zP_eq h0
  refine ⟨Nat.le_of_ble_eq_true rfl, zv_X6_grow_0 _ _ ?_⟩
  rw [nI_clamp (show q < 2 ^ 31 by omega), nI_clamp (show g < 2 ^ 31 by omega), hs2, nI_clamp (show sc < 2 ^ 31 by omega)] at hk
  have eB1 : nI (zBrk M) - 1 = nI (zBrk M - 1) := by
    rw [show (1 : Int32) = nI 1 from rfl, pk_sub (by omega)]
  rw [hB, eB1, nI_clamp (show zBrk M < 2 ^ 31 by omega), nI_clamp (show zBrk M - 1 < 2 ^ 31 by omega)]
  refine ⟨ab_vpk (by decide), nI_in_ (by omega), nI_in_ (by omega), nI_in_ (by omega), ?_⟩
  intro y1
  refine ab_m5_i ⟨hA, 2, q, g, zBrk M, 0, zPcs M, by omega, hq, hP8, hg, by omega, by omega, rfl, rfl, rfl, rfl, rfl, hP⟩ ?_
  rintro o M2 N2 ⟨hNe, hF, hA2, rfl⟩
  have hle2 := zAsk_le M (th := 2) (by omega) q g (zBrk M) 0
  rw [show (2 : Int32).toNatClampNeg = 2 from rfl, show (0 : Int32).toNatClampNeg = 0 from rfl, nI_clamp (show q < 2 ^ 31 by omega), nI_clamp (show g < 2 ^ 31 by omega), nI_clamp (show zBrk M < 2 ^ 31 by omega), hNe]
  refine zv_X6_grow_50 _ _ _ _ _ _ ?_
  rw [nI_l (by omega), eB1]
  intro y2
  have hy1 : y1 = vp_updL (N 41) (zBrk M) (N 41 (zBrk M) + N 41 (zBrk M - 1)) := rfl
  have hy2 : y2 = vp_updL (N 7) 4 (N 7 4 + N 41 (zBrk M - 1) * lN (zAsk M 2 q g (zBrk M) 0)) := rfl
  clear_value y1 y2
  have eN : ab_u (ab_u N 41 y1) 7 y2 = ab_u (ab_u N 7 y2) 41 y1 := by
    funext c
    by_cases e : c = 7
    · rw [e, ab_u_eq, ab_u_ne _ _ (by decide), ab_u_eq]
    · rw [ab_u_ne _ _ e]
      by_cases e2 : c = 41
      · rw [e2, ab_u_eq, ab_u_eq]
      · rw [ab_u_ne _ _ e2, ab_u_ne _ _ e2, ab_u_ne _ _ e]
  rw [eN]
  have eb : zBrk M - 1 = (zBrk M - 2) + 1 := by omega
  have start := zL_X6_grow (Q := k) (M := M2) (N0 := ab_u N 7 y2) q g (zBrk M) y1 hB6 (fun F hFs => ?_) (zBrk M - 2) y1 (by omega) (fun j hj => by rw [if_neg (by omega)])
  · rw [← eb] at start
    exact start
  · refine zv_X6_grow_61 _ _ _ ⟨fun _ => ⟨ab_vpk (by decide), ?_⟩, fun c => absurd (show nI 1 ≤ nI 1 from nI_le (by omega) (by omega)) c⟩
    have ei : nI g * 8 + nI q = nI (g * 8 + q) := by rw [zN_mul g 8 8, nI_add]
    rw [ei, nI_clamp (show g * 8 + q < 2 ^ 31 by omega), hF 39 (by decide), hs2]
    refine ⟨nI_in_ (by omega), ab_m5_i ⟨hA2, 0, q, g, sc, 0, zPcs M, by omega, hq, hP8, hg, hs1, by omega, rfl, rfl, rfl, rfl, rfl, by rw [hF 1 (by decide), hP]⟩ ?_⟩
    rintro o M3 N3 ⟨hNe3, hF3, hA3, rfl⟩
    have hFt : zFr [33, 35, 36] M M3 := zFr_tr hF hF3
    have hle0 := zAsk_le M (th := 0) (by omega) q g sc 0
    rw [zAsk_fr hF, show (0 : Int32).toNatClampNeg = 0 from rfl, nI_clamp (show q < 2 ^ 31 by omega), nI_clamp (show g < 2 ^ 31 by omega), nI_clamp (show sc < 2 ^ 31 by omega), hNe3]
    refine zv_X6_grow_120 _ _ _ ⟨by decide, ab_vpk (by decide), ?_⟩
    rw [nI_l (by omega), ab_u_eq]
    intro y3
    refine ⟨ab_vpk (by decide), ab_vpk (by decide), ab_vpk (by decide), ?_⟩
    intro y4
    have hy3 : y3 = vp_updL F 1 (F 0 * lN (zAsk M 0 q g sc 0) / 1000) := by
      show vp_updL (ab_u (ab_u N 7 y2) 41 F 41) _ _ = _
      rw [ab_u_eq]; rfl
    have hy4 : y4 = vp_updL y3 0 (y3 0 - y3 1) := rfl
    clear_value y3 y4
    refine hk none M3 _ ⟨rfl, hFt, hA3, zNfr_u (zNfr_u (zNfr_u (zNfr_u (zNfr_rf _ _) (by decide) _) (by decide) _) (by decide) _) (by decide) _, ?_⟩
    intro s hs
    obtain ⟨s1, s2, s3⟩ := hs
    have e1 : ∀ j, j < 7 → y1 j = vp_updL s.1 (zBrk M) (s.1 (zBrk M) + s.1 (zBrk M - 1)) j := by
      intro j hj
      rw [hy1, s1 (zBrk M) (by omega), s1 (zBrk M - 1) (by omega)]
      by_cases e : j = zBrk M
      · rw [e, updL_eq, updL_eq]
      · rw [updL_ne _ _ e, updL_ne _ _ e]; exact s1 j hj
    have e2 : ∀ j, j < 7 → F j = zShift (vp_updL s.1 (zBrk M) (s.1 (zBrk M) + s.1 (zBrk M - 1))) (zBrk M) j := by
      intro j hj
      rw [hFs j hj]
      unfold zShift
      by_cases c : 2 ≤ j ∧ j < zBrk M
      · rw [if_pos c, if_pos c, e1 (j - 1) (by omega)]
      · rw [if_neg c, if_neg c, e1 j hj]
    refine ⟨fun j hj => ?_, ?_, ?_⟩
    · rw [ab_u_eq, hy4, hy3]
      show _ = vp_updL (vp_updL (zShift (vp_updL s.1 (zBrk M) (s.1 (zBrk M) + s.1 (zBrk M - 1))) (zBrk M)) 1 _) 0 _ j
      have f0 := e2 0 (by omega)
      by_cases c0 : j = 0
      · rw [c0, updL_eq, updL_eq, updL_ne _ _ (show (0 : Nat) ≠ 1 by decide), updL_ne _ _ (show (0 : Nat) ≠ 1 by decide), updL_eq, f0]
      · rw [updL_ne _ _ c0, updL_ne _ _ c0]
        by_cases c1 : j = 1
        · rw [c1, updL_eq, updL_eq, f0]
        · rw [updL_ne _ _ c1, updL_ne _ _ c1, e2 j hj]
    · rw [ab_u_ne _ _ (by decide), ab_u_ne _ _ (by decide), ab_u_ne _ _ (by decide), ab_u_eq, hy2, updL_eq, s2, s1 (zBrk M - 1) (by omega)]
      rfl
    · rw [ab_u_ne _ _ (by decide), ab_u_ne _ _ (by decide), ab_u_ne _ _ (by decide), ab_u_eq, hy2, updL_ne _ _ (by decide), s3]
      rfl
abbrev zR_X6_grow : Room := { frames := 3, cells := 0, slots := 0, locals := 80 }
set_option maxRecDepth 20000 in
theorem zM_X6_grow (l : Launch) : ab_Met l zw_C vwCl zZ_C yX6_grow cX6_grow 7 none zR_X6_grow zt_X6_grow := ab_ofRun (G := zg_X6_grow) (P := zp_X6_grow) rfl zo_X6_grow (by decide +kernel) zl_cl zl_lamC zf_X6_ok zs_tabOK zc_X6_ok ab_Sta_nil (List.forall_mem_cons.mpr ⟨ab_callV zZ_C_ok (zM_X1_ask l) (ab_in 590 (by decide +kernel) rfl) (ab_in 746 (by decide +kernel) rfl) (ab_in 588 (by decide +kernel) rfl) (ab_in 589 (by decide +kernel) rfl) (ab_in 6 (by decide +kernel) rfl) (by unfold ab_yok; decide +kernel) ⟨rfl, rfl⟩ (by decide) zV_X1_ask, List.forall_mem_cons.mpr ⟨ab_callV zZ_C_ok (zM_X10_sinceOf l) (ab_in 699 (by decide +kernel) rfl) (ab_in 747 (by decide +kernel) rfl) (ab_in 697 (by decide +kernel) rfl) (ab_in 698 (by decide +kernel) rfl) (ab_in 7 (by decide +kernel) rfl) (by unfold ab_yok; decide +kernel) ⟨rfl, rfl⟩ (by decide) zV_X10_sinceOf, List.forall_mem_nil _⟩⟩) (List.forall_mem_nil _) zE_X6_grow
theorem zWk_fr {M M2 : ab_M} (hF : zFr [33, 35, 36] M M2) : zWk M2 = zWk M := by
  have hG : zFr zGo M M2 := zFr_mono hF (by decide)
  have hH : zHr M2 = zHr M := by
    funext h s
    have hm : zMen M2 = zMen M := by unfold zMen; rw [hF 2 (by decide)]
    have hc : ∀ sc, zCome M2 h s.1 s.2.1 sc = zCome M h s.1 s.2.1 sc := fun sc => by
      funext m
      exact zCome_congr (hF 1 (by decide)) (hF 6 (by decide)) (hF 25 (by decide)) (hF 26 (by decide)) (hF 27 (by decide)) (hF 28 (by decide)) (hF 29 (by decide)) (hF 30 (by decide)) (zAsk_go hG) (fun _ => rfl) (fun _ => rfl) (fun _ _ => rfl)
    have hl : ∀ pl, zLk M2 h pl = zLk M h pl := fun pl => by
      funext m p
      induction m with
      | zero => unfold zLk; rw [hF 1 (by decide), hF 17 (by decide), hF 16 (by decide), hF 6 (by decide)]
      | succ m ih => unfold zLk; rw [ih, hF 6 (by decide), hF 25 (by decide), hF 29 (by decide)]
    unfold zHr zBack
    rw [hm, hF 26 (by decide), hF 27 (by decide)]
    simp only [hc, hl]
  funext h
  induction h with
  | zero => show zHr M2 0 zS0 = zHr M 0 zS0; rw [hH]
  | succ h ih => show zHr M2 (h + 1) (zWk M2 h) = zHr M (h + 1) (zWk M h); rw [hH, ih]
theorem zSc_fr {M M2 : ab_M} (hF : zFr [33, 35, 36] M M2) : zSc M2 = zSc M := by
  funext h p
  rw [← zWk_sc, ← zWk_sc, zWk_fr hF]
theorem zHrs_fr {M M2 : ab_M} (hF : zFr [33, 35, 36] M M2) : zHrs M2 = zHrs M := by unfold zHrs; rw [hF 17 (by decide)]
theorem zBrk_fr {M M2 : ab_M} (hF : zFr [33, 35, 36] M M2) : zBrk M2 = zBrk M := by unfold zBrk; rw [hF 17 (by decide)]
theorem zPcs_fr {M M2 : ab_M} (hF : zFr [33, 35, 36] M M2) : zPcs M2 = zPcs M := by unfold zPcs; rw [hF 1 (by decide)]
theorem zMen_fr {M M2 : ab_M} (hF : zFr [33, 35, 36] M M2) : zMen M2 = zMen M := by unfold zMen; rw [hF 2 (by decide)]
theorem zWalked_fr {M M2 : ab_M} (hF : zFr [33, 35, 36] M M2) (h : zWalked M) : zWalked M2 := by
  unfold zWalked at h ⊢
  rw [zHrs_fr hF, zMen_fr hF, zPcs_fr hF, zWk_fr hF, zSc_fr hF, hF 37 (by decide), hF 38 (by decide), hF 39 (by decide)]
  exact h
theorem zLook_fr {M M2 : ab_M} (hF : zFr [33, 35, 36] M M2) : zLook M2 = zLook M := by
  funext p h pc n
  induction n with
  | zero => rfl
  | succ n ih => funext s; show zLook1 M2 p h pc (n + 1) (zLook M2 p h pc n s) = _; rw [ih]; unfold zLook1; rw [zAsk_fr hF]; rfl
theorem zGrow_fr {M M2 : ab_M} (hF : zFr [33, 35, 36] M M2) : zGrow M2 = zGrow M := by
  funext p h sc s
  unfold zGrow
  rw [zAsk_fr hF, zBrk_fr hF]
def zp_X6_reckon : ab_P := [(0, .aload_n 0, 1, [0], []),
  (1, .getfield 9, 4, [], []),
  (4, .lconst 0, 5, [0], []),
  (5, .invokestatic 40, 8, [], []),
  (8, .aload_n 0, 9, [0], []),
  (9, .getfield 9, 12, [], []),
  (12, .iconst 0, 13, [], [0]),
  (13, .ldc2_w 46, 16, [], []),
  (16, .lastore, 17, [], []),
  (17, .aload_n 0, 18, [0], []),
  (18, .lconst 0, 19, [0], []),
  (19, .putfield 27, 22, [], []),
  (22, .aload_n 0, 23, [0], []),
  (23, .lconst 0, 24, [0], []),
  (24, .putfield 37, 27, [], []),
  (27, .iconst 0, 28, [], [0]),
  (28, .istore_n 3, 29, [3], []),
  (29, .iload_n 3, 30, [3], []),
  (30, .iload_n 2, 31, [2], []),
  (31, .if_icmp .ge 72, 34, [103], []),
  (34, .aload_n 0, 35, [0], []),
  (35, .iload_n 1, 36, [1], []),
  (36, .iload_n 3, 37, [3], []),
  (37, .invokevirtual 48, 40, [], []),
  (40, .iconst 0, 41, [], [0]),
  (41, .istore 4, 43, [], []),
  (43, .iload 4, 45, [], []),
  (45, .bipush 8, 47, [], [8]),
  (47, .if_icmp .ge 50, 50, [97], []),
  (50, .aload_n 0, 51, [0], []),
  (51, .getfield 19, 54, [], []),
  (54, .iload_n 1, 55, [1], []),
  (55, .iload_n 3, 56, [3], []),
  (56, .invokevirtual 52, 59, [], []),
  (59, .ifCond .eq 38, 62, [97], []),
  (62, .aload_n 0, 63, [0], []),
  (63, .getfield 19, 66, [], []),
  (66, .iload 4, 68, [], []),
  (68, .iload_n 1, 69, [1], []),
  (69, .iload_n 3, 70, [3], []),
  (70, .invokevirtual 58, 73, [], []),
  (73, .ifCond .eq 18, 76, [91], []),
  (76, .aload_n 0, 77, [0], []),
  (77, .iload_n 1, 78, [1], []),
  (78, .iload_n 3, 79, [3], []),
  (79, .aload_n 0, 80, [0], []),
  (80, .getfield 19, 83, [], []),
  (83, .iload 4, 85, [], []),
  (85, .invokevirtual 62, 88, [], []),
  (88, .invokevirtual 66, 91, [], []),
  (91, .iinc 4 1, 94, [], [1]),
  (94, .goto (-51), 97, [43], []),
  (97, .iinc 3 1, 100, [], [1]),
  (100, .goto (-71), 103, [29], []),
  (103, .return_, 104, [], [])]
theorem zo_X6_reckon : ab_ok cX6_reckon zp_X6_reckon = true := by decide +kernel
def zg_X6_reckon : ab_G := (zw_C, zs_tab, zf_X6, zc_X6, [], [(48, 3, zt_X6_grow), (52, 3, zt_X10_lookedAt), (58, 4, zt_X10_looksAt), (62, 2, zt_X10_paceOf), (66, 4, zt_X6_look)], [(40, 2, zt_J7_fill_d0a16)])
theorem zm_X6_reckon : ab_MG zg_X6_reckon := ab_MGof (List.forall_mem_cons.mpr ⟨zt_X6_grow_mono, List.forall_mem_cons.mpr ⟨ab_pp_mono _, List.forall_mem_cons.mpr ⟨ab_pp_mono _, List.forall_mem_cons.mpr ⟨ab_pure_mono _, List.forall_mem_cons.mpr ⟨zt_X6_look_mono, List.forall_mem_nil _⟩⟩⟩⟩⟩) (List.forall_mem_cons.mpr ⟨zt_J7_fill_d0a16_mono, List.forall_mem_nil _⟩)
abbrev zr_X6_reckon (Q : ab_R) : ab_K := ab_Run zg_X6_reckon zp_X6_reckon none 5 Q
set_option maxRecDepth 20000 in
theorem zv_X6_reckon_0 {Q : ab_R} {M : ab_M} {N : ab_N} (l1 : Int32) (l2 : Int32) (h : zt_J7_fill_d0a16 [.ref 41, .long (0 : Int64)] M N (fun r M2 N2 => zr_X6_reckon Q 8 [some (.ref 7), some (.int l1), some (.int l2), none, none] (ab_ol r []) M2 N2)) : zr_X6_reckon Q 0 [some (.ref 7), some (.int l1), some (.int l2)] [] M N := ab_Run_s zm_X6_reckon (sp := [(8, [true, true, true, false, false]), (29, [true, true, true, true, false]), (40, [true, true, true, true, false]), (43, [true, true, true, true, true]), (91, [true, true, true, true, true])]) 57 h
set_option maxRecDepth 20000 in
theorem zv_X6_reckon_8 {Q : ab_R} {M : ab_M} {N : ab_N} (l1 : Int32) (l2 : Int32) (h : vp_in (0 : Int32) 7 ∧ (let y1 : Nat → Int64 := vp_updL (N 41) 0 (1000000000 : Int64); let y2 : Nat → Int64 := vp_updL (N 7) 4 (0 : Int64); let y3 : Nat → Int64 := vp_updL (y2) 5 (0 : Int64); zr_X6_reckon Q 29 [some (.ref 7), some (.int l1), some (.int l2), some (.int (0 : Int32)), none] [] M (ab_u (ab_u (ab_u N 41 y1) 7 y2) 7 y3))) : zr_X6_reckon Q 8 [some (.ref 7), some (.int l1), some (.int l2), none, none] [] M N := ab_Run_s zm_X6_reckon (sp := [(8, [true, true, true, false, false]), (29, [true, true, true, true, false]), (40, [true, true, true, true, false]), (43, [true, true, true, true, true]), (91, [true, true, true, true, true])]) 57 h
set_option maxRecDepth 20000 in
theorem zv_X6_reckon_29 {Q : ab_R} {M : ab_M} {N : ab_N} (l1 : Int32) (l2 : Int32) (l3 : Int32) (h : (l2 ≤ l3 → Q none M N) ∧ (¬ (l2 ≤ l3) → zt_X6_grow [.ref 7, .int l1, .int l3] M N (fun r M2 N2 => zr_X6_reckon Q 40 [some (.ref 7), some (.int l1), some (.int l2), some (.int l3), none] (ab_ol r []) M2 N2))) : zr_X6_reckon Q 29 [some (.ref 7), some (.int l1), some (.int l2), some (.int l3), none] [] M N := ab_Run_s zm_X6_reckon (sp := [(8, [true, true, true, false, false]), (29, [true, true, true, true, false]), (40, [true, true, true, true, false]), (43, [true, true, true, true, true]), (91, [true, true, true, true, true])]) 57 h
set_option maxRecDepth 20000 in
theorem zv_X6_reckon_40 {Q : ab_R} {M : ab_M} {N : ab_N} (l1 : Int32) (l2 : Int32) (l3 : Int32) (h : zr_X6_reckon Q 43 [some (.ref 7), some (.int l1), some (.int l2), some (.int l3), some (.int (0 : Int32))] [] M N) : zr_X6_reckon Q 40 [some (.ref 7), some (.int l1), some (.int l2), some (.int l3), none] [] M N := ab_Run_s zm_X6_reckon (sp := [(8, [true, true, true, false, false]), (29, [true, true, true, true, false]), (40, [true, true, true, true, false]), (43, [true, true, true, true, true]), (91, [true, true, true, true, true])]) 57 h
set_option maxRecDepth 20000 in
theorem zv_X6_reckon_43 {Q : ab_R} {M : ab_M} {N : ab_N} (l1 : Int32) (l2 : Int32) (l3 : Int32) (l4 : Int32) (h : ((8 : Int32) ≤ l4 → zr_X6_reckon Q 29 [some (.ref 7), some (.int l1), some (.int l2), some (.int (l3 + (1 : Int32))), none] [] M N) ∧ (¬ ((8 : Int32) ≤ l4) → (vp_in (l3 * 8 + l1) 96) ∧ (((ab_b (¬ (M 38) (l3 * 8 + l1).toNatClampNeg = 0)) = 0 → zr_X6_reckon Q 29 [some (.ref 7), some (.int l1), some (.int l2), some (.int (l3 + (1 : Int32))), none] [] M N) ∧ (¬ ((ab_b (¬ (M 38) (l3 * 8 + l1).toNatClampNeg = 0)) = 0) → (vp_in (l3 * 8 + l1) 96) ∧ (((ab_b (¬ ((M 38) (l3 * 8 + l1).toNatClampNeg >>> (l4 &&& 31)) &&& 1 = 0)) = 0 → zr_X6_reckon Q 91 [some (.ref 7), some (.int l1), some (.int l2), some (.int l3), some (.int l4)] [] M N) ∧ (¬ ((ab_b (¬ ((M 38) (l3 * 8 + l1).toNatClampNeg >>> (l4 &&& 31)) &&& 1 = 0)) = 0) → zt_X6_look [.ref 7, .int l1, .int l3, .int (if 0 ≤ l4 ∧ l4 < (M 2) 6 ∧ l4 < 5 then (M 28) l4.toNatClampNeg else if l4 = 7 then 1 else 0)] M N (fun r M2 N2 => zr_X6_reckon Q 91 [some (.ref 7), some (.int l1), some (.int l2), some (.int l3), some (.int l4)] (ab_ol r []) M2 N2))))))) : zr_X6_reckon Q 43 [some (.ref 7), some (.int l1), some (.int l2), some (.int l3), some (.int l4)] [] M N := ab_Run_s zm_X6_reckon (sp := [(8, [true, true, true, false, false]), (29, [true, true, true, true, false]), (40, [true, true, true, true, false]), (43, [true, true, true, true, true]), (91, [true, true, true, true, true])]) 57 h
set_option maxRecDepth 20000 in
theorem zv_X6_reckon_91 {Q : ab_R} {M : ab_M} {N : ab_N} (l1 : Int32) (l2 : Int32) (l3 : Int32) (l4 : Int32) (h : zr_X6_reckon Q 43 [some (.ref 7), some (.int l1), some (.int l2), some (.int l3), some (.int (l4 + (1 : Int32)))] [] M N) : zr_X6_reckon Q 91 [some (.ref 7), some (.int l1), some (.int l2), some (.int l3), some (.int l4)] [] M N := ab_Run_s zm_X6_reckon (sp := [(8, [true, true, true, false, false]), (29, [true, true, true, true, false]), (40, [true, true, true, true, false]), (43, [true, true, true, true, true]), (91, [true, true, true, true, true])]) 57 h
theorem zPace_le {M : ab_M} (h1 : zI1 M) (w : Nat) : zPace M w ≤ 3 := by
  unfold zPace
  split
  · rename_i c
    obtain ⟨-, -, -, g, -⟩ := h1 w c
    exact (zNat 3 3 (by grind) g.2).2
  · split <;> omega
section ZRk
variable {Q : ab_R} {M0 : ab_M} {N0 : ab_N}
theorem zL_X6_reckon_w (hN : zNight M0) (hW : zWalked M0) (q g hrs : Nat) (s0 : zRs) (hq : q < zPcs M0) (hg : g < zHrs M0) (kk : ∀ M N, zFr [33, 35, 36] M0 M → zAsks M → zNfr [7, 41] N0 N → zHas N (zLooks M0 q g ((zWk M0 g).2.2.2 q) 8 s0) → zr_X6_reckon Q 29 [some (.ref 7), some (.int (nI q)), some (.int (nI hrs)), some (.int (nI (g + 1))), none] [] M N) :
    ∀ (n w : Nat) (M : ab_M) (N : ab_N), w + n = 8 → zFr [33, 35, 36] M0 M → zAsks M → zNfr [7, 41] N0 N → zHas N (zLooks M0 q g ((zWk M0 g).2.2.2 q) w s0) → zr_X6_reckon Q 43 [some (.ref 7), some (.int (nI q)), some (.int (nI hrs)), some (.int (nI g)), some (.int (nI w))] [] M N := by
  obtain ⟨hA0, h0, h1⟩ := id hN
  obtain ⟨hP, hP8⟩ := zP_eq h0
  obtain ⟨hMe, hM5⟩ := zM_eq h0
  obtain ⟨hHe, hH12⟩ := zH_eq h0
  intro n
  induction n with
  | zero =>
    intro w M N hw hF hA hNf hH
    have ew : w = 8 := by omega
    subst ew
    refine zv_X6_reckon_43 _ _ _ _ ⟨fun _ => ?_, fun c => absurd (show nI 8 ≤ nI 8 from nI_le (by omega) (by omega)) c⟩
    rw [nI_1]
    exact kk M N hF hA hNf hH
  | succ n ih =>
    intro w M N hw hF hA hNf hH
    refine zv_X6_reckon_43 _ _ _ _ ⟨fun c => absurd c (show ¬ nI 8 ≤ nI w from nI_ge (by omega) (by omega)), fun _ => ?_⟩
    have ei : nI g * 8 + nI q = nI (g * 8 + q) := by rw [zN_mul g 8 8, nI_add]
    have e38 : M 38 (g * 8 + q) = (zWk M0 g).2.2.2 q := by rw [hF 38 (by decide)]; exact ((hW g hg).2 q hq).2
    rw [ei, nI_clamp (show g * 8 + q < 2 ^ 31 by omega), e38, nI_1]
    have hv : vp_in (nI (g * 8 + q)) 96 := nI_in_ (by omega)
    refine ⟨hv, fun c => ?_, fun c => ⟨hv, fun c2 => ?_, fun c2 => ?_⟩⟩
    · have c3 : (zWk M0 g).2.2.2 q = 0 := Decidable.not_not.mp (ab_b_0.mp c)
      refine kk M N hF hA hNf ?_
      have e8 : ∀ j, zLooks M0 q g ((zWk M0 g).2.2.2 q) j s0 = s0 := by
        intro j
        induction j with
        | zero => rfl
        | succ j ih2 =>
          unfold zLooks
          rw [if_neg, ih2]
          rw [c3]
          intro z
          apply z
          simp
      rw [e8] at hH ⊢
      exact hH
    · have c3 : ¬ zBit ((zWk M0 g).2.2.2 q) w := ab_b_0.mp c2
      refine zv_X6_reckon_91 _ _ _ _ ?_
      rw [nI_1]
      refine ih (w + 1) M N (by omega) hF hA hNf ?_
      unfold zLooks
      rw [if_neg c3]
      exact hH
    · have c3 : zBit ((zWk M0 g).2.2.2 q) w := Decidable.not_not.mp (fun z => c2 (ab_b_0.mpr z))
      have hp3 := zPace_le h1 w
      have ep : (if 0 ≤ nI w ∧ nI w < (M 2) 6 ∧ nI w < 5 then (M 28) (nI w).toNatClampNeg else if nI w = 7 then 1 else 0) = nI (zPace M0 w) := by
        rw [hF 2 (by decide), hF 28 (by decide), nI_clamp (show w < 2 ^ 31 by omega), hMe]
        unfold zPace
        by_cases c4 : w < zMen M0
        · rw [if_pos ⟨nI_pos' (by omega), nI_lt c4 (by omega), nI_lt (a := w) (b := 5) (by omega) (by omega)⟩, if_pos c4]
          obtain ⟨-, -, -, g4, -⟩ := h1 w c4
          exact (zNat 3 3 (by grind) g4.2).1
        · rw [if_neg (fun z => c4 ((nI_ltI (by omega) (by omega)).mp z.2.1)), if_neg c4]
          by_cases c5 : w = 7
          · rw [c5]; rfl
          · have c6 : ¬ nI w = 7 := fun z => c5 ((nI_eq (by omega) (by omega)).mp (show nI w = nI 7 from z))
            simp only [c5, c6, if_false]; rfl
      rw [ep]
      refine ab_m3_i ⟨zNight_fr hN hA hF, q, g, zPace M0 w, by rw [zPcs_fr hF]; exact hq, by omega, hp3, rfl, rfl, rfl⟩ ?_
      rintro o M2 N2 ⟨rfl, hF2, hA2, hNf2, hS2⟩
      have hS3 := hS2 _ hH
      rw [zLook_fr hF, zBrk_fr hF, nI_clamp (show q < 2 ^ 31 by omega), nI_clamp (show g < 2 ^ 31 by omega), nI_clamp (show zPace M0 w < 2 ^ 31 by omega)] at hS3
      refine zv_X6_reckon_91 _ _ _ _ ?_
      rw [nI_1]
      refine ih (w + 1) M2 N2 (by omega) (zFr_tr hF hF2) hA2 (zNfr_tr hNf hNf2) ?_
      unfold zLooks
      rw [if_pos c3]
      exact hS3
theorem zL_X6_reckon_h (hN : zNight M0) (hW : zWalked M0) (q hrs : Nat) (hq : q < zPcs M0) (hh : hrs ≤ zHrs M0) (kk : ∀ M N, zFr [33, 35, 36] M0 M → zAsks M → zNfr [7, 41] N0 N → zHas N (zRk M0 q hrs) → Q none M N) :
    ∀ (n g : Nat) (M : ab_M) (N : ab_N), g + n = hrs → zFr [33, 35, 36] M0 M → zAsks M → zNfr [7, 41] N0 N → zHas N (zRk M0 q g) → zr_X6_reckon Q 29 [some (.ref 7), some (.int (nI q)), some (.int (nI hrs)), some (.int (nI g)), none] [] M N := by
  obtain ⟨hA0, h0, h1⟩ := id hN
  obtain ⟨hP, hP8⟩ := zP_eq h0
  obtain ⟨hHe, hH12⟩ := zH_eq h0
  intro n
  induction n with
  | zero =>
    intro g M N hg hF hA hNf hH
    have eg : g = hrs := by omega
    subst eg
    exact zv_X6_reckon_29 _ _ _ ⟨fun _ => kk M N hF hA hNf hH, fun c => absurd (nI_le (by omega) (by omega)) c⟩
  | succ n ih =>
    intro g M N hg hF hA hNf hH
    refine zv_X6_reckon_29 _ _ _ ⟨fun c => absurd c (nI_ge (by omega) (by omega)), fun _ => ?_⟩
    have e39 : M 39 (g * 8 + q) = nI (zSc M0 g q) := by rw [hF 39 (by decide)]; exact ((hW g (by omega)).2 q hq).1
    have hsc := zSc_le M0 q g
    refine ab_m2_i ⟨zNight_fr hN hA hF, q, g, zSc M0 g q, by rw [zPcs_fr hF]; exact hq, by omega, rfl, rfl, by omega, e39⟩ ?_
    rintro o M2 N2 ⟨rfl, hF2, hA2, hNf2, hS2⟩
    have hS3 := hS2 _ hH
    rw [zGrow_fr hF, nI_clamp (show q < 2 ^ 31 by omega), nI_clamp (show g < 2 ^ 31 by omega), e39, nI_clamp (by omega)] at hS3
    refine zv_X6_reckon_40 _ _ _ ?_
    exact zL_X6_reckon_w hN hW q g hrs _ hq (by omega) (fun M3 N3 hF3 hA3 hNf3 hH3 => ih (g + 1) M3 N3 (by omega) hF3 hA3 hNf3 hH3) 8 0 M2 N2 (by omega) (zFr_tr hF hF2) hA2 (zNfr_tr hNf hNf2) hS3
end ZRk
theorem zE_X6_reckon (as : List Value) (M : ab_M) (N : ab_N) (k : ab_R) (hT : zt_X6_reckon as M N k) : ab_cs as ≤ 5 ∧ zr_X6_reckon k 0 (ab_en as) [] M N := by
  obtain ⟨p, h, rfl, ⟨hN, hW, q, g, hq, hg, rfl, rfl⟩, hk⟩ := ab_m2_e hT
  have hP := zP_eq hN.2.1
  have hH := zH_eq hN.2.1
  rw [nI_clamp (show q < 2 ^ 31 by omega), nI_clamp (show g < 2 ^ 31 by omega)] at hk
  refine ⟨Nat.le_of_ble_eq_true rfl, zv_X6_reckon_0 _ _ ⟨rfl, fun f hf => zv_X6_reckon_8 _ _ ⟨ab_vpk (by decide), ?_⟩⟩⟩
  intro y1 y2 y3
  refine zL_X6_reckon_h hN hW q g hq hg (fun M2 N2 hF hA hNf hS => hk none M2 N2 ⟨rfl, hF, hA, hNf, hS⟩) g 0 M _ (by omega) (zFr_rf _ _) hN.1 (zNfr_u (zNfr_u (zNfr_u (zNfr_u (zNfr_rf _ _) (by decide) _) (by decide) _) (by decide) _) (by decide) _) ⟨fun j hj => ?_, ?_, ?_⟩
  · show y1 j = _
    show vp_updL (ab_u N 41 f 41) 0 1000000000 j = if j = 0 then 1000000000 else 0
    rw [ab_u_eq]
    by_cases e : j = 0
    · rw [e, updL_eq, if_pos rfl]
    · rw [updL_ne _ _ e, if_neg e, hf j hj]
  · show y3 4 = 0
    show vp_updL y2 5 0 4 = 0
    rw [updL_ne _ _ (by decide)]
    show vp_updL _ 4 0 4 = 0
    rw [updL_eq]
  · show y3 5 = 0
    show vp_updL y2 5 0 5 = 0
    rw [updL_eq]
abbrev zR_X6_reckon : Room := { frames := 4, cells := 0, slots := 0, locals := 106 }
set_option maxRecDepth 20000 in
theorem zM_X6_reckon (l : Launch) : ab_Met l zw_C vwCl zZ_C yX6_reckon cX6_reckon 5 none zR_X6_reckon zt_X6_reckon := ab_ofRun (G := zg_X6_reckon) (P := zp_X6_reckon) rfl zo_X6_reckon (by decide +kernel) zl_cl zl_lamC zf_X6_ok zs_tabOK zc_X6_ok ab_Sta_nil (List.forall_mem_cons.mpr ⟨ab_callV zZ_C_ok (zM_X6_grow l) (ab_in 745 (by decide +kernel) rfl) (ab_in 742 (by decide +kernel) rfl) (ab_in 744 (by decide +kernel) rfl) (ab_inS (List.mem_of_getElem? (i := 19) (by decide +kernel)) rfl) (ab_in 8 (by decide +kernel) rfl) (by unfold ab_yok; decide +kernel) ⟨rfl, rfl⟩ (by decide) zV_X6_grow, List.forall_mem_cons.mpr ⟨ab_callV zZ_C_ok (zM_X10_lookedAt l) (ab_in 662 (by decide +kernel) rfl) (ab_in 749 (by decide +kernel) rfl) (ab_in 660 (by decide +kernel) rfl) (ab_in 661 (by decide +kernel) rfl) (ab_in 7 (by decide +kernel) rfl) (by unfold ab_yok; decide +kernel) ⟨rfl, rfl⟩ (by decide) zV_X10_lookedAt, List.forall_mem_cons.mpr ⟨ab_callV zZ_C_ok (zM_X10_looksAt l) (ab_in 753 (by decide +kernel) rfl) (ab_in 750 (by decide +kernel) rfl) (ab_in 751 (by decide +kernel) rfl) (ab_in 752 (by decide +kernel) rfl) (ab_in 7 (by decide +kernel) rfl) (by unfold ab_yok; decide +kernel) ⟨rfl, rfl⟩ (by decide) zV_X10_looksAt, List.forall_mem_cons.mpr ⟨ab_callV zZ_C_ok (zM_X10_paceOf l) (ab_in 757 (by decide +kernel) rfl) (ab_in 754 (by decide +kernel) rfl) (ab_in 755 (by decide +kernel) rfl) (ab_in 756 (by decide +kernel) rfl) (ab_in 7 (by decide +kernel) rfl) (by unfold ab_yok; decide +kernel) ⟨rfl, rfl⟩ (by decide) zV_X10_paceOf, List.forall_mem_cons.mpr ⟨ab_callV zZ_C_ok (zM_X6_look l) (ab_in 762 (by decide +kernel) rfl) (ab_in 759 (by decide +kernel) rfl) (ab_in 761 (by decide +kernel) rfl) (ab_inS (List.mem_of_getElem? (i := 20) (by decide +kernel)) rfl) (ab_in 8 (by decide +kernel) rfl) (by unfold ab_yok; decide +kernel) ⟨rfl, rfl⟩ (by decide) zV_X6_look, List.forall_mem_nil _⟩⟩⟩⟩⟩) (List.forall_mem_cons.mpr ⟨ab_callS zZ_C_ok (zM_J7_fill_d0a16 l) (ab_in 740 (by decide +kernel) rfl) (ab_in 738 (by decide +kernel) rfl) (ab_in 739 (by decide +kernel) rfl) (ab_in 19 (by decide +kernel) rfl) (by unfold ab_yok; decide +kernel) ⟨rfl, rfl⟩ (by decide), List.forall_mem_nil _⟩) zE_X6_reckon
