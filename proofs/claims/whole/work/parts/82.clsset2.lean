/-! night, water, force, pace, lamp, call *)
-/
abbrev zNiV (w v : Int32) : Prop := (w = 0 ∧ 1 ≤ v ∧ v ≤ 12) ∨ (w = 1 ∧ 2 ≤ v ∧ v ≤ 6) ∨ (w = 2 ∧ 0 ≤ v ∧ v ≤ 9) ∨ (w = 3 ∧ 0 ≤ v ∧ v ≤ 8) ∨ (w = 4 ∧ 0 ≤ v ∧ v ≤ 12)
def zNiA (R : Nat → Int32) (w v : Int32) : Int32 := if zNiV w v then R w.toNatClampNeg else if 0 ≤ w ∧ w ≤ 4 then -2 else -1
def zNiC (M : ab_M) (w v : Int32) : ab_M := if zNiV w v then zFg (ab_u M 17 (upd (M 17) w.toNatClampNeg v)) else M
def zNiR (M : ab_M) (w v : Int32) : ab_M := if zNiV w v then ab_u M 0 (upd (M 0) w.toNatClampNeg v) else M
theorem zNiV_w {w v : Int32} (h : zNiV w v) : 0 ≤ w ∧ w ≤ 4 := by
  rcases h with ⟨rfl, -⟩ | ⟨rfl, -⟩ | ⟨rfl, -⟩ | ⟨rfl, -⟩ | ⟨rfl, -⟩ <;> decide
theorem zNiV_n {v : Int32} : ∀ j : Nat, j ≤ 4 → (zNiV (nI j) v ↔ zs_LEAST_OF_NIGHT j ≤ v ∧ v ≤ zs_MOST_OF_NIGHT j) := by
  intro j hj
  have q : ∀ a b : Nat, a < 5 → b < 5 → ¬ a = b → ¬ nI a = nI b := fun a b ha hb h z => h ((nI_eq (by omega) (by omega)).mp z)
  rcases (show j = 0 ∨ j = 1 ∨ j = 2 ∨ j = 3 ∨ j = 4 by omega) with rfl | rfl | rfl | rfl | rfl
  · constructor
    · rintro (⟨-, h⟩ | ⟨h, -⟩ | ⟨h, -⟩ | ⟨h, -⟩ | ⟨h, -⟩)
      · exact h
      · exact absurd h (q 0 1 (by decide) (by decide) (by decide))
      · exact absurd h (q 0 2 (by decide) (by decide) (by decide))
      · exact absurd h (q 0 3 (by decide) (by decide) (by decide))
      · exact absurd h (q 0 4 (by decide) (by decide) (by decide))
    · exact fun h => Or.inl ⟨rfl, h⟩
  · constructor
    · rintro (⟨h, -⟩ | ⟨-, h⟩ | ⟨h, -⟩ | ⟨h, -⟩ | ⟨h, -⟩)
      · exact absurd h (q 1 0 (by decide) (by decide) (by decide))
      · exact h
      · exact absurd h (q 1 2 (by decide) (by decide) (by decide))
      · exact absurd h (q 1 3 (by decide) (by decide) (by decide))
      · exact absurd h (q 1 4 (by decide) (by decide) (by decide))
    · exact fun h => Or.inr (Or.inl ⟨rfl, h⟩)
  · constructor
    · rintro (⟨h, -⟩ | ⟨h, -⟩ | ⟨-, h⟩ | ⟨h, -⟩ | ⟨h, -⟩)
      · exact absurd h (q 2 0 (by decide) (by decide) (by decide))
      · exact absurd h (q 2 1 (by decide) (by decide) (by decide))
      · exact h
      · exact absurd h (q 2 3 (by decide) (by decide) (by decide))
      · exact absurd h (q 2 4 (by decide) (by decide) (by decide))
    · exact fun h => Or.inr (Or.inr (Or.inl ⟨rfl, h⟩))
  · constructor
    · rintro (⟨h, -⟩ | ⟨h, -⟩ | ⟨h, -⟩ | ⟨-, h⟩ | ⟨h, -⟩)
      · exact absurd h (q 3 0 (by decide) (by decide) (by decide))
      · exact absurd h (q 3 1 (by decide) (by decide) (by decide))
      · exact absurd h (q 3 2 (by decide) (by decide) (by decide))
      · exact h
      · exact absurd h (q 3 4 (by decide) (by decide) (by decide))
    · exact fun h => Or.inr (Or.inr (Or.inr (Or.inl ⟨rfl, h⟩)))
  · constructor
    · rintro (⟨h, -⟩ | ⟨h, -⟩ | ⟨h, -⟩ | ⟨h, -⟩ | ⟨-, h⟩)
      · exact absurd h (q 4 0 (by decide) (by decide) (by decide))
      · exact absurd h (q 4 1 (by decide) (by decide) (by decide))
      · exact absurd h (q 4 2 (by decide) (by decide) (by decide))
      · exact absurd h (q 4 3 (by decide) (by decide) (by decide))
      · exact h
    · exact fun h => Or.inr (Or.inr (Or.inr (Or.inr (⟨rfl, h⟩))))
def zt_X11_night : ab_T := ab_m2 0 (fun _ _ _ _ => True) (fun w v M N o M2 N2 => N2 = N ∧ M2 = zNiC M w v ∧ o = some (.int (zNiA (M 17) w v)))
theorem zt_X11_night_mono : ab_mono zt_X11_night := ab_m2_mono _ _ _
theorem zV_X11_night : ab_recv zw_C vwCl RX11 zt_X11_night := ab_m2_v rfl rfl
def zp_X11_night : ab_P := [(0, .iload_n 1, 1, [1], []),
  (1, .iconst 0, 2, [], [0]),
  (2, .iconst 4, 3, [], [4]),
  (3, .invokestatic 117, 6, [], []),
  (6, .ifCond .ne 5, 9, [11], []),
  (9, .iconst (-1), 10, [], [(-1)]),
  (10, .ireturn, 11, [], []),
  (11, .iload_n 2, 12, [2], []),
  (12, .getstatic 144, 15, [], []),
  (15, .iload_n 1, 16, [1], []),
  (16, .iaload, 17, [], []),
  (17, .getstatic 147, 20, [], []),
  (20, .iload_n 1, 21, [1], []),
  (21, .iaload, 22, [], []),
  (22, .invokestatic 117, 25, [], []),
  (25, .ifCond .ne 6, 28, [31], []),
  (28, .bipush (-2), 30, [], [(-2)]),
  (30, .ireturn, 31, [], []),
  (31, .aload_n 0, 32, [0], []),
  (32, .getfield 10, 35, [], []),
  (35, .getfield 150, 38, [], []),
  (38, .iload_n 1, 39, [1], []),
  (39, .iaload, 40, [], []),
  (40, .istore_n 3, 41, [3], []),
  (41, .aload_n 0, 42, [0], []),
  (42, .getfield 10, 45, [], []),
  (45, .getfield 150, 48, [], []),
  (48, .iload_n 1, 49, [1], []),
  (49, .iload_n 2, 50, [2], []),
  (50, .iastore, 51, [], []),
  (51, .aload_n 0, 52, [0], []),
  (52, .getfield 44, 55, [], []),
  (55, .invokevirtual 124, 58, [], []),
  (58, .iload_n 3, 59, [3], []),
  (59, .ireturn, 60, [], [])]
theorem zo_X11_night : ab_ok cX11_night zp_X11_night = true := by decide +kernel
def zg_X11_night : ab_G := (zw_C, zs_tab, zf_X11, zc_X11, [(144, 50), (147, 51)], [(124, 1, zt_X1_forget)], [(117, 3, zt_X11_within)])
theorem zm_X11_night : ab_MG zg_X11_night := ab_MGof (List.forall_mem_cons.mpr ⟨zt_X1_forget_mono, List.forall_mem_nil _⟩) (List.forall_mem_cons.mpr ⟨ab_pure_mono _, List.forall_mem_nil _⟩)
abbrev zr_X11_night (Q : ab_R) : ab_K := ab_Run zg_X11_night zp_X11_night (some .int) 4 Q
set_option maxRecDepth 20000 in
theorem zv_X11_night_0 {Q : ab_R} {M : ab_M} {N : ab_N} (l1 : Int32) (l2 : Int32) (h : ((ab_b ((0 : Int32) ≤ l1 ∧ l1 ≤ (4 : Int32))) = 0 → Q (some (.int (-1 : Int32))) M N) ∧ (¬ ((ab_b ((0 : Int32) ≤ l1 ∧ l1 ≤ (4 : Int32))) = 0) → vp_in l1 5 ∧ (vp_in l1 5 ∧ (((ab_b ((zs_LEAST_OF_NIGHT l1.toNatClampNeg) ≤ l2 ∧ l2 ≤ (zs_MOST_OF_NIGHT l1.toNatClampNeg))) = 0 → Q (some (.int (-2 : Int32))) M N) ∧ (¬ ((ab_b ((zs_LEAST_OF_NIGHT l1.toNatClampNeg) ≤ l2 ∧ l2 ≤ (zs_MOST_OF_NIGHT l1.toNatClampNeg))) = 0) → vp_in l1 5 ∧ (vp_in l1 5 ∧ (let z1 : Nat → Int32 := upd (M 17) l1.toNatClampNeg l2; zt_X1_forget [.ref 5] (ab_u M 17 z1) N (fun r M2 N2 => zr_X11_night Q 58 [none, none, none, some (.int (M 17 l1.toNatClampNeg))] (ab_ol r []) M2 N2)))))))) : zr_X11_night Q 0 [some (.ref 0), some (.int l1), some (.int l2)] [] M N := ab_Run_s zm_X11_night (sp := [(58, [false, false, false, true])]) 37 h
set_option maxRecDepth 20000 in
theorem zv_X11_night_58 {Q : ab_R} {M : ab_M} {N : ab_N} (l3 : Int32) (h : Q (some (.int l3)) M N) : zr_X11_night Q 58 [none, none, none, some (.int l3)] [] M N := ab_Run_s zm_X11_night (sp := [(58, [false, false, false, true])]) 37 h
theorem zE_X11_night (as : List Value) (M : ab_M) (N : ab_N) (k : ab_R) (hT : zt_X11_night as M N k) : ab_cs as ≤ 4 ∧ zr_X11_night k 0 (ab_en as) [] M N := by
  obtain ⟨w, v, rfl, -, hk⟩ := ab_m2_e hT
  have hk := hk _ _ _ ⟨rfl, rfl, rfl⟩
  unfold zNiC zNiA at hk
  refine ⟨Nat.le_of_ble_eq_true rfl, zv_X11_night_0 _ _ ⟨fun c => ?_, fun c => ?_⟩⟩
  · have nv : ¬ zNiV w v := fun z => ab_b_0.mp c (zNiV_w z)
    rw [if_neg nv, if_neg nv, if_neg (ab_b_0.mp c)] at hk
    exact hk
  · have c := zIx0 c
    obtain ⟨j, y, rfl⟩ := zIxM (n := 4) (by decide) c
    have hin : vp_in (nI j) 5 := nI_in_ (by omega)
    have cj : (nI j).toNatClampNeg = j := nI_clamp (by omega)
    rw [cj] at hk ⊢
    refine ⟨hin, hin, fun c2 => ?_, fun c2 => ⟨hin, hin, ?_⟩⟩
    · have nv : ¬ zNiV (nI j) v := fun z => ab_b_0.mp c2 ((zNiV_n j y).mp z)
      rw [if_neg nv, if_neg nv, if_pos c] at hk
      exact hk
    · have pv : zNiV (nI j) v := (zNiV_n j y).mpr (zIx0 c2)
      rw [if_pos pv, if_pos pv] at hk
      exact zFgC (zv_X11_night_58 _ hk)
abbrev zR_X11_night : Room := { frames := 1, cells := 0, slots := 0, locals := 22 }
set_option maxRecDepth 20000 in
theorem zM_X11_night (l : Launch) : ab_Met l zw_C vwCl zZ_C yX11_night cX11_night 4 (some .int) zR_X11_night zt_X11_night := ab_ofRun (G := zg_X11_night) (P := zp_X11_night) rfl zo_X11_night (by decide +kernel) zl_cl zl_lamC zf_X11_ok zs_tabOK zc_X11_ok zs_X11_ok (List.forall_mem_cons.mpr ⟨ab_callV zZ_C_ok (zM_X1_forget l) (ab_in 542 (by decide +kernel) rfl) (ab_in 539 (by decide +kernel) rfl) (ab_in 540 (by decide +kernel) rfl) (ab_in 541 (by decide +kernel) rfl) (ab_in 6 (by decide +kernel) rfl) (by unfold ab_yok; decide +kernel) ⟨rfl, rfl⟩ (by decide) zV_X1_forget, List.forall_mem_nil _⟩) (List.forall_mem_cons.mpr ⟨ab_callS zZ_C_ok (zM_X11_within l) (ab_in 538 (by decide +kernel) rfl) (ab_in 536 (by decide +kernel) rfl) (ab_in 537 (by decide +kernel) rfl) (ab_in 1 (by decide +kernel) rfl) (by unfold ab_yok; decide +kernel) ⟨rfl, rfl⟩ (by decide), List.forall_mem_nil _⟩) zE_X11_night
def zp_X12_night : ab_P := [(0, .iload_n 1, 1, [1], []),
  (1, .iconst 0, 2, [], [0]),
  (2, .iconst 4, 3, [], [4]),
  (3, .invokestatic 175, 6, [], []),
  (6, .ifCond .ne 5, 9, [11], []),
  (9, .iconst (-1), 10, [], [(-1)]),
  (10, .ireturn, 11, [], []),
  (11, .iload_n 1, 12, [1], []),
  (12, .ifCond .ne 13, 15, [25], []),
  (15, .iload_n 2, 16, [2], []),
  (16, .iconst 1, 17, [], [1]),
  (17, .bipush 12, 19, [], [12]),
  (19, .invokestatic 175, 22, [], []),
  (22, .goto 45, 25, [67], []),
  (25, .iload_n 1, 26, [1], []),
  (26, .iconst 1, 27, [], [1]),
  (27, .if_icmp .ne 13, 30, [40], []),
  (30, .iload_n 2, 31, [2], []),
  (31, .iconst 2, 32, [], [2]),
  (32, .bipush 6, 34, [], [6]),
  (34, .invokestatic 175, 37, [], []),
  (37, .goto 30, 40, [67], []),
  (40, .iload_n 2, 41, [2], []),
  (41, .iconst 0, 42, [], [0]),
  (42, .iload_n 1, 43, [1], []),
  (43, .iconst 2, 44, [], [2]),
  (44, .if_icmp .ne 8, 47, [52], []),
  (47, .bipush 9, 49, [], [9]),
  (49, .goto 15, 52, [64], []),
  (52, .iload_n 1, 53, [1], []),
  (53, .iconst 3, 54, [], [3]),
  (54, .if_icmp .ne 8, 57, [62], []),
  (57, .bipush 8, 59, [], [8]),
  (59, .goto 5, 62, [64], []),
  (62, .bipush 12, 64, [], [12]),
  (64, .invokestatic 175, 67, [], []),
  (67, .istore_n 3, 68, [3], []),
  (68, .iload_n 3, 69, [3], []),
  (69, .ifCond .ne 6, 72, [75], []),
  (72, .bipush (-2), 74, [], [(-2)]),
  (74, .ireturn, 75, [], []),
  (75, .aload_n 0, 76, [0], []),
  (76, .iload_n 1, 77, [1], []),
  (77, .invokevirtual 186, 80, [], []),
  (80, .istore 4, 82, [], []),
  (82, .aload_n 0, 83, [0], []),
  (83, .iload_n 1, 84, [1], []),
  (84, .ifCond .ne 7, 87, [91], []),
  (87, .iload_n 2, 88, [2], []),
  (88, .goto 7, 91, [95], []),
  (91, .aload_n 0, 92, [0], []),
  (92, .getfield 7, 95, [], []),
  (95, .putfield 7, 98, [], []),
  (98, .aload_n 0, 99, [0], []),
  (99, .iload_n 1, 100, [1], []),
  (100, .iconst 1, 101, [], [1]),
  (101, .if_icmp .ne 7, 104, [108], []),
  (104, .iload_n 2, 105, [2], []),
  (105, .goto 7, 108, [112], []),
  (108, .aload_n 0, 109, [0], []),
  (109, .getfield 13, 112, [], []),
  (112, .putfield 13, 115, [], []),
  (115, .aload_n 0, 116, [0], []),
  (116, .iload_n 1, 117, [1], []),
  (117, .iconst 2, 118, [], [2]),
  (118, .if_icmp .ne 7, 121, [125], []),
  (121, .iload_n 2, 122, [2], []),
  (122, .goto 7, 125, [129], []),
  (125, .aload_n 0, 126, [0], []),
  (126, .getfield 190, 129, [], []),
  (129, .putfield 190, 132, [], []),
  (132, .aload_n 0, 133, [0], []),
  (133, .iload_n 1, 134, [1], []),
  (134, .iconst 3, 135, [], [3]),
  (135, .if_icmp .ne 7, 138, [142], []),
  (138, .iload_n 2, 139, [2], []),
  (139, .goto 7, 142, [146], []),
  (142, .aload_n 0, 143, [0], []),
  (143, .getfield 16, 146, [], []),
  (146, .putfield 16, 149, [], []),
  (149, .aload_n 0, 150, [0], []),
  (150, .iload_n 1, 151, [1], []),
  (151, .iconst 4, 152, [], [4]),
  (152, .if_icmp .ne 7, 155, [159], []),
  (155, .iload_n 2, 156, [2], []),
  (156, .goto 7, 159, [163], []),
  (159, .aload_n 0, 160, [0], []),
  (160, .getfield 19, 163, [], []),
  (163, .putfield 19, 166, [], []),
  (166, .iload 4, 168, [], []),
  (168, .ireturn, 169, [], [])]
theorem zo_X12_night : ab_ok cX12_night zp_X12_night = true := by decide +kernel
def zg_X12_night : ab_G := (zw_M, [], zf_X12, zc_X12, [], [(186, 2, zt_X12_count)], [(175, 3, zt_X12_in)])
theorem zm_X12_night : ab_MG zg_X12_night := ab_MGof (List.forall_mem_cons.mpr ⟨zt_X12_count_mono, List.forall_mem_nil _⟩) (List.forall_mem_cons.mpr ⟨ab_pure_mono _, List.forall_mem_nil _⟩)
abbrev zr_X12_night (Q : ab_R) : ab_K := ab_Run zg_X12_night zp_X12_night (some .int) 5 Q
set_option maxRecDepth 20000 in
theorem zv_X12_night_0 {Q : ab_R} {M : ab_M} {N : ab_N} (l1 : Int32) (l2 : Int32) (h : ((ab_b ((0 : Int32) ≤ l1 ∧ l1 ≤ (4 : Int32))) = 0 → Q (some (.int (-1 : Int32))) M N) ∧ (¬ ((ab_b ((0 : Int32) ≤ l1 ∧ l1 ≤ (4 : Int32))) = 0) → (l1 = 0 → ((ab_b ((1 : Int32) ≤ l2 ∧ l2 ≤ (12 : Int32))) = 0 → Q (some (.int (-2 : Int32))) M N) ∧ (¬ ((ab_b ((1 : Int32) ≤ l2 ∧ l2 ≤ (12 : Int32))) = 0) → zt_X12_count [.ref 0, .int l1] M N (fun r M2 N2 => zr_X12_night Q 80 [some (.ref 0), some (.int l1), some (.int l2), none, none] (ab_ol r []) M2 N2))) ∧ (¬ (l1 = 0) → (l1 = (1 : Int32) → ((ab_b ((2 : Int32) ≤ l2 ∧ l2 ≤ (6 : Int32))) = 0 → Q (some (.int (-2 : Int32))) M N) ∧ (¬ ((ab_b ((2 : Int32) ≤ l2 ∧ l2 ≤ (6 : Int32))) = 0) → zt_X12_count [.ref 0, .int l1] M N (fun r M2 N2 => zr_X12_night Q 80 [some (.ref 0), some (.int l1), some (.int l2), none, none] (ab_ol r []) M2 N2))) ∧ (¬ (l1 = (1 : Int32)) → (l1 = (2 : Int32) → ((ab_b ((0 : Int32) ≤ l2 ∧ l2 ≤ (9 : Int32))) = 0 → Q (some (.int (-2 : Int32))) M N) ∧ (¬ ((ab_b ((0 : Int32) ≤ l2 ∧ l2 ≤ (9 : Int32))) = 0) → zt_X12_count [.ref 0, .int l1] M N (fun r M2 N2 => zr_X12_night Q 80 [some (.ref 0), some (.int l1), some (.int l2), none, none] (ab_ol r []) M2 N2))) ∧ (¬ (l1 = (2 : Int32)) → (l1 = (3 : Int32) → ((ab_b ((0 : Int32) ≤ l2 ∧ l2 ≤ (8 : Int32))) = 0 → Q (some (.int (-2 : Int32))) M N) ∧ (¬ ((ab_b ((0 : Int32) ≤ l2 ∧ l2 ≤ (8 : Int32))) = 0) → zt_X12_count [.ref 0, .int l1] M N (fun r M2 N2 => zr_X12_night Q 80 [some (.ref 0), some (.int l1), some (.int l2), none, none] (ab_ol r []) M2 N2))) ∧ (¬ (l1 = (3 : Int32)) → ((ab_b ((0 : Int32) ≤ l2 ∧ l2 ≤ (12 : Int32))) = 0 → Q (some (.int (-2 : Int32))) M N) ∧ (¬ ((ab_b ((0 : Int32) ≤ l2 ∧ l2 ≤ (12 : Int32))) = 0) → zt_X12_count [.ref 0, .int l1] M N (fun r M2 N2 => zr_X12_night Q 80 [some (.ref 0), some (.int l1), some (.int l2), none, none] (ab_ol r []) M2 N2)))))))) : zr_X12_night Q 0 [some (.ref 0), some (.int l1), some (.int l2)] [] M N := ab_Run_s zm_X12_night (sp := [(80, [true, true, true, false, false]), (112, [true, true, true, false, true]), (146, [true, true, true, false, true])]) 93 h
set_option maxRecDepth 20000 in
theorem zv_X12_night_80 {Q : ab_R} {M : ab_M} {N : ab_N} (l1 : Int32) (l2 : Int32) (s0 : Int32) (h : (l1 = 0 → let z1 : Nat → Int32 := upd (M 0) 0 l2; (l1 = (1 : Int32) → zr_X12_night Q 112 [some (.ref 0), some (.int l1), some (.int l2), none, some (.int s0)] [.int l2, .ref 0] (ab_u M 0 z1) N) ∧ (¬ (l1 = (1 : Int32)) → zr_X12_night Q 112 [some (.ref 0), some (.int l1), some (.int l2), none, some (.int s0)] [.int (z1 1), .ref 0] (ab_u M 0 z1) N)) ∧ (¬ (l1 = 0) → let z2 : Nat → Int32 := upd (M 0) 0 (M 0 0); (l1 = (1 : Int32) → zr_X12_night Q 112 [some (.ref 0), some (.int l1), some (.int l2), none, some (.int s0)] [.int l2, .ref 0] (ab_u M 0 z2) N) ∧ (¬ (l1 = (1 : Int32)) → zr_X12_night Q 112 [some (.ref 0), some (.int l1), some (.int l2), none, some (.int s0)] [.int (z2 1), .ref 0] (ab_u M 0 z2) N))) : zr_X12_night Q 80 [some (.ref 0), some (.int l1), some (.int l2), none, none] [.int s0] M N := ab_Run_s zm_X12_night (sp := [(80, [true, true, true, false, false]), (112, [true, true, true, false, true]), (146, [true, true, true, false, true])]) 93 h
set_option maxRecDepth 20000 in
theorem zv_X12_night_112 {Q : ab_R} {M : ab_M} {N : ab_N} (l1 : Int32) (l2 : Int32) (l4 : Int32) (s1 : Int32) (h : let z1 : Nat → Int32 := upd (M 0) 1 s1; (l1 = (2 : Int32) → let z2 : Nat → Int32 := upd (z1) 2 l2; (l1 = (3 : Int32) → zr_X12_night Q 146 [some (.ref 0), some (.int l1), some (.int l2), none, some (.int l4)] [.int l2, .ref 0] (ab_u (ab_u M 0 z1) 0 z2) N) ∧ (¬ (l1 = (3 : Int32)) → zr_X12_night Q 146 [some (.ref 0), some (.int l1), some (.int l2), none, some (.int l4)] [.int (z2 3), .ref 0] (ab_u (ab_u M 0 z1) 0 z2) N)) ∧ (¬ (l1 = (2 : Int32)) → let z3 : Nat → Int32 := upd (z1) 2 (z1 2); (l1 = (3 : Int32) → zr_X12_night Q 146 [some (.ref 0), some (.int l1), some (.int l2), none, some (.int l4)] [.int l2, .ref 0] (ab_u (ab_u M 0 z1) 0 z3) N) ∧ (¬ (l1 = (3 : Int32)) → zr_X12_night Q 146 [some (.ref 0), some (.int l1), some (.int l2), none, some (.int l4)] [.int (z3 3), .ref 0] (ab_u (ab_u M 0 z1) 0 z3) N))) : zr_X12_night Q 112 [some (.ref 0), some (.int l1), some (.int l2), none, some (.int l4)] [.int s1, .ref 0] M N := ab_Run_s zm_X12_night (sp := [(80, [true, true, true, false, false]), (112, [true, true, true, false, true]), (146, [true, true, true, false, true])]) 93 h
set_option maxRecDepth 20000 in
theorem zv_X12_night_146 {Q : ab_R} {M : ab_M} {N : ab_N} (l1 : Int32) (l2 : Int32) (l4 : Int32) (s1 : Int32) (h : let z1 : Nat → Int32 := upd (M 0) 3 s1; (l1 = (4 : Int32) → let z2 : Nat → Int32 := upd (z1) 4 l2; Q (some (.int l4)) (ab_u (ab_u M 0 z1) 0 z2) N) ∧ (¬ (l1 = (4 : Int32)) → let z3 : Nat → Int32 := upd (z1) 4 (z1 4); Q (some (.int l4)) (ab_u (ab_u M 0 z1) 0 z3) N)) : zr_X12_night Q 146 [some (.ref 0), some (.int l1), some (.int l2), none, some (.int l4)] [.int s1, .ref 0] M N := ab_Run_s zm_X12_night (sp := [(80, [true, true, true, false, false]), (112, [true, true, true, false, true]), (146, [true, true, true, false, true])]) 93 h
theorem zL_X12_night0 {Q : ab_R} {M : ab_M} {N : ab_N} {v s0 : Int32} (hk : Q (some (.int s0)) (ab_u M 0 (upd (M 0) 0 v)) N) : zr_X12_night Q 80 [some (.ref 0), some (.int 0), some (.int v), none, none] [.int s0] M N := by
  refine zv_X12_night_80 _ _ _ ⟨fun _ => ?_, fun z => absurd rfl z⟩
  intro z1
  refine ⟨fun z => absurd z (by decide), fun _ => ?_⟩
  refine zv_X12_night_112 _ _ _ _ ?_
  intro z3
  refine ⟨fun z => absurd z (by decide), fun _ => ?_⟩
  intro z4
  refine ⟨fun z => absurd z (by decide), fun _ => ?_⟩
  refine zv_X12_night_146 _ _ _ _ ?_
  intro z5
  refine ⟨fun z => absurd z (by decide), fun _ => ?_⟩
  intro z6
  rw [ab_u_u, ab_u_u, ab_u_u, ab_u_u]
  have e : z6 = upd (M 0) 0 v := by
    funext j
    simp only [z6, z5, z4, z3, z1, ab_u_eq]
    by_cases h0 : j = 0 <;> by_cases h1 : j = 1 <;> by_cases h2 : j = 2 <;> by_cases h3 : j = 3 <;> by_cases h4 : j = 4 <;> simp [upd, h0, h1, h2, h3, h4]
  rw [e]
  exact hk
theorem zL_X12_night1 {Q : ab_R} {M : ab_M} {N : ab_N} {v s0 : Int32} (hk : Q (some (.int s0)) (ab_u M 0 (upd (M 0) 1 v)) N) : zr_X12_night Q 80 [some (.ref 0), some (.int 1), some (.int v), none, none] [.int s0] M N := by
  refine zv_X12_night_80 _ _ _ ⟨fun z => absurd z (by decide), fun _ => ?_⟩
  intro z1
  refine ⟨fun _ => ?_, fun z => absurd rfl z⟩
  refine zv_X12_night_112 _ _ _ _ ?_
  intro z3
  refine ⟨fun z => absurd z (by decide), fun _ => ?_⟩
  intro z4
  refine ⟨fun z => absurd z (by decide), fun _ => ?_⟩
  refine zv_X12_night_146 _ _ _ _ ?_
  intro z5
  refine ⟨fun z => absurd z (by decide), fun _ => ?_⟩
  intro z6
  rw [ab_u_u, ab_u_u, ab_u_u, ab_u_u]
  have e : z6 = upd (M 0) 1 v := by
    funext j
    simp only [z6, z5, z4, z3, z1, ab_u_eq]
    by_cases h0 : j = 0 <;> by_cases h1 : j = 1 <;> by_cases h2 : j = 2 <;> by_cases h3 : j = 3 <;> by_cases h4 : j = 4 <;> simp [upd, h0, h1, h2, h3, h4]
  rw [e]
  exact hk
theorem zL_X12_night2 {Q : ab_R} {M : ab_M} {N : ab_N} {v s0 : Int32} (hk : Q (some (.int s0)) (ab_u M 0 (upd (M 0) 2 v)) N) : zr_X12_night Q 80 [some (.ref 0), some (.int 2), some (.int v), none, none] [.int s0] M N := by
  refine zv_X12_night_80 _ _ _ ⟨fun z => absurd z (by decide), fun _ => ?_⟩
  intro z1
  refine ⟨fun z => absurd z (by decide), fun _ => ?_⟩
  refine zv_X12_night_112 _ _ _ _ ?_
  intro z3
  refine ⟨fun _ => ?_, fun z => absurd rfl z⟩
  intro z4
  refine ⟨fun z => absurd z (by decide), fun _ => ?_⟩
  refine zv_X12_night_146 _ _ _ _ ?_
  intro z5
  refine ⟨fun z => absurd z (by decide), fun _ => ?_⟩
  intro z6
  rw [ab_u_u, ab_u_u, ab_u_u, ab_u_u]
  have e : z6 = upd (M 0) 2 v := by
    funext j
    simp only [z6, z5, z4, z3, z1, ab_u_eq]
    by_cases h0 : j = 0 <;> by_cases h1 : j = 1 <;> by_cases h2 : j = 2 <;> by_cases h3 : j = 3 <;> by_cases h4 : j = 4 <;> simp [upd, h0, h1, h2, h3, h4]
  rw [e]
  exact hk
theorem zL_X12_night3 {Q : ab_R} {M : ab_M} {N : ab_N} {v s0 : Int32} (hk : Q (some (.int s0)) (ab_u M 0 (upd (M 0) 3 v)) N) : zr_X12_night Q 80 [some (.ref 0), some (.int 3), some (.int v), none, none] [.int s0] M N := by
  refine zv_X12_night_80 _ _ _ ⟨fun z => absurd z (by decide), fun _ => ?_⟩
  intro z1
  refine ⟨fun z => absurd z (by decide), fun _ => ?_⟩
  refine zv_X12_night_112 _ _ _ _ ?_
  intro z3
  refine ⟨fun z => absurd z (by decide), fun _ => ?_⟩
  intro z4
  refine ⟨fun _ => ?_, fun z => absurd rfl z⟩
  refine zv_X12_night_146 _ _ _ _ ?_
  intro z5
  refine ⟨fun z => absurd z (by decide), fun _ => ?_⟩
  intro z6
  rw [ab_u_u, ab_u_u, ab_u_u, ab_u_u]
  have e : z6 = upd (M 0) 3 v := by
    funext j
    simp only [z6, z5, z4, z3, z1, ab_u_eq]
    by_cases h0 : j = 0 <;> by_cases h1 : j = 1 <;> by_cases h2 : j = 2 <;> by_cases h3 : j = 3 <;> by_cases h4 : j = 4 <;> simp [upd, h0, h1, h2, h3, h4]
  rw [e]
  exact hk
theorem zL_X12_night4 {Q : ab_R} {M : ab_M} {N : ab_N} {v s0 : Int32} (hk : Q (some (.int s0)) (ab_u M 0 (upd (M 0) 4 v)) N) : zr_X12_night Q 80 [some (.ref 0), some (.int 4), some (.int v), none, none] [.int s0] M N := by
  refine zv_X12_night_80 _ _ _ ⟨fun z => absurd z (by decide), fun _ => ?_⟩
  intro z1
  refine ⟨fun z => absurd z (by decide), fun _ => ?_⟩
  refine zv_X12_night_112 _ _ _ _ ?_
  intro z3
  refine ⟨fun z => absurd z (by decide), fun _ => ?_⟩
  intro z4
  refine ⟨fun z => absurd z (by decide), fun _ => ?_⟩
  refine zv_X12_night_146 _ _ _ _ ?_
  intro z5
  refine ⟨fun _ => ?_, fun z => absurd rfl z⟩
  intro z6
  rw [ab_u_u, ab_u_u, ab_u_u, ab_u_u]
  have e : z6 = upd (M 0) 4 v := by
    funext j
    simp only [z6, z5, z4, z3, z1, ab_u_eq]
    by_cases h0 : j = 0 <;> by_cases h1 : j = 1 <;> by_cases h2 : j = 2 <;> by_cases h3 : j = 3 <;> by_cases h4 : j = 4 <;> simp [upd, h0, h1, h2, h3, h4]
  rw [e]
  exact hk
def zt_X12_night : ab_T := ab_lq (α := Int32 × Int32) (fun x r _ _ => r = [.int x.1, .int x.2])
  (fun x M N o M2 N2 => N2 = N ∧ M2 = zNiR M x.1 x.2 ∧ o = some (.int (zNiA (M 0) x.1 x.2)))
theorem zt_X12_night_mono : ab_mono zt_X12_night := ab_lq_mono _ _
theorem zV_X12_night : ab_recv zw_M vwCl RX12 zt_X12_night := ab_lq_v
theorem zE_X12_night (as : List Value) (M : ab_M) (N : ab_N) (k : ab_R) (hT : zt_X12_night as M N k) : ab_cs as ≤ 5 ∧ zr_X12_night k 0 (ab_en as) [] M N := by
  obtain ⟨⟨w, v⟩, r, rfl, rfl, hk⟩ := hT
  dsimp only at hk ⊢
  have hk := hk _ _ _ ⟨rfl, rfl, rfl⟩
  unfold zNiR zNiA at hk
  refine ⟨Nat.le_of_ble_eq_true rfl, zv_X12_night_0 _ _ ⟨fun c => ?_, fun c => ?_⟩⟩
  · have nv : ¬ zNiV w v := fun z => ab_b_0.mp c (zNiV_w z)
    rw [if_neg nv, if_neg nv, if_neg (ab_b_0.mp c)] at hk
    exact hk
  · have c := zIx0 c
    have bad : ¬ zNiV w v → k (some (.int (-2))) M N := fun nv => by
      rw [if_neg nv, if_neg nv, if_pos c] at hk
      exact hk
    have good : zNiV w v → k (some (.int (M 0 w.toNatClampNeg))) (ab_u M 0 (upd (M 0) w.toNatClampNeg v)) N := fun pv => by
      rw [if_pos pv, if_pos pv] at hk
      exact hk
    obtain ⟨j, y, ew⟩ := zIxM (n := 4) (by decide) c
    rcases (show j = 0 ∨ j = 1 ∨ j = 2 ∨ j = 3 ∨ j = 4 by omega) with rfl | rfl | rfl | rfl | rfl
    · have ew : w = 0 := ew
      subst ew
      refine ⟨fun _ => ⟨fun c2 => bad (fun h => ?_), fun c2 => ⟨0, _, rfl, rfl, ?_⟩⟩, fun z => absurd rfl z⟩
      · rcases h with ⟨-, h⟩ | ⟨h, -⟩ | ⟨h, -⟩ | ⟨h, -⟩ | ⟨h, -⟩
        · exact ab_b_0.mp c2 h
        · exact absurd h (by decide)
        · exact absurd h (by decide)
        · exact absurd h (by decide)
        · exact absurd h (by decide)
      · rintro o M2 N2 ⟨rfl, rfl, rfl⟩
        exact zL_X12_night0 (good (Or.inl ⟨rfl, zIx0 c2⟩))
    · have ew : w = 1 := ew
      subst ew
      refine ⟨fun z => absurd z (by decide), fun _ => ⟨fun _ => ⟨fun c2 => bad (fun h => ?_), fun c2 => ⟨1, _, rfl, rfl, ?_⟩⟩, fun z => absurd rfl z⟩⟩
      · rcases h with ⟨h, -⟩ | ⟨-, h⟩ | ⟨h, -⟩ | ⟨h, -⟩ | ⟨h, -⟩
        · exact absurd h (by decide)
        · exact ab_b_0.mp c2 h
        · exact absurd h (by decide)
        · exact absurd h (by decide)
        · exact absurd h (by decide)
      · rintro o M2 N2 ⟨rfl, rfl, rfl⟩
        exact zL_X12_night1 (good (Or.inr (Or.inl ⟨rfl, zIx0 c2⟩)))
    · have ew : w = 2 := ew
      subst ew
      refine ⟨fun z => absurd z (by decide), fun _ => ⟨fun z => absurd z (by decide), fun _ => ⟨fun _ => ⟨fun c2 => bad (fun h => ?_), fun c2 => ⟨2, _, rfl, rfl, ?_⟩⟩, fun z => absurd rfl z⟩⟩⟩
      · rcases h with ⟨h, -⟩ | ⟨h, -⟩ | ⟨-, h⟩ | ⟨h, -⟩ | ⟨h, -⟩
        · exact absurd h (by decide)
        · exact absurd h (by decide)
        · exact ab_b_0.mp c2 h
        · exact absurd h (by decide)
        · exact absurd h (by decide)
      · rintro o M2 N2 ⟨rfl, rfl, rfl⟩
        exact zL_X12_night2 (good (Or.inr (Or.inr (Or.inl ⟨rfl, zIx0 c2⟩))))
    · have ew : w = 3 := ew
      subst ew
      refine ⟨fun z => absurd z (by decide), fun _ => ⟨fun z => absurd z (by decide), fun _ => ⟨fun z => absurd z (by decide), fun _ => ⟨fun _ => ⟨fun c2 => bad (fun h => ?_), fun c2 => ⟨3, _, rfl, rfl, ?_⟩⟩, fun z => absurd rfl z⟩⟩⟩⟩
      · rcases h with ⟨h, -⟩ | ⟨h, -⟩ | ⟨h, -⟩ | ⟨-, h⟩ | ⟨h, -⟩
        · exact absurd h (by decide)
        · exact absurd h (by decide)
        · exact absurd h (by decide)
        · exact ab_b_0.mp c2 h
        · exact absurd h (by decide)
      · rintro o M2 N2 ⟨rfl, rfl, rfl⟩
        exact zL_X12_night3 (good (Or.inr (Or.inr (Or.inr (Or.inl ⟨rfl, zIx0 c2⟩)))))
    · have ew : w = 4 := ew
      subst ew
      refine ⟨fun z => absurd z (by decide), fun _ => ⟨fun z => absurd z (by decide), fun _ => ⟨fun z => absurd z (by decide), fun _ => ⟨fun z => absurd z (by decide), fun _ => ⟨fun c2 => bad (fun h => ?_), fun c2 => ⟨4, _, rfl, rfl, ?_⟩⟩⟩⟩⟩⟩
      · rcases h with ⟨h, -⟩ | ⟨h, -⟩ | ⟨h, -⟩ | ⟨h, -⟩ | ⟨-, h⟩
        · exact absurd h (by decide)
        · exact absurd h (by decide)
        · exact absurd h (by decide)
        · exact absurd h (by decide)
        · exact ab_b_0.mp c2 h
      · rintro o M2 N2 ⟨rfl, rfl, rfl⟩
        exact zL_X12_night4 (good (Or.inr (Or.inr (Or.inr (Or.inr (⟨rfl, zIx0 c2⟩))))))
abbrev zR_X12_night : Room := { frames := 1, cells := 0, slots := 0, locals := 22 }
set_option maxRecDepth 20000 in
theorem zM_X12_night (l : Launch) : ab_Met l zw_M vwCl zZ_M yX12_night cX12_night 5 (some .int) zR_X12_night zt_X12_night := ab_ofRun (G := zg_X12_night) (P := zp_X12_night) rfl zo_X12_night (by decide +kernel) zl_cl zl_lamM zf_X12_ok ab_Tab_nil zc_X12_ok ab_Sta_nil (List.forall_mem_cons.mpr ⟨ab_callV zZ_M_ok (zM_X12_count l) (ab_in 1216 (by decide +kernel) rfl) (ab_in 1213 (by decide +kernel) rfl) (ab_in 1214 (by decide +kernel) rfl) (ab_in 1215 (by decide +kernel) rfl) (ab_in 17 (by decide +kernel) rfl) (by unfold ab_yok; decide +kernel) ⟨rfl, rfl⟩ (by decide) zV_X12_count, List.forall_mem_nil _⟩) (List.forall_mem_cons.mpr ⟨ab_callS zZ_M_ok (zM_X12_in l) (ab_in 1200 (by decide +kernel) rfl) (ab_in 1198 (by decide +kernel) rfl) (ab_in 1199 (by decide +kernel) rfl) (ab_in 17 (by decide +kernel) rfl) (by unfold ab_yok; decide +kernel) ⟨rfl, rfl⟩ (by decide), List.forall_mem_nil _⟩) zE_X12_night
def zt_X11_water : ab_T := ab_m2 0 (fun _ _ _ _ => True) (fun l v M N o M2 N2 => N2 = N ∧ ((zWaC 12 l v ∧ (∃ j : Nat, j < 12 ∧ l = nI j ∧ o = some (.int (M 18 j)) ∧ M2 = zFg (ab_u M 18 (upd (M 18) j v)))) ∨ (¬ zWaC 12 l v ∧ M2 = M ∧ o = some (.int (if 0 ≤ l ∧ l ≤ 11 then -2 else -1)))))
theorem zt_X11_water_mono : ab_mono zt_X11_water := ab_m2_mono _ _ _
theorem zV_X11_water : ab_recv zw_C vwCl RX11 zt_X11_water := ab_m2_v rfl rfl
def zp_X11_water : ab_P := [(0, .iload_n 1, 1, [1], []),
  (1, .iconst 0, 2, [], [0]),
  (2, .bipush 11, 4, [], [11]),
  (4, .invokestatic 117, 7, [], []),
  (7, .ifCond .ne 5, 10, [12], []),
  (10, .iconst (-1), 11, [], [(-1)]),
  (11, .ireturn, 12, [], []),
  (12, .iload_n 2, 13, [2], []),
  (13, .iconst 0, 14, [], [0]),
  (14, .bipush 9, 16, [], [9]),
  (16, .invokestatic 117, 19, [], []),
  (19, .ifCond .ne 6, 22, [25], []),
  (22, .bipush (-2), 24, [], [(-2)]),
  (24, .ireturn, 25, [], []),
  (25, .aload_n 0, 26, [0], []),
  (26, .getfield 10, 29, [], []),
  (29, .getfield 153, 32, [], []),
  (32, .iload_n 1, 33, [1], []),
  (33, .iaload, 34, [], []),
  (34, .istore_n 3, 35, [3], []),
  (35, .aload_n 0, 36, [0], []),
  (36, .getfield 10, 39, [], []),
  (39, .getfield 153, 42, [], []),
  (42, .iload_n 1, 43, [1], []),
  (43, .iload_n 2, 44, [2], []),
  (44, .iastore, 45, [], []),
  (45, .aload_n 0, 46, [0], []),
  (46, .getfield 44, 49, [], []),
  (49, .invokevirtual 124, 52, [], []),
  (52, .iload_n 3, 53, [3], []),
  (53, .ireturn, 54, [], [])]
theorem zo_X11_water : ab_ok cX11_water zp_X11_water = true := by decide +kernel
def zg_X11_water : ab_G := (zw_C, zs_tab, zf_X11, zc_X11, [(144, 50), (147, 51)], [(124, 1, zt_X1_forget)], [(117, 3, zt_X11_within)])
theorem zm_X11_water : ab_MG zg_X11_water := ab_MGof (List.forall_mem_cons.mpr ⟨zt_X1_forget_mono, List.forall_mem_nil _⟩) (List.forall_mem_cons.mpr ⟨ab_pure_mono _, List.forall_mem_nil _⟩)
abbrev zr_X11_water (Q : ab_R) : ab_K := ab_Run zg_X11_water zp_X11_water (some .int) 4 Q
set_option maxRecDepth 20000 in
theorem zv_X11_water_0 {Q : ab_R} {M : ab_M} {N : ab_N} (l1 : Int32) (l2 : Int32) (h : ((ab_b ((0 : Int32) ≤ l1 ∧ l1 ≤ (11 : Int32))) = 0 → Q (some (.int (-1 : Int32))) M N) ∧ (¬ ((ab_b ((0 : Int32) ≤ l1 ∧ l1 ≤ (11 : Int32))) = 0) → ((ab_b ((0 : Int32) ≤ l2 ∧ l2 ≤ (9 : Int32))) = 0 → Q (some (.int (-2 : Int32))) M N) ∧ (¬ ((ab_b ((0 : Int32) ≤ l2 ∧ l2 ≤ (9 : Int32))) = 0) → vp_in l1 12 ∧ (vp_in l1 12 ∧ (let z1 : Nat → Int32 := upd (M 18) l1.toNatClampNeg l2; zt_X1_forget [.ref 5] (ab_u M 18 z1) N (fun r M2 N2 => zr_X11_water Q 52 [none, none, none, some (.int (M 18 l1.toNatClampNeg))] (ab_ol r []) M2 N2)))))) : zr_X11_water Q 0 [some (.ref 0), some (.int l1), some (.int l2)] [] M N := ab_Run_s zm_X11_water (sp := [(52, [false, false, false, true])]) 33 h
set_option maxRecDepth 20000 in
theorem zv_X11_water_52 {Q : ab_R} {M : ab_M} {N : ab_N} (l3 : Int32) (h : Q (some (.int l3)) M N) : zr_X11_water Q 52 [none, none, none, some (.int l3)] [] M N := ab_Run_s zm_X11_water (sp := [(52, [false, false, false, true])]) 33 h
theorem zE_X11_water (as : List Value) (M : ab_M) (N : ab_N) (k : ab_R) (hT : zt_X11_water as M N k) : ab_cs as ≤ 4 ∧ zr_X11_water k 0 (ab_en as) [] M N := by
  obtain ⟨l, v, rfl, -, hk⟩ := ab_m2_e hT
  refine ⟨Nat.le_of_ble_eq_true rfl, zv_X11_water_0 _ _ ⟨fun c => ?_, fun c => ⟨fun c2 => ?_, fun c2 => ?_⟩⟩⟩
  · have c := ab_b_0.mp c
    exact hk _ _ _ ⟨rfl, Or.inr ⟨fun z => c z.1, rfl, by rw [if_neg c]⟩⟩
  · have c2 := ab_b_0.mp c2
    exact hk _ _ _ ⟨rfl, Or.inr ⟨fun z => c2 z.2, rfl, by rw [if_pos (zIx0 c)]⟩⟩
  · have a1 := zIx0 c
    obtain ⟨j, y, e⟩ := zIxM (n := 11) (by decide) a1
    have ec : l.toNatClampNeg = j := by rw [e, nI_clamp (by omega)]
    have hi : vp_in l 12 := by rw [e]; exact nI_in_ (by omega)
    rw [ec]
    refine ⟨hi, hi, ?_⟩
    exact zFgC (zv_X11_water_52 _ (hk _ _ _ ⟨rfl, Or.inl ⟨⟨a1, zIx0 c2⟩, j, by omega, e, rfl, rfl⟩⟩))
abbrev zR_X11_water : Room := { frames := 1, cells := 0, slots := 0, locals := 22 }
set_option maxRecDepth 20000 in
theorem zM_X11_water (l : Launch) : ab_Met l zw_C vwCl zZ_C yX11_water cX11_water 4 (some .int) zR_X11_water zt_X11_water := ab_ofRun (G := zg_X11_water) (P := zp_X11_water) rfl zo_X11_water (by decide +kernel) zl_cl zl_lamC zf_X11_ok zs_tabOK zc_X11_ok zs_X11_ok (List.forall_mem_cons.mpr ⟨ab_callV zZ_C_ok (zM_X1_forget l) (ab_in 542 (by decide +kernel) rfl) (ab_in 539 (by decide +kernel) rfl) (ab_in 540 (by decide +kernel) rfl) (ab_in 541 (by decide +kernel) rfl) (ab_in 6 (by decide +kernel) rfl) (by unfold ab_yok; decide +kernel) ⟨rfl, rfl⟩ (by decide) zV_X1_forget, List.forall_mem_nil _⟩) (List.forall_mem_cons.mpr ⟨ab_callS zZ_C_ok (zM_X11_within l) (ab_in 538 (by decide +kernel) rfl) (ab_in 536 (by decide +kernel) rfl) (ab_in 537 (by decide +kernel) rfl) (ab_in 1 (by decide +kernel) rfl) (by unfold ab_yok; decide +kernel) ⟨rfl, rfl⟩ (by decide), List.forall_mem_nil _⟩) zE_X11_water
def zt_X11_pace : ab_T := ab_m2 0 (fun _ _ M _ => zI0 M) (fun l v M N o M2 N2 => N2 = N ∧ ((zPaC (zMen M) l v ∧ (∃ j : Nat, j < zMen M ∧ l = nI j ∧ o = some (.int (M 28 j)) ∧ M2 = ab_u M 28 (upd (M 28) j v))) ∨ (¬ zPaC (zMen M) l v ∧ M2 = M ∧ o = some (.int (if zHasN l (zMen M) then -2 else -1)))))
theorem zt_X11_pace_mono : ab_mono zt_X11_pace := ab_m2_mono _ _ _
theorem zV_X11_pace : ab_recv zw_C vwCl RX11 zt_X11_pace := ab_m2_v rfl rfl
def zp_X11_pace : ab_P := [(0, .aload_n 0, 1, [0], []),
  (1, .getfield 19, 4, [], []),
  (4, .iload_n 1, 5, [1], []),
  (5, .invokevirtual 179, 8, [], []),
  (8, .ifCond .ne 5, 11, [13], []),
  (11, .iconst (-1), 12, [], [(-1)]),
  (12, .ireturn, 13, [], []),
  (13, .iload_n 2, 14, [2], []),
  (14, .iconst 1, 15, [], [1]),
  (15, .iconst 3, 16, [], [3]),
  (16, .invokestatic 117, 19, [], []),
  (19, .ifCond .ne 6, 22, [25], []),
  (22, .bipush (-2), 24, [], [(-2)]),
  (24, .ireturn, 25, [], []),
  (25, .aload_n 0, 26, [0], []),
  (26, .getfield 19, 29, [], []),
  (29, .getfield 180, 32, [], []),
  (32, .iload_n 1, 33, [1], []),
  (33, .iaload, 34, [], []),
  (34, .istore_n 3, 35, [3], []),
  (35, .aload_n 0, 36, [0], []),
  (36, .getfield 19, 39, [], []),
  (39, .getfield 180, 42, [], []),
  (42, .iload_n 1, 43, [1], []),
  (43, .iload_n 2, 44, [2], []),
  (44, .iastore, 45, [], []),
  (45, .iload_n 3, 46, [3], []),
  (46, .ireturn, 47, [], [])]
theorem zo_X11_pace : ab_ok cX11_pace zp_X11_pace = true := by decide +kernel
def zg_X11_pace : ab_G := (zw_C, zs_tab, zf_X11, zc_X11, [(144, 50), (147, 51)], [(179, 2, zt_X5_has)], [(117, 3, zt_X11_within)])
theorem zm_X11_pace : ab_MG zg_X11_pace := ab_MGof (List.forall_mem_cons.mpr ⟨ab_pure_mono _, List.forall_mem_nil _⟩) (List.forall_mem_cons.mpr ⟨ab_pure_mono _, List.forall_mem_nil _⟩)
abbrev zr_X11_pace (Q : ab_R) : ab_K := ab_Run zg_X11_pace zp_X11_pace (some .int) 4 Q
set_option maxRecDepth 20000 in
theorem zv_X11_pace_0 {Q : ab_R} {M : ab_M} {N : ab_N} (l1 : Int32) (l2 : Int32) (h : ((ab_b (0 ≤ l1 ∧ l1 < (M 2) 6 ∧ l1 < 5)) = 0 → Q (some (.int (-1 : Int32))) M N) ∧ (¬ ((ab_b (0 ≤ l1 ∧ l1 < (M 2) 6 ∧ l1 < 5)) = 0) → ((ab_b ((1 : Int32) ≤ l2 ∧ l2 ≤ (3 : Int32))) = 0 → Q (some (.int (-2 : Int32))) M N) ∧ (¬ ((ab_b ((1 : Int32) ≤ l2 ∧ l2 ≤ (3 : Int32))) = 0) → vp_in l1 5 ∧ (vp_in l1 5 ∧ (let z1 : Nat → Int32 := upd (M 28) l1.toNatClampNeg l2; Q (some (.int (M 28 l1.toNatClampNeg))) (ab_u M 28 z1) N))))) : zr_X11_pace Q 0 [some (.ref 0), some (.int l1), some (.int l2)] [] M N := ab_Run_s zm_X11_pace (sp := []) 30 h
theorem zE_X11_pace (as : List Value) (M : ab_M) (N : ab_N) (k : ab_R) (hT : zt_X11_pace as M N k) : ab_cs as ≤ 4 ∧ zr_X11_pace k 0 (ab_en as) [] M N := by
  obtain ⟨l, v, rfl, h0, hk⟩ := ab_m2_e hT
  obtain ⟨n12, m5⟩ := zM_eq h0
  refine ⟨Nat.le_of_ble_eq_true rfl, zv_X11_pace_0 _ _ ?_⟩
  rw [n12]
  refine ⟨fun c => ?_, fun c => ⟨fun c2 => ?_, fun c2 => ?_⟩⟩
  · have c := zIcn m5 rfl (by decide) c
    exact hk _ _ _ ⟨rfl, Or.inr ⟨fun z => c z.1, rfl, by rw [if_neg c]⟩⟩
  · have c2 := ab_b_0.mp c2
    exact hk _ _ _ ⟨rfl, Or.inr ⟨fun z => c2 z.2, rfl, by rw [if_pos (zIcp m5 rfl (by decide) c)]⟩⟩
  · have a1 := zIcp m5 rfl (by decide) c
    obtain ⟨j, y, e⟩ := zIxN (by omega) a1
    have ec : l.toNatClampNeg = j := by rw [e, nI_clamp (by omega)]
    have hi : vp_in l 5 := by rw [e]; exact nI_in_ (by omega)
    rw [ec]
    exact ⟨hi, hi, hk _ _ _ ⟨rfl, Or.inl ⟨⟨a1, zIx0 c2⟩, j, y, e, rfl, rfl⟩⟩⟩
abbrev zR_X11_pace : Room := { frames := 1, cells := 0, slots := 0, locals := 22 }
set_option maxRecDepth 20000 in
theorem zM_X11_pace (l : Launch) : ab_Met l zw_C vwCl zZ_C yX11_pace cX11_pace 4 (some .int) zR_X11_pace zt_X11_pace := ab_ofRun (G := zg_X11_pace) (P := zp_X11_pace) rfl zo_X11_pace (by decide +kernel) zl_cl zl_lamC zf_X11_ok zs_tabOK zc_X11_ok zs_X11_ok (List.forall_mem_cons.mpr ⟨ab_callV zZ_C_ok (zM_X5_has l) (ab_in 642 (by decide +kernel) rfl) (ab_in 639 (by decide +kernel) rfl) (ab_in 640 (by decide +kernel) rfl) (ab_in 641 (by decide +kernel) rfl) (ab_in 3 (by decide +kernel) rfl) (by unfold ab_yok; decide +kernel) ⟨rfl, rfl⟩ (by decide) zV_X5_has, List.forall_mem_nil _⟩) (List.forall_mem_cons.mpr ⟨ab_callS zZ_C_ok (zM_X11_within l) (ab_in 538 (by decide +kernel) rfl) (ab_in 536 (by decide +kernel) rfl) (ab_in 537 (by decide +kernel) rfl) (ab_in 1 (by decide +kernel) rfl) (by unfold ab_yok; decide +kernel) ⟨rfl, rfl⟩ (by decide), List.forall_mem_nil _⟩) zE_X11_pace
def zt_X11_lamp : ab_T := ab_m2 0 (fun _ _ M _ => zI0 M) (fun l v M N o M2 N2 => N2 = N ∧ ((zLaC (zPcs M) l v ∧ (∃ j : Nat, j < zPcs M ∧ l = nI j ∧ o = some (.int (M 16 j)) ∧ M2 = ab_u M 16 (upd (M 16) j v))) ∨ (¬ zLaC (zPcs M) l v ∧ M2 = M ∧ o = some (.int (if zHasN l (zPcs M) then -2 else -1)))))
theorem zt_X11_lamp_mono : ab_mono zt_X11_lamp := ab_m2_mono _ _ _
theorem zV_X11_lamp : ab_recv zw_C vwCl RX11 zt_X11_lamp := ab_m2_v rfl rfl
def zp_X11_lamp : ab_P := [(0, .aload_n 0, 1, [0], []),
  (1, .getfield 10, 4, [], []),
  (4, .iload_n 1, 5, [1], []),
  (5, .invokevirtual 130, 8, [], []),
  (8, .ifCond .ne 5, 11, [13], []),
  (11, .iconst (-1), 12, [], [(-1)]),
  (12, .ireturn, 13, [], []),
  (13, .iload_n 2, 14, [2], []),
  (14, .iconst 0, 15, [], [0]),
  (15, .iconst 1, 16, [], [1]),
  (16, .invokestatic 117, 19, [], []),
  (19, .ifCond .ne 6, 22, [25], []),
  (22, .bipush (-2), 24, [], [(-2)]),
  (24, .ireturn, 25, [], []),
  (25, .aload_n 0, 26, [0], []),
  (26, .getfield 10, 29, [], []),
  (29, .getfield 256, 32, [], []),
  (32, .iload_n 1, 33, [1], []),
  (33, .iaload, 34, [], []),
  (34, .istore_n 3, 35, [3], []),
  (35, .aload_n 0, 36, [0], []),
  (36, .getfield 10, 39, [], []),
  (39, .getfield 256, 42, [], []),
  (42, .iload_n 1, 43, [1], []),
  (43, .iload_n 2, 44, [2], []),
  (44, .iastore, 45, [], []),
  (45, .iload_n 3, 46, [3], []),
  (46, .ireturn, 47, [], [])]
theorem zo_X11_lamp : ab_ok cX11_lamp zp_X11_lamp = true := by decide +kernel
def zg_X11_lamp : ab_G := (zw_C, zs_tab, zf_X11, zc_X11, [(144, 50), (147, 51)], [(130, 2, zt_X2_has)], [(117, 3, zt_X11_within)])
theorem zm_X11_lamp : ab_MG zg_X11_lamp := ab_MGof (List.forall_mem_cons.mpr ⟨ab_pure_mono _, List.forall_mem_nil _⟩) (List.forall_mem_cons.mpr ⟨ab_pure_mono _, List.forall_mem_nil _⟩)
abbrev zr_X11_lamp (Q : ab_R) : ab_K := ab_Run zg_X11_lamp zp_X11_lamp (some .int) 4 Q
set_option maxRecDepth 20000 in
theorem zv_X11_lamp_0 {Q : ab_R} {M : ab_M} {N : ab_N} (l1 : Int32) (l2 : Int32) (h : ((ab_b (0 ≤ l1 ∧ l1 < (M 1) 4 ∧ l1 < 8)) = 0 → Q (some (.int (-1 : Int32))) M N) ∧ (¬ ((ab_b (0 ≤ l1 ∧ l1 < (M 1) 4 ∧ l1 < 8)) = 0) → ((ab_b ((0 : Int32) ≤ l2 ∧ l2 ≤ (1 : Int32))) = 0 → Q (some (.int (-2 : Int32))) M N) ∧ (¬ ((ab_b ((0 : Int32) ≤ l2 ∧ l2 ≤ (1 : Int32))) = 0) → vp_in l1 8 ∧ (vp_in l1 8 ∧ (let z1 : Nat → Int32 := upd (M 16) l1.toNatClampNeg l2; Q (some (.int (M 16 l1.toNatClampNeg))) (ab_u M 16 z1) N))))) : zr_X11_lamp Q 0 [some (.ref 0), some (.int l1), some (.int l2)] [] M N := ab_Run_s zm_X11_lamp (sp := []) 30 h
theorem zE_X11_lamp (as : List Value) (M : ab_M) (N : ab_N) (k : ab_R) (hT : zt_X11_lamp as M N k) : ab_cs as ≤ 4 ∧ zr_X11_lamp k 0 (ab_en as) [] M N := by
  obtain ⟨l, v, rfl, h0, hk⟩ := ab_m2_e hT
  obtain ⟨n7, p8⟩ := zP_eq h0
  refine ⟨Nat.le_of_ble_eq_true rfl, zv_X11_lamp_0 _ _ ?_⟩
  rw [n7]
  refine ⟨fun c => ?_, fun c => ⟨fun c2 => ?_, fun c2 => ?_⟩⟩
  · have c := zIcn p8 rfl (by decide) c
    exact hk _ _ _ ⟨rfl, Or.inr ⟨fun z => c z.1, rfl, by rw [if_neg c]⟩⟩
  · have c2 := ab_b_0.mp c2
    exact hk _ _ _ ⟨rfl, Or.inr ⟨fun z => c2 z.2, rfl, by rw [if_pos (zIcp p8 rfl (by decide) c)]⟩⟩
  · have a1 := zIcp p8 rfl (by decide) c
    obtain ⟨j, y, e⟩ := zIxN (by omega) a1
    have ec : l.toNatClampNeg = j := by rw [e, nI_clamp (by omega)]
    have hi : vp_in l 8 := by rw [e]; exact nI_in_ (by omega)
    rw [ec]
    exact ⟨hi, hi, hk _ _ _ ⟨rfl, Or.inl ⟨⟨a1, zIx0 c2⟩, j, y, e, rfl, rfl⟩⟩⟩
abbrev zR_X11_lamp : Room := { frames := 1, cells := 0, slots := 0, locals := 22 }
set_option maxRecDepth 20000 in
theorem zM_X11_lamp (l : Launch) : ab_Met l zw_C vwCl zZ_C yX11_lamp cX11_lamp 4 (some .int) zR_X11_lamp zt_X11_lamp := ab_ofRun (G := zg_X11_lamp) (P := zp_X11_lamp) rfl zo_X11_lamp (by decide +kernel) zl_cl zl_lamC zf_X11_ok zs_tabOK zc_X11_ok zs_X11_ok (List.forall_mem_cons.mpr ⟨ab_callV zZ_C_ok (zM_X2_has l) (ab_in 554 (by decide +kernel) rfl) (ab_in 551 (by decide +kernel) rfl) (ab_in 552 (by decide +kernel) rfl) (ab_in 553 (by decide +kernel) rfl) (ab_in 2 (by decide +kernel) rfl) (by unfold ab_yok; decide +kernel) ⟨rfl, rfl⟩ (by decide) zV_X2_has, List.forall_mem_nil _⟩) (List.forall_mem_cons.mpr ⟨ab_callS zZ_C_ok (zM_X11_within l) (ab_in 538 (by decide +kernel) rfl) (ab_in 536 (by decide +kernel) rfl) (ab_in 537 (by decide +kernel) rfl) (ab_in 1 (by decide +kernel) rfl) (by unfold ab_yok; decide +kernel) ⟨rfl, rfl⟩ (by decide), List.forall_mem_nil _⟩) zE_X11_lamp
def zt_X11_force : ab_T := ab_m1 0 (fun _ _ _ => True) (fun x M N o M2 N2 => N2 = N ∧ ((((0 : Int32) ≤ x ∧ x ≤ M 3 2 - 1) ∧ o = some (.int (M 3 3)) ∧ M2 = zFg (ab_u M 3 (upd (M 3) 3 x))) ∨ (¬ ((0 : Int32) ≤ x ∧ x ≤ M 3 2 - 1) ∧ o = some (.int (-2)) ∧ M2 = M)))
theorem zt_X11_force_mono : ab_mono zt_X11_force := ab_m1_mono _ _ _
theorem zV_X11_force : ab_recv zw_C vwCl RX11 zt_X11_force := ab_m1_v rfl rfl
def zp_X11_force : ab_P := [(0, .iload_n 1, 1, [1], []),
  (1, .iconst 0, 2, [], [0]),
  (2, .aload_n 0, 3, [0], []),
  (3, .getfield 26, 6, [], []),
  (6, .getfield 159, 9, [], []),
  (9, .iconst 1, 10, [], [1]),
  (10, .isub, 11, [], []),
  (11, .invokestatic 117, 14, [], []),
  (14, .ifCond .ne 6, 17, [20], []),
  (17, .bipush (-2), 19, [], [(-2)]),
  (19, .ireturn, 20, [], []),
  (20, .aload_n 0, 21, [0], []),
  (21, .getfield 26, 24, [], []),
  (24, .getfield 160, 27, [], []),
  (27, .istore_n 2, 28, [2], []),
  (28, .aload_n 0, 29, [0], []),
  (29, .getfield 26, 32, [], []),
  (32, .iload_n 1, 33, [1], []),
  (33, .putfield 160, 36, [], []),
  (36, .aload_n 0, 37, [0], []),
  (37, .getfield 44, 40, [], []),
  (40, .invokevirtual 124, 43, [], []),
  (43, .iload_n 2, 44, [2], []),
  (44, .ireturn, 45, [], [])]
theorem zo_X11_force : ab_ok cX11_force zp_X11_force = true := by decide +kernel
def zg_X11_force : ab_G := (zw_C, zs_tab, zf_X11, zc_X11, [(144, 50), (147, 51)], [(124, 1, zt_X1_forget)], [(117, 3, zt_X11_within)])
theorem zm_X11_force : ab_MG zg_X11_force := ab_MGof (List.forall_mem_cons.mpr ⟨zt_X1_forget_mono, List.forall_mem_nil _⟩) (List.forall_mem_cons.mpr ⟨ab_pure_mono _, List.forall_mem_nil _⟩)
abbrev zr_X11_force (Q : ab_R) : ab_K := ab_Run zg_X11_force zp_X11_force (some .int) 3 Q
set_option maxRecDepth 20000 in
theorem zv_X11_force_0 {Q : ab_R} {M : ab_M} {N : ab_N} (l1 : Int32) (h : ((ab_b ((0 : Int32) ≤ l1 ∧ l1 ≤ ((M 3 2) - (1 : Int32)))) = 0 → Q (some (.int (-2 : Int32))) M N) ∧ (¬ ((ab_b ((0 : Int32) ≤ l1 ∧ l1 ≤ ((M 3 2) - (1 : Int32)))) = 0) → let z1 : Nat → Int32 := upd (M 3) 3 l1; zt_X1_forget [.ref 5] (ab_u M 3 z1) N (fun r M2 N2 => zr_X11_force Q 43 [none, none, some (.int (M 3 3))] (ab_ol r []) M2 N2))) : zr_X11_force Q 0 [some (.ref 0), some (.int l1)] [] M N := ab_Run_s zm_X11_force (sp := [(43, [false, false, true])]) 26 h
set_option maxRecDepth 20000 in
theorem zv_X11_force_43 {Q : ab_R} {M : ab_M} {N : ab_N} (l2 : Int32) (h : Q (some (.int l2)) M N) : zr_X11_force Q 43 [none, none, some (.int l2)] [] M N := ab_Run_s zm_X11_force (sp := [(43, [false, false, true])]) 26 h
theorem zE_X11_force (as : List Value) (M : ab_M) (N : ab_N) (k : ab_R) (hT : zt_X11_force as M N k) : ab_cs as ≤ 3 ∧ zr_X11_force k 0 (ab_en as) [] M N := by
  obtain ⟨l, rfl, -, hk⟩ := ab_m1_e hT
  refine ⟨Nat.le_of_ble_eq_true rfl, zv_X11_force_0 _ ⟨fun c => hk _ _ _ ⟨rfl, Or.inr ⟨ab_b_0.mp c, rfl, rfl⟩⟩, fun c => ?_⟩⟩
  intro z1
  exact zFgC (zv_X11_force_43 _ (hk _ _ _ ⟨rfl, Or.inl ⟨zIx0 c, rfl, rfl⟩⟩))
abbrev zR_X11_force : Room := { frames := 1, cells := 0, slots := 0, locals := 22 }
set_option maxRecDepth 20000 in
theorem zM_X11_force (l : Launch) : ab_Met l zw_C vwCl zZ_C yX11_force cX11_force 3 (some .int) zR_X11_force zt_X11_force := ab_ofRun (G := zg_X11_force) (P := zp_X11_force) rfl zo_X11_force (by decide +kernel) zl_cl zl_lamC zf_X11_ok zs_tabOK zc_X11_ok zs_X11_ok (List.forall_mem_cons.mpr ⟨ab_callV zZ_C_ok (zM_X1_forget l) (ab_in 542 (by decide +kernel) rfl) (ab_in 539 (by decide +kernel) rfl) (ab_in 540 (by decide +kernel) rfl) (ab_in 541 (by decide +kernel) rfl) (ab_in 6 (by decide +kernel) rfl) (by unfold ab_yok; decide +kernel) ⟨rfl, rfl⟩ (by decide) zV_X1_forget, List.forall_mem_nil _⟩) (List.forall_mem_cons.mpr ⟨ab_callS zZ_C_ok (zM_X11_within l) (ab_in 538 (by decide +kernel) rfl) (ab_in 536 (by decide +kernel) rfl) (ab_in 537 (by decide +kernel) rfl) (ab_in 1 (by decide +kernel) rfl) (by unfold ab_yok; decide +kernel) ⟨rfl, rfl⟩ (by decide), List.forall_mem_nil _⟩) zE_X11_force
def zt_X11_call : ab_T := ab_m1 0 (fun _ _ _ => True) (fun x M N o M2 N2 => N2 = N ∧ ((((-1 : Int32) ≤ x ∧ x ≤ 11) ∧ o = some (.int (M 1 7)) ∧ M2 = ab_u M 1 (upd (M 1) 7 x)) ∨ (¬ ((-1 : Int32) ≤ x ∧ x ≤ 11) ∧ o = some (.int (-2)) ∧ M2 = M)))
theorem zt_X11_call_mono : ab_mono zt_X11_call := ab_m1_mono _ _ _
theorem zV_X11_call : ab_recv zw_C vwCl RX11 zt_X11_call := ab_m1_v rfl rfl
def zp_X11_call : ab_P := [(0, .iload_n 1, 1, [1], []),
  (1, .iconst (-1), 2, [], [(-1)]),
  (2, .bipush 11, 4, [], [11]),
  (4, .invokestatic 117, 7, [], []),
  (7, .ifCond .ne 6, 10, [13], []),
  (10, .bipush (-2), 12, [], [(-2)]),
  (12, .ireturn, 13, [], []),
  (13, .aload_n 0, 14, [0], []),
  (14, .getfield 10, 17, [], []),
  (17, .getfield 287, 20, [], []),
  (20, .istore_n 2, 21, [2], []),
  (21, .aload_n 0, 22, [0], []),
  (22, .getfield 10, 25, [], []),
  (25, .iload_n 1, 26, [1], []),
  (26, .putfield 287, 29, [], []),
  (29, .iload_n 2, 30, [2], []),
  (30, .ireturn, 31, [], [])]
theorem zo_X11_call : ab_ok cX11_call zp_X11_call = true := by decide +kernel
def zg_X11_call : ab_G := (zw_C, zs_tab, zf_X11, zc_X11, [(144, 50), (147, 51)], [], [(117, 3, zt_X11_within)])
theorem zm_X11_call : ab_MG zg_X11_call := ab_MGof (List.forall_mem_nil _) (List.forall_mem_cons.mpr ⟨ab_pure_mono _, List.forall_mem_nil _⟩)
abbrev zr_X11_call (Q : ab_R) : ab_K := ab_Run zg_X11_call zp_X11_call (some .int) 3 Q
set_option maxRecDepth 20000 in
theorem zv_X11_call_0 {Q : ab_R} {M : ab_M} {N : ab_N} (l1 : Int32) (h : ((ab_b ((-1 : Int32) ≤ l1 ∧ l1 ≤ (11 : Int32))) = 0 → Q (some (.int (-2 : Int32))) M N) ∧ (¬ ((ab_b ((-1 : Int32) ≤ l1 ∧ l1 ≤ (11 : Int32))) = 0) → let z1 : Nat → Int32 := upd (M 1) 7 l1; Q (some (.int (M 1 7))) (ab_u M 1 z1) N)) : zr_X11_call Q 0 [some (.ref 0), some (.int l1)] [] M N := ab_Run_s zm_X11_call (sp := []) 19 h
theorem zE_X11_call (as : List Value) (M : ab_M) (N : ab_N) (k : ab_R) (hT : zt_X11_call as M N k) : ab_cs as ≤ 3 ∧ zr_X11_call k 0 (ab_en as) [] M N := by
  obtain ⟨l, rfl, -, hk⟩ := ab_m1_e hT
  refine ⟨Nat.le_of_ble_eq_true rfl, zv_X11_call_0 _ ⟨fun c => hk _ _ _ ⟨rfl, Or.inr ⟨ab_b_0.mp c, rfl, rfl⟩⟩, fun c => ?_⟩⟩
  intro z1
  exact hk _ _ _ ⟨rfl, Or.inl ⟨zIx0 c, rfl, rfl⟩⟩
abbrev zR_X11_call : Room := { frames := 1, cells := 0, slots := 0, locals := 22 }
set_option maxRecDepth 20000 in
theorem zM_X11_call (l : Launch) : ab_Met l zw_C vwCl zZ_C yX11_call cX11_call 3 (some .int) zR_X11_call zt_X11_call := ab_ofRun (G := zg_X11_call) (P := zp_X11_call) rfl zo_X11_call (by decide +kernel) zl_cl zl_lamC zf_X11_ok zs_tabOK zc_X11_ok zs_X11_ok (List.forall_mem_nil _) (List.forall_mem_cons.mpr ⟨ab_callS zZ_C_ok (zM_X11_within l) (ab_in 538 (by decide +kernel) rfl) (ab_in 536 (by decide +kernel) rfl) (ab_in 537 (by decide +kernel) rfl) (ab_in 1 (by decide +kernel) rfl) (by unfold ab_yok; decide +kernel) ⟨rfl, rfl⟩ (by decide), List.forall_mem_nil _⟩) zE_X11_call
