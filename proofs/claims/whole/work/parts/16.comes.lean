/-! Walk.riskiest, Walk.comes *)
-/
theorem zNat {x : Int32} (n : Nat) (K : Int32) (hx0 : 0 ≤ x) (hx1 : x ≤ K) (hK : K = nI n := by rfl) (hn : n < 2 ^ 31 := by decide) : x = nI x.toNatClampNeg ∧ x.toNatClampNeg ≤ n := by
  refine ⟨ab_cl0 hx0, ?_⟩
  obtain ⟨j, hj, e⟩ := nI_of (Int32.not_lt.mpr hx0)
  rw [e] at hx1 ⊢
  rw [nI_clamp hj]
  rw [hK] at hx1
  exact (nI_leI hj hn).mp hx1
theorem zAsk_fr {M M2 : ab_M} (h : zFr [33, 35, 36] M M2) : zAsk M2 = zAsk M := by
  funext th p h2 st pc
  unfold zAsk zIs
  rw [zAskN_fr (h 3 (by decide)) (h 13 (by decide)) (h 14 (by decide)) (h 17 (by decide)) (h 18 (by decide)) (h 31 (by decide)) (h 32 (by decide)), h 15 (by decide)]
theorem zAsk_le (M : ab_M) {th : Nat} (hth : th < 3) (p h st pc : Nat) : zAsk M th p h st pc ≤ 999 := (zClamp_n th hth _).2
theorem zP_eq {M : ab_M} (h : zI0 M) : M 1 4 = nI (zPcs M) ∧ zPcs M ≤ 8 := zNat 8 8 h.2.2.2.2.2.1.1 h.2.2.2.2.2.1.2
theorem zM_eq {M : ab_M} (h : zI0 M) : M 2 6 = nI (zMen M) ∧ zMen M ≤ 5 := zNat 5 5 h.2.2.2.2.2.2.2.1 h.2.2.2.2.2.2.2.2
theorem zH_eq {M : ab_M} (h : zI0 M) : M 17 0 = nI (zHrs M) ∧ zHrs M ≤ 12 := zNat 12 12 (by have := h.1.1; grind) h.1.2
theorem zB_eq {M : ab_M} (h : zI0 M) : M 17 1 = nI (zBrk M) ∧ zBrk M ≤ 6 ∧ 2 ≤ zBrk M := by
  have h2 := zNat (x := M 17 1) 6 6 (by have := h.2.1.1; grind) h.2.1.2
  refine ⟨h2.1, h2.2, ?_⟩
  have h3 := h.2.1.1
  rw [h2.1] at h3
  have h4 : (M 17 1).toNatClampNeg ≤ 6 := h2.2
  exact (nI_leI (a := 2) (b := (M 17 1).toNatClampNeg) (by omega) (by omega)).mp h3
def zp_X10_riskiest : ab_P := [(0, .iload_n 3, 1, [3], []),
  (1, .istore 4, 3, [], []),
  (3, .iconst (-1), 4, [], [(-1)]),
  (4, .istore 5, 6, [], []),
  (6, .iconst 0, 7, [], [0]),
  (7, .istore 6, 9, [], []),
  (9, .iload 6, 11, [], []),
  (11, .aload_n 0, 12, [0], []),
  (12, .getfield 44, 15, [], []),
  (15, .getfield 74, 18, [], []),
  (18, .if_icmp .ge 84, 21, [102], []),
  (21, .iload 6, 23, [], []),
  (23, .iload_n 3, 24, [3], []),
  (24, .isub, 25, [], []),
  (25, .invokestatic 127, 28, [], []),
  (28, .aload_n 0, 29, [0], []),
  (29, .getfield 48, 32, [], []),
  (32, .getfield 62, 35, [], []),
  (35, .iload_n 1, 36, [1], []),
  (36, .iaload, 37, [], []),
  (37, .if_icmp .gt 59, 40, [96], []),
  (40, .aload_n 0, 41, [0], []),
  (41, .iload 6, 43, [], []),
  (43, .iload_n 2, 44, [2], []),
  (44, .invokevirtual 131, 47, [], []),
  (47, .istore 7, 49, [], []),
  (49, .iload 7, 51, [], []),
  (51, .aload_n 0, 52, [0], []),
  (52, .getfield 52, 55, [], []),
  (55, .iconst 0, 56, [], [0]),
  (56, .iload 6, 58, [], []),
  (58, .iload_n 2, 59, [2], []),
  (59, .iload 7, 61, [], []),
  (61, .iconst 0, 62, [], [0]),
  (62, .invokevirtual 134, 65, [], []),
  (65, .imul, 66, [], []),
  (66, .istore 8, 68, [], []),
  (68, .iload 8, 70, [], []),
  (70, .iload 5, 72, [], []),
  (72, .if_icmp .gt 16, 75, [88], []),
  (75, .iload 8, 77, [], []),
  (77, .iload 5, 79, [], []),
  (79, .if_icmp .ne 17, 82, [96], []),
  (82, .iload 6, 84, [], []),
  (84, .iload_n 3, 85, [3], []),
  (85, .if_icmp .ne 11, 88, [96], []),
  (88, .iload 6, 90, [], []),
  (90, .istore 4, 92, [], []),
  (92, .iload 8, 94, [], []),
  (94, .istore 5, 96, [], []),
  (96, .iinc 6 1, 99, [], [1]),
  (99, .goto (-90), 102, [9], []),
  (102, .iload 4, 104, [], []),
  (104, .ireturn, 105, [], [])]
theorem zo_X10_riskiest : ab_ok cX10_riskiest zp_X10_riskiest = true := by decide +kernel
def zg_X10_riskiest : ab_G := (zw_C, zs_tab, zf_X10, [], [], [(131, 3, zt_X10_sinceOf), (134, 6, zt_X1_ask)], [(127, 1, zt_abs)])
theorem zm_X10_riskiest : ab_MG zg_X10_riskiest := ab_MGof (List.forall_mem_cons.mpr ⟨ab_pp_mono _, List.forall_mem_cons.mpr ⟨zt_X1_ask_mono, List.forall_mem_nil _⟩⟩) (List.forall_mem_cons.mpr ⟨ab_pure_mono _, List.forall_mem_nil _⟩)
abbrev zr_X10_riskiest (Q : ab_R) : ab_K := ab_Run zg_X10_riskiest zp_X10_riskiest (some .int) 9 Q
set_option maxRecDepth 20000 in
theorem zv_X10_riskiest_0 {Q : ab_R} {M : ab_M} {N : ab_N} (l1 : Int32) (l2 : Int32) (l3 : Int32) (h : zr_X10_riskiest Q 9 [some (.ref 6), some (.int l1), some (.int l2), some (.int l3), some (.int l3), some (.int (-1 : Int32)), some (.int (0 : Int32)), none, none] [] M N) : zr_X10_riskiest Q 0 [some (.ref 6), some (.int l1), some (.int l2), some (.int l3)] [] M N := ab_Run_s zm_X10_riskiest (sp := [(9, [true, true, true, true, true, true, true, false, false]), (65, [true, true, true, true, true, true, true, false, false])]) 56 h
set_option maxRecDepth 20000 in
theorem zv_X10_riskiest_9 {Q : ab_R} {M : ab_M} {N : ab_N} (l1 : Int32) (l2 : Int32) (l3 : Int32) (l4 : Int32) (l5 : Int32) (l6 : Int32) (h : ((M 1 4) ≤ l6 → Q (some (.int l4)) M N) ∧ (¬ ((M 1 4) ≤ l6) → vp_in l1 5 ∧ (((M 28 l1.toNatClampNeg) < (if 0 ≤ (l6 - l3) then (l6 - l3) else 0 - (l6 - l3)) → zr_X10_riskiest Q 9 [some (.ref 6), some (.int l1), some (.int l2), some (.int l3), some (.int l4), some (.int l5), some (.int (l6 + (1 : Int32))), none, none] [] M N) ∧ (¬ ((M 28 l1.toNatClampNeg) < (if 0 ≤ (l6 - l3) then (l6 - l3) else 0 - (l6 - l3))) → (vp_in (l2 * 8 + l6) 96) ∧ (zt_X1_ask [.ref 5, .int (0 : Int32), .int l6, .int l2, .int ((M 39) (l2 * 8 + l6).toNatClampNeg), .int (0 : Int32)] M N (fun r M2 N2 => zr_X10_riskiest Q 65 [some (.ref 6), some (.int l1), some (.int l2), some (.int l3), some (.int l4), some (.int l5), some (.int l6), none, none] (ab_ol r [.int ((M 39) (l2 * 8 + l6).toNatClampNeg)]) M2 N2)))))) : zr_X10_riskiest Q 9 [some (.ref 6), some (.int l1), some (.int l2), some (.int l3), some (.int l4), some (.int l5), some (.int l6), none, none] [] M N := ab_Run_s zm_X10_riskiest (sp := [(9, [true, true, true, true, true, true, true, false, false]), (65, [true, true, true, true, true, true, true, false, false])]) 56 h
set_option maxRecDepth 20000 in
theorem zv_X10_riskiest_65 {Q : ab_R} {M : ab_M} {N : ab_N} (l1 : Int32) (l2 : Int32) (l3 : Int32) (l4 : Int32) (l5 : Int32) (l6 : Int32) (s0 : Int32) (s1 : Int32) (h : (l5 < (s0 * s1) → zr_X10_riskiest Q 9 [some (.ref 6), some (.int l1), some (.int l2), some (.int l3), some (.int l6), some (.int (s0 * s1)), some (.int (l6 + (1 : Int32))), none, none] [] M N) ∧ (¬ (l5 < (s0 * s1)) → ((s0 * s1) = l5 → (l6 = l3 → zr_X10_riskiest Q 9 [some (.ref 6), some (.int l1), some (.int l2), some (.int l3), some (.int l6), some (.int (s0 * s1)), some (.int (l6 + (1 : Int32))), none, none] [] M N) ∧ (¬ (l6 = l3) → zr_X10_riskiest Q 9 [some (.ref 6), some (.int l1), some (.int l2), some (.int l3), some (.int l4), some (.int l5), some (.int (l6 + (1 : Int32))), none, none] [] M N)) ∧ (¬ ((s0 * s1) = l5) → zr_X10_riskiest Q 9 [some (.ref 6), some (.int l1), some (.int l2), some (.int l3), some (.int l4), some (.int l5), some (.int (l6 + (1 : Int32))), none, none] [] M N))) : zr_X10_riskiest Q 65 [some (.ref 6), some (.int l1), some (.int l2), some (.int l3), some (.int l4), some (.int l5), some (.int l6), none, none] [.int s1, .int s0] M N := ab_Run_s zm_X10_riskiest (sp := [(9, [true, true, true, true, true, true, true, false, false]), (65, [true, true, true, true, true, true, true, false, false])]) 56 h
theorem zL_X10_riskiest {Q : ab_R} {N : ab_N} (M0 : ab_M) (mm g : Nat) (f : Int32) (hm : mm < 5) (hg : g < 12) (h0 : zI0 M0) (hsc : zScOK M0 g) (r : Int32) (hr : (zRiskF M0 g (zScM M0 g) (M0 28 mm) f (zPcs M0)).1 = r) (hq : ∀ M2, zFr [33, 35, 36] M0 M2 → zAsks M2 → Q (some (.int r)) M2 N) : ∀ (n p : Nat) (M : ab_M), p + n = zPcs M0 → zFr [33, 35, 36] M0 M → zAsks M → zr_X10_riskiest Q 9 [some (.ref 6), some (.int (nI mm)), some (.int (nI g)), some (.int f), some (.int (zRiskF M0 g (zScM M0 g) (M0 28 mm) f p).1), some (.int (zRiskF M0 g (zScM M0 g) (M0 28 mm) f p).2), some (.int (nI p)), none, none] [] M N := by
  obtain ⟨hP, hP8⟩ := zP_eq h0
  intro n
  induction n with
  | zero =>
    intro p M hp hF hA
    have e1 : M 1 = M0 1 := hF 1 (by decide)
    refine zv_X10_riskiest_9 _ _ _ _ _ _ ⟨fun _ => ?_, fun c => absurd ?_ c⟩
    · have : p = zPcs M0 := by omega
      rw [this, hr]
      exact hq M hF hA
    · rw [e1, hP]
      exact nI_le (by omega) (by omega)
  | succ n ih =>
    intro p M hp hF hA
    have e1 : M 1 = M0 1 := hF 1 (by decide)
    have e28 : M 28 = M0 28 := hF 28 (by decide)
    have e39 : M 39 = M0 39 := hF 39 (by decide)
    refine zv_X10_riskiest_9 _ _ _ _ _ _ ⟨fun c => absurd c ?_, fun _ => ⟨nI_in_ hm, ?_⟩⟩
    · rw [e1, hP]
      exact nI_ge (by omega) (by omega)
    rw [nI_clamp (show mm < 2 ^ 31 by omega), e28, nI_1]
    refine ⟨fun c => ?_, fun c => ?_⟩
    · have c2 : ¬ zAbs (nI p - f) ≤ M0 28 mm := fun q => absurd c (Int32.not_lt.mpr q)
      have e : zRiskF M0 g (zScM M0 g) (M0 28 mm) f (p + 1) = zRiskF M0 g (zScM M0 g) (M0 28 mm) f p := by
        rw [zRiskF, if_neg c2]
      have := ih (p + 1) M (by omega) hF hA
      rw [e] at this
      exact this
    · have c2 : zAbs (nI p - f) ≤ M0 28 mm := Int32.not_lt.mp c
      have ei : nI g * 8 + nI p = nI (g * 8 + p) := by rw [zN_mul g 8 8, nI_add]
      rw [ei]
      refine ⟨nI_in_ (by omega), ?_⟩
      rw [nI_clamp (show g * 8 + p < 2 ^ 31 by omega), e39]
      obtain ⟨s, s1, s2, s3⟩ := hsc p (by omega)
      rw [s3]
      have es : zScM M0 g p = s := by unfold zScM; rw [s3, nI_clamp (by omega)]
      refine ab_m5_i ⟨hA, 0, p, g, s, 0, zPcs M0, by omega, by omega, hP8, hg, s2, by omega, rfl, rfl, rfl, rfl, rfl, by rw [e1, hP]⟩ ?_
      rintro o M2 N2 ⟨rfl, hF2, hA2, rfl⟩
      have hFt : zFr [33, 35, 36] M0 M2 := zFr_tr hF hF2
      rw [zAsk_fr hF, show (0 : Int32).toNatClampNeg = 0 from rfl, nI_clamp (show p < 2 ^ 31 by omega), nI_clamp (show g < 2 ^ 31 by omega), nI_clamp (show s < 2 ^ 31 by omega)]
      refine zv_X10_riskiest_65 _ _ _ _ _ _ _ _ ?_
      have hle := zAsk_le M0 (th := 0) (by omega) p g s 0
      rw [pk_mul, nI_1]
      have ih2 := ih (p + 1) M2 (by omega) hFt hA2
      rw [zRiskF, if_pos c2, es] at ih2
      refine ⟨fun c3 => ?_, fun c3 => ⟨fun c4 => ⟨fun c5 => ?_, fun c5 => ?_⟩, fun c4 => ?_⟩⟩
      · rw [if_pos (Or.inl c3)] at ih2; exact ih2
      · rw [if_pos (Or.inr ⟨c4, c5⟩)] at ih2; exact ih2
      · rw [if_neg (fun q => q.elim c3 (fun z => c5 z.2))] at ih2; exact ih2
      · rw [if_neg (fun q => q.elim c3 (fun z => c4 z.1))] at ih2; exact ih2
theorem zE_X10_riskiest (as : List Value) (M : ab_M) (N : ab_N) (k : ab_R) (hT : zt_X10_riskiest as M N k) : ab_cs as ≤ 9 ∧ zr_X10_riskiest k 0 (ab_en as) [] M N := by
  obtain ⟨m, h, f, rfl, ⟨⟨hA, h0, h1⟩, mm, g, hm, hg, rfl, rfl, hsc⟩, hk⟩ := ab_m3_e hT
  have hm5 := (zM_eq h0).2
  refine ⟨Nat.le_of_ble_eq_true rfl, zv_X10_riskiest_0 _ _ _ ?_⟩
  have hk2 := fun M2 hF hA2 => hk _ M2 N ⟨rfl, hF, hA2, rfl⟩
  rw [nI_clamp (show g < 2 ^ 31 by omega), nI_clamp (show mm < 2 ^ 31 by omega)] at hk2
  exact zL_X10_riskiest M mm g f (by omega) hg h0 hsc _ rfl hk2 (zPcs M) 0 M (by omega) (zFr_rf _ _) hA
abbrev zR_X10_riskiest : Room := { frames := 3, cells := 0, slots := 0, locals := 80 }
set_option maxRecDepth 20000 in
theorem zM_X10_riskiest (l : Launch) : ab_Met l zw_C vwCl zZ_C yX10_riskiest cX10_riskiest 9 (some .int) zR_X10_riskiest zt_X10_riskiest := ab_ofRun (G := zg_X10_riskiest) (P := zp_X10_riskiest) rfl zo_X10_riskiest (by decide +kernel) zl_cl zl_lamC zf_X10_ok zs_tabOK ab_Cst_nil ab_Sta_nil (List.forall_mem_cons.mpr ⟨ab_callV zZ_C_ok (zM_X10_sinceOf l) (ab_in 699 (by decide +kernel) rfl) (ab_in 696 (by decide +kernel) rfl) (ab_in 697 (by decide +kernel) rfl) (ab_in 698 (by decide +kernel) rfl) (ab_in 7 (by decide +kernel) rfl) (by unfold ab_yok; decide +kernel) ⟨rfl, rfl⟩ (by decide) zV_X10_sinceOf, List.forall_mem_cons.mpr ⟨ab_callV zZ_C_ok (zM_X1_ask l) (ab_in 590 (by decide +kernel) rfl) (ab_in 700 (by decide +kernel) rfl) (ab_in 588 (by decide +kernel) rfl) (ab_in 589 (by decide +kernel) rfl) (ab_in 6 (by decide +kernel) rfl) (by unfold ab_yok; decide +kernel) ⟨rfl, rfl⟩ (by decide) zV_X1_ask, List.forall_mem_nil _⟩⟩) (List.forall_mem_cons.mpr ⟨ab_callAbs (ab_in 693 (by decide +kernel) rfl) (ab_in 694 (by decide +kernel) rfl) (ab_in 18 (by decide +kernel) rfl) (ab_in 695 (by decide +kernel) rfl) (by decide) (by decide), List.forall_mem_nil _⟩) zE_X10_riskiest
def zp_X10_comes : ab_P := [(0, .iload_n 1, 1, [1], []),
  (1, .aload_n 0, 2, [0], []),
  (2, .getfield 29, 5, [], []),
  (5, .if_icmp .ne 16, 8, [21], []),
  (8, .iload_n 2, 9, [2], []),
  (9, .aload_n 0, 10, [0], []),
  (10, .getfield 32, 13, [], []),
  (13, .if_icmp .ne 8, 16, [21], []),
  (16, .aload_n 0, 17, [0], []),
  (17, .getfield 35, 20, [], []),
  (20, .ireturn, 21, [], []),
  (21, .iload_n 2, 22, [2], []),
  (22, .ifCond .ne 38, 25, [60], []),
  (25, .aload_n 0, 26, [0], []),
  (26, .getfield 48, 29, [], []),
  (29, .getfield 105, 32, [], []),
  (32, .iload_n 1, 33, [1], []),
  (33, .iaload, 34, [], []),
  (34, .iconst 4, 35, [], [4]),
  (35, .if_icmp .ne 15, 38, [50], []),
  (38, .aload_n 0, 39, [0], []),
  (39, .getfield 48, 42, [], []),
  (42, .getfield 93, 45, [], []),
  (45, .iload_n 1, 46, [1], []),
  (46, .iaload, 47, [], []),
  (47, .goto 12, 50, [59], []),
  (50, .aload_n 0, 51, [0], []),
  (51, .getfield 48, 54, [], []),
  (54, .getfield 90, 57, [], []),
  (57, .iload_n 1, 58, [1], []),
  (58, .iaload, 59, [], []),
  (59, .ireturn, 60, [], []),
  (60, .aload_n 0, 61, [0], []),
  (61, .iload_n 1, 62, [1], []),
  (62, .iload_n 2, 63, [2], []),
  (63, .iconst 1, 64, [], [1]),
  (64, .isub, 65, [], []),
  (65, .invokevirtual 65, 68, [], []),
  (68, .istore_n 3, 69, [3], []),
  (69, .aload_n 0, 70, [0], []),
  (70, .getfield 48, 73, [], []),
  (73, .getfield 105, 76, [], []),
  (76, .iload_n 1, 77, [1], []),
  (77, .iaload, 78, [], []),
  (78, .tableswitch 181 1 5 #[34, 124, 132, 34, 71], 112, [259, 112, 202, 210, 112, 149], [1, 2, 3, 4, 5]),
  (112, .aload_n 0, 113, [0], []),
  (113, .iload_n 1, 114, [1], []),
  (114, .iload_n 3, 115, [3], []),
  (115, .aload_n 0, 116, [0], []),
  (116, .getfield 21, 119, [], []),
  (119, .iload_n 1, 120, [1], []),
  (120, .baload, 121, [], []),
  (121, .ifCond .eq 15, 124, [136], []),
  (124, .aload_n 0, 125, [0], []),
  (125, .getfield 48, 128, [], []),
  (128, .getfield 90, 131, [], []),
  (131, .iload_n 1, 132, [1], []),
  (132, .iaload, 133, [], []),
  (133, .goto 12, 136, [145], []),
  (136, .aload_n 0, 137, [0], []),
  (137, .getfield 48, 140, [], []),
  (140, .getfield 93, 143, [], []),
  (143, .iload_n 1, 144, [1], []),
  (144, .iaload, 145, [], []),
  (145, .invokevirtual 108, 148, [], []),
  (148, .ireturn, 149, [], []),
  (149, .aload_n 0, 150, [0], []),
  (150, .getfield 48, 153, [], []),
  (153, .iload_n 1, 154, [1], []),
  (154, .iload_n 2, 155, [2], []),
  (155, .invokevirtual 96, 158, [], []),
  (158, .ifCond .eq 42, 161, [200], []),
  (161, .aload_n 0, 162, [0], []),
  (162, .iload_n 1, 163, [1], []),
  (163, .iload_n 3, 164, [3], []),
  (164, .aload_n 0, 165, [0], []),
  (165, .getfield 21, 168, [], []),
  (168, .iload_n 1, 169, [1], []),
  (169, .baload, 170, [], []),
  (170, .ifCond .eq 15, 173, [185], []),
  (173, .aload_n 0, 174, [0], []),
  (174, .getfield 48, 177, [], []),
  (177, .getfield 90, 180, [], []),
  (180, .iload_n 1, 181, [1], []),
  (181, .iaload, 182, [], []),
  (182, .goto 12, 185, [194], []),
  (185, .aload_n 0, 186, [0], []),
  (186, .getfield 48, 189, [], []),
  (189, .getfield 93, 192, [], []),
  (192, .iload_n 1, 193, [1], []),
  (193, .iaload, 194, [], []),
  (194, .invokevirtual 108, 197, [], []),
  (197, .goto 4, 200, [201], []),
  (200, .iload_n 3, 201, [3], []),
  (201, .ireturn, 202, [], []),
  (202, .aload_n 0, 203, [0], []),
  (203, .iload_n 1, 204, [1], []),
  (204, .iload_n 2, 205, [2], []),
  (205, .iload_n 3, 206, [3], []),
  (206, .invokevirtual 112, 209, [], []),
  (209, .ireturn, 210, [], []),
  (210, .aload_n 0, 211, [0], []),
  (211, .getfield 48, 214, [], []),
  (214, .getfield 115, 217, [], []),
  (217, .iload_n 1, 218, [1], []),
  (218, .bipush 12, 220, [], [12]),
  (220, .imul, 221, [], []),
  (221, .iload_n 2, 222, [2], []),
  (222, .iadd, 223, [], []),
  (223, .iaload, 224, [], []),
  (224, .istore 4, 226, [], []),
  (226, .aload_n 0, 227, [0], []),
  (227, .iload_n 1, 228, [1], []),
  (228, .iload_n 3, 229, [3], []),
  (229, .aload_n 0, 230, [0], []),
  (230, .getfield 44, 233, [], []),
  (233, .iload 4, 235, [], []),
  (235, .invokevirtual 118, 238, [], []),
  (238, .ifCond .eq 8, 241, [246], []),
  (241, .iload 4, 243, [], []),
  (243, .goto 12, 246, [255], []),
  (246, .aload_n 0, 247, [0], []),
  (247, .getfield 48, 250, [], []),
  (250, .getfield 90, 253, [], []),
  (253, .iload_n 1, 254, [1], []),
  (254, .iaload, 255, [], []),
  (255, .invokevirtual 108, 258, [], []),
  (258, .ireturn, 259, [], []),
  (259, .aload_n 0, 260, [0], []),
  (260, .iload_n 1, 261, [1], []),
  (261, .iload_n 3, 262, [3], []),
  (262, .aload_n 0, 263, [0], []),
  (263, .getfield 48, 266, [], []),
  (266, .getfield 90, 269, [], []),
  (269, .iload_n 1, 270, [1], []),
  (270, .iaload, 271, [], []),
  (271, .invokevirtual 108, 274, [], []),
  (274, .ireturn, 275, [], [])]
theorem zo_X10_comes : ab_ok cX10_comes zp_X10_comes = true := by decide +kernel
def zg_X10_comes : ab_G := (zw_C, zs_tab, zf_X10, [], [], [(65, 3, zt_X10_placeOf), (96, 3, zt_X5_awake), (108, 4, zt_X10_towards), (112, 4, zt_X10_riskiest), (118, 2, zt_X2_has)], [])
theorem zm_X10_comes : ab_MG zg_X10_comes := ab_MGof (List.forall_mem_cons.mpr ⟨ab_pp_mono _, List.forall_mem_cons.mpr ⟨ab_pp_mono _, List.forall_mem_cons.mpr ⟨ab_pp_mono _, List.forall_mem_cons.mpr ⟨zt_X10_riskiest_mono, List.forall_mem_cons.mpr ⟨ab_pure_mono _, List.forall_mem_nil _⟩⟩⟩⟩⟩) (List.forall_mem_nil _)
abbrev zr_X10_comes (Q : ab_R) : ab_K := ab_Run zg_X10_comes zp_X10_comes (some .int) 5 Q
set_option maxRecDepth 20000 in
theorem zv_X10_comes_0 {Q : ab_R} {M : ab_M} {N : ab_N} (l1 : Int32) (l2 : Int32) (h : (l1 = (M 6 8) → (l2 = (M 6 9) → Q (some (.int (M 6 10))) M N) ∧ (¬ (l2 = (M 6 9)) → zr_X10_comes Q 21 [some (.ref 6), some (.int l1), some (.int l2), none, none] [] M N)) ∧ (¬ (l1 = (M 6 8)) → zr_X10_comes Q 21 [some (.ref 6), some (.int l1), some (.int l2), none, none] [] M N)) : zr_X10_comes Q 0 [some (.ref 6), some (.int l1), some (.int l2)] [] M N := ab_Run_s zm_X10_comes (sp := [(21, [true, true, true, false, false]), (209, [false, false, false, false, false])]) 140 h
set_option maxRecDepth 20000 in
theorem zv_X10_comes_21 {Q : ab_R} {M : ab_M} {N : ab_N} (l1 : Int32) (l2 : Int32) (h : (l2 = 0 → vp_in l1 5 ∧ (((M 25 l1.toNatClampNeg) = (4 : Int32) → vp_in l1 5 ∧ (Q (some (.int (M 27 l1.toNatClampNeg))) M N)) ∧ (¬ ((M 25 l1.toNatClampNeg) = (4 : Int32)) → vp_in l1 5 ∧ (Q (some (.int (M 26 l1.toNatClampNeg))) M N)))) ∧ (¬ (l2 = 0) → (vp_in ((l2 - (1 : Int32)) * 5 + l1) 60) ∧ (vp_in l1 5 ∧ (((M 25 l1.toNatClampNeg) = 1 → vp_in l1 5 ∧ (((M 40 l1.toNatClampNeg) = 0 → vp_in l1 5 ∧ ((vp_in l1 5) ∧ (Q (some (.int (zTow ((M 28) l1.toNatClampNeg) ((M 37) ((l2 - (1 : Int32)) * 5 + l1).toNatClampNeg) (M 27 l1.toNatClampNeg)))) M N))) ∧ (¬ ((M 40 l1.toNatClampNeg) = 0) → vp_in l1 5 ∧ ((vp_in l1 5) ∧ (Q (some (.int (zTow ((M 28) l1.toNatClampNeg) ((M 37) ((l2 - (1 : Int32)) * 5 + l1).toNatClampNeg) (M 26 l1.toNatClampNeg)))) M N))))) ∧ (¬ (M 25 l1.toNatClampNeg) = 1 → ((M 25 l1.toNatClampNeg) = 2 → zt_X10_riskiest [.ref 6, .int l1, .int l2, .int ((M 37) ((l2 - (1 : Int32)) * 5 + l1).toNatClampNeg)] M N (fun r M2 N2 => zr_X10_comes Q 209 [none, none, none, none, none] (ab_ol r []) M2 N2)) ∧ (¬ (M 25 l1.toNatClampNeg) = 2 → ((M 25 l1.toNatClampNeg) = 3 → vp_in ((l1 * (12 : Int32)) + l2) 60 ∧ (((ab_b (0 ≤ (M 30 ((l1 * (12 : Int32)) + l2).toNatClampNeg) ∧ (M 30 ((l1 * (12 : Int32)) + l2).toNatClampNeg) < (M 1) 4 ∧ (M 30 ((l1 * (12 : Int32)) + l2).toNatClampNeg) < 8)) = 0 → vp_in l1 5 ∧ ((vp_in l1 5) ∧ (Q (some (.int (zTow ((M 28) l1.toNatClampNeg) ((M 37) ((l2 - (1 : Int32)) * 5 + l1).toNatClampNeg) (M 26 l1.toNatClampNeg)))) M N))) ∧ (¬ ((ab_b (0 ≤ (M 30 ((l1 * (12 : Int32)) + l2).toNatClampNeg) ∧ (M 30 ((l1 * (12 : Int32)) + l2).toNatClampNeg) < (M 1) 4 ∧ (M 30 ((l1 * (12 : Int32)) + l2).toNatClampNeg) < 8)) = 0) → (vp_in l1 5) ∧ (Q (some (.int (zTow ((M 28) l1.toNatClampNeg) ((M 37) ((l2 - (1 : Int32)) * 5 + l1).toNatClampNeg) (M 30 ((l1 * (12 : Int32)) + l2).toNatClampNeg)))) M N)))) ∧ (¬ (M 25 l1.toNatClampNeg) = 3 → ((M 25 l1.toNatClampNeg) = 4 → vp_in l1 5 ∧ (((M 40 l1.toNatClampNeg) = 0 → vp_in l1 5 ∧ ((vp_in l1 5) ∧ (Q (some (.int (zTow ((M 28) l1.toNatClampNeg) ((M 37) ((l2 - (1 : Int32)) * 5 + l1).toNatClampNeg) (M 27 l1.toNatClampNeg)))) M N))) ∧ (¬ ((M 40 l1.toNatClampNeg) = 0) → vp_in l1 5 ∧ ((vp_in l1 5) ∧ (Q (some (.int (zTow ((M 28) l1.toNatClampNeg) ((M 37) ((l2 - (1 : Int32)) * 5 + l1).toNatClampNeg) (M 26 l1.toNatClampNeg)))) M N))))) ∧ (¬ (M 25 l1.toNatClampNeg) = 4 → ((M 25 l1.toNatClampNeg) = 5 → (vp_in l1 5) ∧ (((ab_b (zAwk ((M 25) l1.toNatClampNeg) ((M 29) l1.toNatClampNeg) l2)) = 0 → Q (some (.int ((M 37) ((l2 - (1 : Int32)) * 5 + l1).toNatClampNeg))) M N) ∧ (¬ ((ab_b (zAwk ((M 25) l1.toNatClampNeg) ((M 29) l1.toNatClampNeg) l2)) = 0) → vp_in l1 5 ∧ (((M 40 l1.toNatClampNeg) = 0 → vp_in l1 5 ∧ ((vp_in l1 5) ∧ (Q (some (.int (zTow ((M 28) l1.toNatClampNeg) ((M 37) ((l2 - (1 : Int32)) * 5 + l1).toNatClampNeg) (M 27 l1.toNatClampNeg)))) M N))) ∧ (¬ ((M 40 l1.toNatClampNeg) = 0) → vp_in l1 5 ∧ ((vp_in l1 5) ∧ (Q (some (.int (zTow ((M 28) l1.toNatClampNeg) ((M 37) ((l2 - (1 : Int32)) * 5 + l1).toNatClampNeg) (M 26 l1.toNatClampNeg)))) M N))))))) ∧ (¬ (M 25 l1.toNatClampNeg) = 5 → vp_in l1 5 ∧ ((vp_in l1 5) ∧ (Q (some (.int (zTow ((M 28) l1.toNatClampNeg) ((M 37) ((l2 - (1 : Int32)) * 5 + l1).toNatClampNeg) (M 26 l1.toNatClampNeg)))) M N))))))))))) : zr_X10_comes Q 21 [some (.ref 6), some (.int l1), some (.int l2), none, none] [] M N := ab_Run_s zm_X10_comes (sp := [(21, [true, true, true, false, false]), (209, [false, false, false, false, false])]) 140 h
set_option maxRecDepth 20000 in
theorem zv_X10_comes_209 {Q : ab_R} {M : ab_M} {N : ab_N} (s0 : Int32) (h : Q (some (.int s0)) M N) : zr_X10_comes Q 209 [none, none, none, none, none] [.int s0] M N := ab_Run_s zm_X10_comes (sp := [(21, [true, true, true, false, false]), (209, [false, false, false, false, false])]) 140 h
theorem zE_X10_comes (as : List Value) (M : ab_M) (N : ab_N) (k : ab_R) (hT : zt_X10_comes as M N k) : ab_cs as ≤ 5 ∧ zr_X10_comes k 0 (ab_en as) [] M N := by
  obtain ⟨m, h, rfl, ⟨hN, mm, g, hm, hg, rfl, rfl, hsc⟩, hk⟩ := ab_m2_e hT
  obtain ⟨hA, h0, h1⟩ := id hN
  have hm5 := (zM_eq h0).2
  refine ⟨Nat.le_of_ble_eq_true rfl, zv_X10_comes_0 _ _ ?_⟩
  rw [nI_clamp (show g < 2 ^ 31 by omega), nI_clamp (show mm < 2 ^ 31 by omega)] at hk
  have hq : ∀ x, x = zCome M g (fun i => M 37 ((g - 1) * 5 + i)) (M 40) (zScM M g) mm → k (some (.int x)) M N := fun x hx => hk _ M N ⟨rfl, zFr_rf _ _, hA, by rw [hx]⟩
  have hin : vp_in (nI mm) 5 := nI_in_ (by omega)
  have key : (¬ (nI mm = M 6 8 ∧ nI g = M 6 9)) → zr_X10_comes k 21 [some (.ref 6), some (.int (nI mm)), some (.int (nI g)), none, none] [] M N := by
    intro hne
    refine zv_X10_comes_21 _ _ ?_
    rw [nI_clamp (show mm < 2 ^ 31 by omega)]
    match g, hg, hsc, hk, hq, hne with
    | 0, hg, hsc, hk, hq, hne =>
      refine ⟨fun _ => ⟨hin, fun c => ⟨hin, hq _ ?_⟩, fun c => ⟨hin, hq _ ?_⟩⟩, fun c => absurd rfl c⟩
      · rw [zCome, if_neg hne, if_pos rfl, if_pos c]
      · rw [zCome, if_neg hne, if_pos rfl, if_neg c]
    | g + 1, hg, hsc, hk, hq, hne =>
      refine ⟨fun c => absurd c (nI_ne0 (by omega) (by omega)), fun _ => ?_⟩
      have ei : (nI (g + 1) - 1) * 5 + nI mm = nI (g * 5 + mm) := by rw [nI_pred, zN_mul g 5 5, nI_add]
      have ej : nI mm * 12 + nI (g + 1) = nI (mm * 12 + (g + 1)) := by rw [zN_mul mm 12 12, nI_add]
      rw [ei, ej, nI_clamp (show g * 5 + mm < 2 ^ 31 by omega), nI_clamp (show mm * 12 + (g + 1) < 2 ^ 31 by omega)]
      have hij : vp_in (nI (g * 5 + mm)) 60 := nI_in_ (by omega)
      have hik : vp_in (nI (mm * 12 + (g + 1))) 60 := nI_in_ (by omega)
      have hz : zCome M (g + 1) (fun i => M 37 ((g + 1 - 1) * 5 + i)) (M 40) (zScM M (g + 1)) mm = if M 25 mm = 1 ∨ M 25 mm = 4 then zTow (M 28 mm) (M 37 (g * 5 + mm)) (if M 40 mm = 0 then M 27 mm else M 26 mm)
        else if M 25 mm = 5 then (if zAwk (M 25 mm) (M 29 mm) (nI (g + 1)) then zTow (M 28 mm) (M 37 (g * 5 + mm)) (if M 40 mm = 0 then M 27 mm else M 26 mm) else M 37 (g * 5 + mm))
        else if M 25 mm = 2 then (zRiskF M (g + 1) (zScM M (g + 1)) (M 28 mm) (M 37 (g * 5 + mm)) (zPcs M)).1
        else if M 25 mm = 3 then zTow (M 28 mm) (M 37 (g * 5 + mm)) (if 0 ≤ M 30 (mm * 12 + (g + 1)) ∧ M 30 (mm * 12 + (g + 1)) < M 1 4 ∧ M 30 (mm * 12 + (g + 1)) < 8 then M 30 (mm * 12 + (g + 1)) else M 26 mm)
        else zTow (M 28 mm) (M 37 (g * 5 + mm)) (M 26 mm) := by
        rw [zCome, if_neg hne, if_neg (by omega)]; rfl
      rw [hz] at hq
      refine ⟨hij, hin, fun a1 => ⟨hin, fun c => ⟨hin, hin, hq _ ?_⟩, fun c => ⟨hin, hin, hq _ ?_⟩⟩, fun a1 => ⟨fun a2 => ?_, fun a2 => ⟨fun a3 => ⟨hik, fun c => ⟨hin, hin, hq _ ?_⟩, fun c => ⟨hin, hq _ ?_⟩⟩, fun a3 => ⟨fun a4 => ⟨hin, fun c => ⟨hin, hin, hq _ ?_⟩, fun c => ⟨hin, hin, hq _ ?_⟩⟩, fun a4 => ⟨fun a5 => ⟨hin, fun b => hq _ ?_, fun b => ⟨hin, fun c => ⟨hin, hin, hq _ ?_⟩, fun c => ⟨hin, hin, hq _ ?_⟩⟩⟩, fun a5 => ⟨hin, hin, hq _ ?_⟩⟩⟩⟩⟩⟩
      · rw [if_pos (Or.inl a1), if_pos c]
      · rw [if_pos (Or.inl a1), if_neg c]
      · refine ab_m3_i ⟨hN, mm, g + 1, hm, hg, rfl, rfl, hsc⟩ ?_
        rintro o M2 N2 ⟨rfl, hF2, hA2, rfl⟩
        refine zv_X10_comes_209 _ (hk _ M2 N2 ⟨rfl, hF2, hA2, ?_⟩)
        rw [hz, nI_clamp (show g + 1 < 2 ^ 31 by omega), nI_clamp (show mm < 2 ^ 31 by omega), if_neg (by rw [a2]; decide), if_neg (by rw [a2]; decide), if_pos a2]
      · rw [if_neg (by rw [a3]; decide), if_neg (by rw [a3]; decide), if_neg a2, if_pos a3, if_neg (ab_b_0.mp c)]
      · rw [if_neg (by rw [a3]; decide), if_neg (by rw [a3]; decide), if_neg a2, if_pos a3, if_pos (Decidable.not_not.mp (fun q => c (ab_b_0.mpr q)))]
      · rw [if_pos (Or.inr a4), if_pos c]
      · rw [if_pos (Or.inr a4), if_neg c]
      · rw [if_neg (fun q => q.elim a1 a4), if_pos a5, if_neg (ab_b_0.mp b)]
      · rw [if_neg (fun q => q.elim a1 a4), if_pos a5, if_pos (Decidable.not_not.mp (fun q => b (ab_b_0.mpr q))), if_pos c]
      · rw [if_neg (fun q => q.elim a1 a4), if_pos a5, if_pos (Decidable.not_not.mp (fun q => b (ab_b_0.mpr q))), if_neg c]
      · rw [if_neg (fun q => q.elim a1 a4), if_neg a5, if_neg a2, if_neg a3]
  refine ⟨fun c1 => ⟨fun c2 => hq _ ?_, fun c2 => key (fun q => c2 q.2)⟩, fun c1 => key (fun q => c1 q.1)⟩
  rw [zCome, if_pos ⟨c1, c2⟩]
abbrev zR_X10_comes : Room := { frames := 4, cells := 0, slots := 0, locals := 108 }
set_option maxRecDepth 20000 in
theorem zM_X10_comes (l : Launch) : ab_Met l zw_C vwCl zZ_C yX10_comes cX10_comes 5 (some .int) zR_X10_comes zt_X10_comes := ab_ofRun (G := zg_X10_comes) (P := zp_X10_comes) rfl zo_X10_comes (by decide +kernel) zl_cl zl_lamC zf_X10_ok zs_tabOK ab_Cst_nil ab_Sta_nil (List.forall_mem_cons.mpr ⟨ab_callV zZ_C_ok (zM_X10_placeOf l) (ab_in 678 (by decide +kernel) rfl) (ab_in 675 (by decide +kernel) rfl) (ab_in 676 (by decide +kernel) rfl) (ab_in 677 (by decide +kernel) rfl) (ab_in 7 (by decide +kernel) rfl) (by unfold ab_yok; decide +kernel) ⟨rfl, rfl⟩ (by decide) zV_X10_placeOf, List.forall_mem_cons.mpr ⟨ab_callV zZ_C_ok (zM_X5_awake l) (ab_in 688 (by decide +kernel) rfl) (ab_in 685 (by decide +kernel) rfl) (ab_in 686 (by decide +kernel) rfl) (ab_in 687 (by decide +kernel) rfl) (ab_in 3 (by decide +kernel) rfl) (by unfold ab_yok; decide +kernel) ⟨rfl, rfl⟩ (by decide) zV_X5_awake, List.forall_mem_cons.mpr ⟨ab_callV zZ_C_ok (zM_X10_towards l) (ab_in 682 (by decide +kernel) rfl) (ab_in 679 (by decide +kernel) rfl) (ab_in 681 (by decide +kernel) rfl) (ab_inS (List.mem_of_getElem? (i := 15) (by decide +kernel)) rfl) (ab_in 7 (by decide +kernel) rfl) (by unfold ab_yok; decide +kernel) ⟨rfl, rfl⟩ (by decide) zV_X10_towards, List.forall_mem_cons.mpr ⟨ab_callV zZ_C_ok (zM_X10_riskiest l) (ab_in 692 (by decide +kernel) rfl) (ab_in 689 (by decide +kernel) rfl) (ab_in 691 (by decide +kernel) rfl) (ab_inS (List.mem_of_getElem? (i := 16) (by decide +kernel)) rfl) (ab_in 7 (by decide +kernel) rfl) (by unfold ab_yok; decide +kernel) ⟨rfl, rfl⟩ (by decide) zV_X10_riskiest, List.forall_mem_cons.mpr ⟨ab_callV zZ_C_ok (zM_X2_has l) (ab_in 554 (by decide +kernel) rfl) (ab_in 701 (by decide +kernel) rfl) (ab_in 552 (by decide +kernel) rfl) (ab_in 553 (by decide +kernel) rfl) (ab_in 2 (by decide +kernel) rfl) (by unfold ab_yok; decide +kernel) ⟨rfl, rfl⟩ (by decide) zV_X2_has, List.forall_mem_nil _⟩⟩⟩⟩⟩) (List.forall_mem_nil _) zE_X10_comes
