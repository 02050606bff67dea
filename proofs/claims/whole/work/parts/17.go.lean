/-! Walk.go *)
-/
def zPrev (d : ab_M) : Nat → zSt
  | 0 => zS0
  | h + 1 => zWk d h
theorem zWk_eq (d : ab_M) (h : Nat) : zWk d h = zHr d h (zPrev d h) := by cases h <;> rfl
def zSc (d : ab_M) (h : Nat) (p : Nat) : Nat := if h = 0 ∨ ¬ (zPrev d h).2.2.2 p = 0 then 1 else (zPrev d h).2.2.1 p + 1
theorem zWk_pl (d : ab_M) (h : Nat) : (zWk d h).1 = zCome d h (zPrev d h).1 (zPrev d h).2.1 (zSc d h) := by rw [zWk_eq]; rfl
theorem zWk_bk (d : ab_M) (h m : Nat) : (zWk d h).2.1 m = zBack d h (zPrev d h).2.1 m ((zWk d h).1 m) := by rw [zWk_eq]; rfl
theorem zWk_sc (d : ab_M) (h : Nat) : (zWk d h).2.2.1 = zSc d h := by rw [zWk_eq]; rfl
theorem zWk_lk (d : ab_M) (h : Nat) : (zWk d h).2.2.2 = zLk d h (zWk d h).1 (zMen d) := by rw [zWk_eq]; rfl
theorem zSc_le (d : ab_M) (p : Nat) : ∀ h, 1 ≤ zSc d h p ∧ zSc d h p ≤ h + 1
  | 0 => by unfold zSc; rw [if_pos (Or.inl rfl)]; omega
  | h + 1 => by
    have ih := zSc_le d p h
    have e : (zPrev d (h + 1)).2.2.1 p = zSc d h p := by show (zWk d h).2.2.1 p = _; rw [zWk_sc]
    unfold zSc
    by_cases c : h + 1 = 0 ∨ ¬ (zPrev d (h + 1)).2.2.2 p = 0
    · rw [if_pos c]; omega
    · rw [if_neg c, e]; omega
theorem zRiskF_congr {d : ab_M} {h : Nat} {sc sc2 : Nat → Nat} {v f : Int32} : ∀ p, (∀ q, q < p → sc q = sc2 q) → zRiskF d h sc v f p = zRiskF d h sc2 v f p
  | 0, _ => rfl
  | p + 1, hs => by
    rw [zRiskF, zRiskF, zRiskF_congr p (fun q hq => hs q (by omega)), hs p (by omega)]
theorem zRiskF_rng {d : ab_M} {h : Nat} {sc : Nat → Nat} {v f : Int32} : ∀ p, (zRiskF d h sc v f p).1 = f ∨ ∃ q, q < p ∧ (zRiskF d h sc v f p).1 = nI q
  | 0 => Or.inl rfl
  | p + 1 => by
    have ih := zRiskF_rng (d := d) (h := h) (sc := sc) (v := v) (f := f) p
    have up : (zRiskF d h sc v f p).1 = f ∨ ∃ q, q < p + 1 ∧ (zRiskF d h sc v f p).1 = nI q := ih.imp id (fun ⟨q, h1, h2⟩ => ⟨q, by omega, h2⟩)
    rw [zRiskF]
    split
    · split
      · exact Or.inr ⟨p, by omega, rfl⟩
      · exact up
    · exact up
theorem zCome_congr {d d2 : ab_M} {h m : Nat} {pl pl2 bk bk2 : Nat → Int32} {sc sc2 : Nat → Nat} (h1 : d2 1 = d 1) (h6 : d2 6 = d 6) (h25 : d2 25 = d 25) (h26 : d2 26 = d 26) (h27 : d2 27 = d 27) (h28 : d2 28 = d 28) (h29 : d2 29 = d 29) (h30 : d2 30 = d 30) (hA : zAsk d2 = zAsk d) (hpl : 0 < h → pl2 m = pl m) (hbk : 0 < h → bk2 m = bk m) (hsc : ∀ p, p < zPcs d → sc2 p = sc p) : zCome d2 h pl2 bk2 sc2 m = zCome d h pl bk sc m := by
  have hP : zPcs d2 = zPcs d := by unfold zPcs; rw [h1]
  have hR : ∀ v f, zRiskF d2 h sc2 v f (zPcs d) = zRiskF d h sc v f (zPcs d) := by
    intro v f
    rw [zRiskF_congr (zPcs d) hsc]
    generalize zPcs d = n
    induction n with
    | zero => rfl
    | succ n ih => rw [zRiskF, zRiskF, ih, hA]
  unfold zCome
  rw [h1, h6, h25, h26, h27, h28, h29, h30, hP, hR]
  by_cases e : h = 0
  · simp only [if_pos e]
  · rw [hpl (by omega), hbk (by omega)]
theorem zTow_rng {v f t P : Int32} (hv : 1 ≤ v ∧ v ≤ 3) (hf : 0 ≤ f ∧ f < P) (ht : 0 ≤ t ∧ t < P) (hP : P ≤ 8) : 0 ≤ zTow v f t ∧ zTow v f t < P := by
  unfold zTow; grind
theorem zCome_rng {d : ab_M} {h m : Nat} {pl bk : Nat → Int32} {sc : Nat → Nat} (h0 : zI0 d) (h1 : zI1 d) (hm : m < zMen d) (hpl : 0 < h → 0 ≤ pl m ∧ pl m < d 1 4) : 0 ≤ zCome d h pl bk sc m ∧ zCome d h pl bk sc m < d 1 4 := by
  obtain ⟨-, g26, g27, g28, -, g6⟩ := h1 m hm
  have hP := h0.2.2.2.2.2.1.2
  unfold zCome
  split
  · rename_i c; exact g6 c.1
  split
  · split
    · exact g27
    · exact g26
  rename_i hh
  have hpl := hpl (by omega)
  have hpe : 0 ≤ (if bk m = 0 then d 27 m else d 26 m) ∧ (if bk m = 0 then d 27 m else d 26 m) < d 1 4 := by
    split
    · exact g27
    · exact g26
  split
  · exact zTow_rng g28 hpl hpe hP
  split
  · split
    · exact zTow_rng g28 hpl hpe hP
    · exact hpl
  split
  · rcases zRiskF_rng (d := d) (h := h) (sc := sc) (v := d 28 m) (f := pl m) (zPcs d) with e | ⟨q, hq, e⟩
    · rw [e]; exact hpl
    · rw [e]
      obtain ⟨e1, e2⟩ := zP_eq h0
      rw [e1]
      exact ⟨nI_pos' (by omega), nI_lt hq (by omega)⟩
  split
  · refine zTow_rng g28 hpl ?_ hP
    split
    · rename_i c; exact ⟨c.1, c.2.1⟩
    · exact g26
  · exact zTow_rng g28 hpl g26 hP
theorem zWk_rng {d : ab_M} (h0 : zI0 d) (h1 : zI1 d) {m : Nat} (hm : m < zMen d) : ∀ h, 0 ≤ (zWk d h).1 m ∧ (zWk d h).1 m < d 1 4
  | 0 => by rw [zWk_pl]; exact zCome_rng h0 h1 hm (fun q => by omega)
  | h + 1 => by rw [zWk_pl]; exact zCome_rng h0 h1 hm (fun _ => zWk_rng h0 h1 hm h)
theorem zWk_nat {d : ab_M} (h0 : zI0 d) (h1 : zI1 d) {m : Nat} (hm : m < zMen d) (h : Nat) : ∃ q, q < zPcs d ∧ (zWk d h).1 m = nI q := by
  obtain ⟨a, b⟩ := zWk_rng h0 h1 hm h
  obtain ⟨e1, e2⟩ := zP_eq h0
  obtain ⟨j, hj, e⟩ := nI_of (Int32.not_lt.mpr a)
  rw [e, e1] at b
  exact ⟨j, (nI_ltI hj (by omega)).mp b, e⟩
theorem vp_nar_b {c : Prop} [Decidable c] : vp_nar .boolean (ab_b c) = ab_b c := by unfold ab_b; split <;> rfl
abbrev zGo : List Nat := [33, 35, 36, 37, 38, 39, 40]
theorem zNight_of {M M2 : ab_M} (hN : zNight M) (hA : zAsks M2) (hF : zFr zGo M M2) : zNight M2 := by
  obtain ⟨-, h0, h1⟩ := hN
  refine ⟨hA, ?_, ?_⟩
  · unfold zI0 at h0 ⊢
    rw [hF 17 (by decide), hF 1 (by decide), hF 2 (by decide)]
    exact h0
  · unfold zI1 zMen at h1 ⊢
    rw [hF 2 (by decide), hF 25 (by decide), hF 26 (by decide), hF 27 (by decide), hF 28 (by decide), hF 29 (by decide), hF 1 (by decide), hF 6 (by decide)]
    exact h1
theorem zAsk_go {M M2 : ab_M} (h : zFr zGo M M2) : zAsk M2 = zAsk M := by
  funext th p h2 st pc
  unfold zAsk zIs
  rw [zAskN_fr (h 3 (by decide)) (h 13 (by decide)) (h 14 (by decide)) (h 17 (by decide)) (h 18 (by decide)) (h 31 (by decide)) (h 32 (by decide)), h 15 (by decide)]
/-- only cells that asking doesn't see -/
theorem zAsks_go {M M2 : ab_M} (h : zAsks M) (hF : zFr [37, 38, 39, 40] M M2) : zAsks M2 := by
  obtain ⟨h1, h2, h3⟩ := h
  refine ⟨?_, zCache_fr h2 (hF 3 (by decide)) (by rw [hF 5 (by decide)]) (hF 13 (by decide)) (hF 14 (by decide)) (hF 17 (by decide)) (hF 18 (by decide)) (hF 31 (by decide)) (hF 32 (by decide)) (hF 36 (by decide)), ?_⟩
  · unfold zLawOK at h1 ⊢
    rw [hF 3 (by decide), hF 32 (by decide)]
    exact h1
  · rw [hF 15 (by decide)]
    exact h3
def zp_X10_go : ab_P := [(0, .iconst 0, 1, [], [0]),
  (1, .istore_n 1, 2, [1], []),
  (2, .iload_n 1, 3, [1], []),
  (3, .aload_n 0, 4, [0], []),
  (4, .getfield 44, 7, [], []),
  (7, .getfield 69, 10, [], []),
  (10, .iconst 0, 11, [], [0]),
  (11, .iaload, 12, [], []),
  (12, .if_icmp .ge 207, 15, [219], []),
  (15, .iconst 0, 16, [], [0]),
  (16, .istore_n 2, 17, [2], []),
  (17, .iload_n 2, 18, [2], []),
  (18, .aload_n 0, 19, [0], []),
  (19, .getfield 44, 22, [], []),
  (22, .getfield 74, 25, [], []),
  (25, .if_icmp .ge 64, 28, [89], []),
  (28, .iload_n 1, 29, [1], []),
  (29, .bipush 8, 31, [], [8]),
  (31, .imul, 32, [], []),
  (32, .iload_n 2, 33, [2], []),
  (33, .iadd, 34, [], []),
  (34, .istore_n 3, 35, [3], []),
  (35, .aload_n 0, 36, [0], []),
  (36, .getfield 18, 39, [], []),
  (39, .iload_n 3, 40, [3], []),
  (40, .iload_n 1, 41, [1], []),
  (41, .ifCond .eq 14, 44, [55], []),
  (44, .aload_n 0, 45, [0], []),
  (45, .iload_n 2, 46, [2], []),
  (46, .iload_n 1, 47, [1], []),
  (47, .iconst 1, 48, [], [1]),
  (48, .isub, 49, [], []),
  (49, .invokevirtual 77, 52, [], []),
  (52, .ifCond .eq 7, 55, [59], []),
  (55, .iconst 1, 56, [], [1]),
  (56, .goto 14, 59, [70], []),
  (59, .aload_n 0, 60, [0], []),
  (60, .getfield 18, 63, [], []),
  (63, .iload_n 3, 64, [3], []),
  (64, .bipush 8, 66, [], [8]),
  (66, .isub, 67, [], []),
  (67, .iaload, 68, [], []),
  (68, .iconst 1, 69, [], [1]),
  (69, .iadd, 70, [], []),
  (70, .iastore, 71, [], []),
  (71, .aload_n 0, 72, [0], []),
  (72, .getfield 15, 75, [], []),
  (75, .iload_n 3, 76, [3], []),
  (76, .aload_n 0, 77, [0], []),
  (77, .iload_n 2, 78, [2], []),
  (78, .iload_n 1, 79, [1], []),
  (79, .invokevirtual 81, 82, [], []),
  (82, .iastore, 83, [], []),
  (83, .iinc 2 1, 86, [], [1]),
  (86, .goto (-69), 89, [17], []),
  (89, .iconst 0, 90, [], [0]),
  (90, .istore_n 2, 91, [2], []),
  (91, .iload_n 2, 92, [2], []),
  (92, .aload_n 0, 93, [0], []),
  (93, .getfield 48, 96, [], []),
  (96, .getfield 84, 99, [], []),
  (99, .if_icmp .ge 114, 102, [213], []),
  (102, .aload_n 0, 103, [0], []),
  (103, .iload_n 2, 104, [2], []),
  (104, .iload_n 1, 105, [1], []),
  (105, .invokevirtual 87, 108, [], []),
  (108, .istore_n 3, 109, [3], []),
  (109, .aload_n 0, 110, [0], []),
  (110, .getfield 9, 113, [], []),
  (113, .iload_n 1, 114, [1], []),
  (114, .iconst 5, 115, [], [5]),
  (115, .imul, 116, [], []),
  (116, .iload_n 2, 117, [2], []),
  (117, .iadd, 118, [], []),
  (118, .iload_n 3, 119, [3], []),
  (119, .iastore, 120, [], []),
  (120, .aload_n 0, 121, [0], []),
  (121, .getfield 21, 124, [], []),
  (124, .iload_n 2, 125, [2], []),
  (125, .iload_n 3, 126, [3], []),
  (126, .aload_n 0, 127, [0], []),
  (127, .getfield 48, 130, [], []),
  (130, .getfield 90, 133, [], []),
  (133, .iload_n 2, 134, [2], []),
  (134, .iaload, 135, [], []),
  (135, .if_icmp .eq 33, 138, [168], []),
  (138, .iload_n 3, 139, [3], []),
  (139, .aload_n 0, 140, [0], []),
  (140, .getfield 48, 143, [], []),
  (143, .getfield 93, 146, [], []),
  (146, .iload_n 2, 147, [2], []),
  (147, .iaload, 148, [], []),
  (148, .if_icmp .eq 16, 151, [164], []),
  (151, .iload_n 1, 152, [1], []),
  (152, .ifCond .le 16, 155, [168], []),
  (155, .aload_n 0, 156, [0], []),
  (156, .getfield 21, 159, [], []),
  (159, .iload_n 2, 160, [2], []),
  (160, .baload, 161, [], []),
  (161, .ifCond .eq 7, 164, [168], []),
  (164, .iconst 1, 165, [], [1]),
  (165, .goto 4, 168, [169], []),
  (168, .iconst 0, 169, [], [0]),
  (169, .bastore, 170, [], []),
  (170, .iload_n 2, 171, [2], []),
  (171, .aload_n 0, 172, [0], []),
  (172, .getfield 25, 175, [], []),
  (175, .if_icmp .eq 32, 178, [207], []),
  (178, .aload_n 0, 179, [0], []),
  (179, .getfield 48, 182, [], []),
  (182, .iload_n 2, 183, [2], []),
  (183, .iload_n 1, 184, [1], []),
  (184, .invokevirtual 96, 187, [], []),
  (187, .ifCond .eq 20, 190, [207], []),
  (190, .aload_n 0, 191, [0], []),
  (191, .getfield 15, 194, [], []),
  (194, .iload_n 1, 195, [1], []),
  (195, .bipush 8, 197, [], [8]),
  (197, .imul, 198, [], []),
  (198, .iload_n 3, 199, [3], []),
  (199, .iadd, 200, [], []),
  (200, .dup2, 201, [], []),
  (201, .iaload, 202, [], []),
  (202, .iconst 1, 203, [], [1]),
  (203, .iload_n 2, 204, [2], []),
  (204, .ishl, 205, [], []),
  (205, .ior, 206, [], []),
  (206, .iastore, 207, [], []),
  (207, .iinc 2 1, 210, [], [1]),
  (210, .goto (-119), 213, [91], []),
  (213, .iinc 1 1, 216, [], [1]),
  (216, .goto (-214), 219, [2], []),
  (219, .return_, 220, [], [])]
theorem zo_X10_go : ab_ok cX10_go zp_X10_go = true := by decide +kernel
def zg_X10_go : ab_G := (zw_C, zs_tab, zf_X10, [], [], [(77, 3, zt_X10_lookedAt), (81, 3, zt_X10_othersAt), (87, 3, zt_X10_comes), (96, 3, zt_X5_awake)], [])
theorem zm_X10_go : ab_MG zg_X10_go := ab_MGof (List.forall_mem_cons.mpr ⟨ab_pp_mono _, List.forall_mem_cons.mpr ⟨ab_pp_mono _, List.forall_mem_cons.mpr ⟨zt_X10_comes_mono, List.forall_mem_cons.mpr ⟨ab_pp_mono _, List.forall_mem_nil _⟩⟩⟩⟩) (List.forall_mem_nil _)
abbrev zr_X10_go (Q : ab_R) : ab_K := ab_Run zg_X10_go zp_X10_go none 4 Q
set_option maxRecDepth 20000 in
theorem zv_X10_go_0 {Q : ab_R} {M : ab_M} {N : ab_N}  (h : zr_X10_go Q 2 [some (.ref 6), some (.int (0 : Int32)), none, none] [] M N) : zr_X10_go Q 0 [some (.ref 6)] [] M N := ab_Run_s zm_X10_go (sp := [(2, [true, true, false, false]), (17, [true, true, true, false]), (70, [true, true, true, true]), (91, [true, true, true, false]), (108, [true, true, true, false]), (169, [true, true, true, true])]) 135 h
set_option maxRecDepth 20000 in
theorem zv_X10_go_2 {Q : ab_R} {M : ab_M} {N : ab_N} (l1 : Int32) (h : vp_in (0 : Int32) 5 ∧ (((M 17 0) ≤ l1 → Q none M N) ∧ (¬ ((M 17 0) ≤ l1) → zr_X10_go Q 17 [some (.ref 6), some (.int l1), some (.int (0 : Int32)), none] [] M N))) : zr_X10_go Q 2 [some (.ref 6), some (.int l1), none, none] [] M N := ab_Run_s zm_X10_go (sp := [(2, [true, true, false, false]), (17, [true, true, true, false]), (70, [true, true, true, true]), (91, [true, true, true, false]), (108, [true, true, true, false]), (169, [true, true, true, true])]) 135 h
set_option maxRecDepth 20000 in
theorem zv_X10_go_17 {Q : ab_R} {M : ab_M} {N : ab_N} (l1 : Int32) (l2 : Int32) (h : ((M 1 4) ≤ l2 → zr_X10_go Q 91 [some (.ref 6), some (.int l1), some (.int (0 : Int32)), none] [] M N) ∧ (¬ ((M 1 4) ≤ l2) → (l1 = 0 → zr_X10_go Q 70 [some (.ref 6), some (.int l1), some (.int l2), some (.int ((l1 * (8 : Int32)) + l2))] [.int (1 : Int32), .int ((l1 * (8 : Int32)) + l2), .ref 39] M N) ∧ (¬ (l1 = 0) → (vp_in ((l1 - (1 : Int32)) * 8 + l2) 96) ∧ (((ab_b (¬ (M 38) ((l1 - (1 : Int32)) * 8 + l2).toNatClampNeg = 0)) = 0 → vp_in (((l1 * (8 : Int32)) + l2) - (8 : Int32)) 96 ∧ (zr_X10_go Q 70 [some (.ref 6), some (.int l1), some (.int l2), some (.int ((l1 * (8 : Int32)) + l2))] [.int ((M 39 (((l1 * (8 : Int32)) + l2) - (8 : Int32)).toNatClampNeg) + (1 : Int32)), .int ((l1 * (8 : Int32)) + l2), .ref 39] M N)) ∧ (¬ ((ab_b (¬ (M 38) ((l1 - (1 : Int32)) * 8 + l2).toNatClampNeg = 0)) = 0) → zr_X10_go Q 70 [some (.ref 6), some (.int l1), some (.int l2), some (.int ((l1 * (8 : Int32)) + l2))] [.int (1 : Int32), .int ((l1 * (8 : Int32)) + l2), .ref 39] M N))))) : zr_X10_go Q 17 [some (.ref 6), some (.int l1), some (.int l2), none] [] M N := ab_Run_s zm_X10_go (sp := [(2, [true, true, false, false]), (17, [true, true, true, false]), (70, [true, true, true, true]), (91, [true, true, true, false]), (108, [true, true, true, false]), (169, [true, true, true, true])]) 135 h
set_option maxRecDepth 20000 in
theorem zv_X10_go_70 {Q : ab_R} {M : ab_M} {N : ab_N} (l1 : Int32) (l2 : Int32) (l3 : Int32) (s1 : Int32) (s2 : Int32) (h : vp_in s1 96 ∧ (let z1 : Nat → Int32 := upd (M 39) s1.toNatClampNeg s2; (vp_in l2 8) ∧ (vp_in l3 96 ∧ (let z2 : Nat → Int32 := upd (M 38) l3.toNatClampNeg (zOth ((M 1) 7) ((M 17) 3) ((M 17) 4) ((M 16) l2.toNatClampNeg) ((M 6) 11) ((M 6) 12) l2 l1); zr_X10_go Q 17 [some (.ref 6), some (.int l1), some (.int (l2 + (1 : Int32))), none] [] (ab_u (ab_u M 39 z1) 38 z2) N)))) : zr_X10_go Q 70 [some (.ref 6), some (.int l1), some (.int l2), some (.int l3)] [.int s2, .int s1, .ref 39] M N := ab_Run_s zm_X10_go (sp := [(2, [true, true, false, false]), (17, [true, true, true, false]), (70, [true, true, true, true]), (91, [true, true, true, false]), (108, [true, true, true, false]), (169, [true, true, true, true])]) 135 h
set_option maxRecDepth 20000 in
theorem zv_X10_go_91 {Q : ab_R} {M : ab_M} {N : ab_N} (l1 : Int32) (l2 : Int32) (h : ((M 2 6) ≤ l2 → zr_X10_go Q 2 [some (.ref 6), some (.int (l1 + (1 : Int32))), none, none] [] M N) ∧ (¬ ((M 2 6) ≤ l2) → zt_X10_comes [.ref 6, .int l2, .int l1] M N (fun r M2 N2 => zr_X10_go Q 108 [some (.ref 6), some (.int l1), some (.int l2), none] (ab_ol r []) M2 N2))) : zr_X10_go Q 91 [some (.ref 6), some (.int l1), some (.int l2), none] [] M N := ab_Run_s zm_X10_go (sp := [(2, [true, true, false, false]), (17, [true, true, true, false]), (70, [true, true, true, true]), (91, [true, true, true, false]), (108, [true, true, true, false]), (169, [true, true, true, true])]) 135 h
set_option maxRecDepth 20000 in
theorem zv_X10_go_108 {Q : ab_R} {M : ab_M} {N : ab_N} (l1 : Int32) (l2 : Int32) (s0 : Int32) (h : vp_in ((l1 * (5 : Int32)) + l2) 60 ∧ (let z1 : Nat → Int32 := upd (M 37) ((l1 * (5 : Int32)) + l2).toNatClampNeg s0; vp_in l2 5 ∧ ((s0 = (M 26 l2.toNatClampNeg) → zr_X10_go Q 169 [some (.ref 6), some (.int l1), some (.int l2), some (.int s0)] [.int (0 : Int32), .int l2, .ref 40] (ab_u M 37 z1) N) ∧ (¬ (s0 = (M 26 l2.toNatClampNeg)) → vp_in l2 5 ∧ ((s0 = (M 27 l2.toNatClampNeg) → zr_X10_go Q 169 [some (.ref 6), some (.int l1), some (.int l2), some (.int s0)] [.int (1 : Int32), .int l2, .ref 40] (ab_u M 37 z1) N) ∧ (¬ (s0 = (M 27 l2.toNatClampNeg)) → (l1 ≤ 0 → zr_X10_go Q 169 [some (.ref 6), some (.int l1), some (.int l2), some (.int s0)] [.int (0 : Int32), .int l2, .ref 40] (ab_u M 37 z1) N) ∧ (¬ (l1 ≤ 0) → vp_in l2 5 ∧ (((M 40 l2.toNatClampNeg) = 0 → zr_X10_go Q 169 [some (.ref 6), some (.int l1), some (.int l2), some (.int s0)] [.int (0 : Int32), .int l2, .ref 40] (ab_u M 37 z1) N) ∧ (¬ ((M 40 l2.toNatClampNeg) = 0) → zr_X10_go Q 169 [some (.ref 6), some (.int l1), some (.int l2), some (.int s0)] [.int (1 : Int32), .int l2, .ref 40] (ab_u M 37 z1) N))))))))) : zr_X10_go Q 108 [some (.ref 6), some (.int l1), some (.int l2), none] [.int s0] M N := ab_Run_s zm_X10_go (sp := [(2, [true, true, false, false]), (17, [true, true, true, false]), (70, [true, true, true, true]), (91, [true, true, true, false]), (108, [true, true, true, false]), (169, [true, true, true, true])]) 135 h
set_option maxRecDepth 20000 in
theorem zv_X10_go_169 {Q : ab_R} {M : ab_M} {N : ab_N} (l1 : Int32) (l2 : Int32) (l3 : Int32) (s1 : Int32) (s2 : Int32) (h : vp_in s1 5 ∧ (let z1 : Nat → Int32 := upd (M 40) s1.toNatClampNeg (vp_nar .boolean s2); (l2 = (M 6 7) → zr_X10_go Q 91 [some (.ref 6), some (.int l1), some (.int (l2 + (1 : Int32))), none] [] (ab_u M 40 z1) N) ∧ (¬ (l2 = (M 6 7)) → (vp_in l2 5) ∧ (((ab_b (zAwk ((M 25) l2.toNatClampNeg) ((M 29) l2.toNatClampNeg) l1)) = 0 → zr_X10_go Q 91 [some (.ref 6), some (.int l1), some (.int (l2 + (1 : Int32))), none] [] (ab_u M 40 z1) N) ∧ (¬ ((ab_b (zAwk ((M 25) l2.toNatClampNeg) ((M 29) l2.toNatClampNeg) l1)) = 0) → vp_in ((l1 * (8 : Int32)) + l3) 96 ∧ (vp_in ((l1 * (8 : Int32)) + l3) 96 ∧ (let z2 : Nat → Int32 := upd (M 38) ((l1 * (8 : Int32)) + l3).toNatClampNeg ((M 38 ((l1 * (8 : Int32)) + l3).toNatClampNeg) ||| ((1 : Int32) <<< (l2 &&& 31))); zr_X10_go Q 91 [some (.ref 6), some (.int l1), some (.int (l2 + (1 : Int32))), none] [] (ab_u (ab_u M 40 z1) 38 z2) N))))))) : zr_X10_go Q 169 [some (.ref 6), some (.int l1), some (.int l2), some (.int l3)] [.int s2, .int s1, .ref 40] M N := ab_Run_s zm_X10_go (sp := [(2, [true, true, false, false]), (17, [true, true, true, false]), (70, [true, true, true, true]), (91, [true, true, true, false]), (108, [true, true, true, false]), (169, [true, true, true, true])]) 135 h
/-- hours ahead of h are told -/
def zOut (M0 : ab_M) (h : Nat) (M : ab_M) : Prop := ∀ i, i < h → (∀ m, m < zMen M0 → M 37 (i * 5 + m) = (zWk M0 i).1 m) ∧ ∀ p, p < zPcs M0 → M 39 (i * 8 + p) = nI (zSc M0 i p) ∧ M 38 (i * 8 + p) = (zWk M0 i).2.2.2 p
section ZGo
variable {Q : ab_R} {N : ab_N} {M0 : ab_M}
/-- the men of an hour, from m on -/
theorem zL_go_m (hN : zNight M0) (h : Nat) (hh : h < zHrs M0) (kk : ∀ M, zFr zGo M0 M → zAsks M → zOut M0 (h + 1) M → (∀ m, m < zMen M0 → M 40 m = (zWk M0 h).2.1 m) → zr_X10_go Q 2 [some (.ref 6), some (.int (nI (h + 1))), none, none] [] M N) :
    ∀ (n m : Nat) (M : ab_M), m + n = zMen M0 → zFr zGo M0 M → zAsks M → zOut M0 h M → (∀ i, i < m → M 37 (h * 5 + i) = (zWk M0 h).1 i ∧ M 40 i = (zWk M0 h).2.1 i) → (∀ i, m ≤ i → i < zMen M0 → 0 < h → M 40 i = (zPrev M0 h).2.1 i) → (∀ p, p < zPcs M0 → M 39 (h * 8 + p) = nI (zSc M0 h p) ∧ M 38 (h * 8 + p) = zLk M0 h (zWk M0 h).1 m p) → zr_X10_go Q 91 [some (.ref 6), some (.int (nI h)), some (.int (nI m)), none] [] M N := by
  obtain ⟨hA0, h0, h1⟩ := id hN
  obtain ⟨hP, hP8⟩ := zP_eq h0
  obtain ⟨hMe, hM5⟩ := zM_eq h0
  obtain ⟨hHe, hH12⟩ := zH_eq h0
  intro n
  induction n with
  | zero =>
    intro m M hm hF hA hO hB hB2 hL
    have em : m = zMen M0 := by omega
    refine zv_X10_go_91 _ _ ⟨fun _ => ?_, fun c => absurd ?_ c⟩
    · rw [nI_1]
      refine kk M hF hA ?_ (fun i hi => (hB i (by omega)).2)
      intro i hi
      by_cases e : i = h
      · subst e
        refine ⟨fun j hj => (hB j (by omega)).1, fun p hp => ?_⟩
        obtain ⟨l1, l2⟩ := hL p hp
        exact ⟨l1, by rw [l2, zWk_lk, em]⟩
      · exact hO i (by omega)
    · rw [hF 2 (by decide), hMe]
      exact nI_le (by omega) (by omega)
  | succ n ih =>
    intro m M hm hF hA hO hB hB2 hL
    refine zv_X10_go_91 _ _ ⟨fun c => absurd c ?_, fun _ => ?_⟩
    · rw [hF 2 (by decide), hMe]
      exact nI_ge (by omega) (by omega)
    have hP2 : zPcs M = zPcs M0 := by unfold zPcs; rw [hF 1 (by decide)]
    have hM2 : zMen M = zMen M0 := by unfold zMen; rw [hF 2 (by decide)]
    have hsc : zScOK M h := by
      intro p hp
      rw [hP2] at hp
      have := zSc_le M0 p h
      exact ⟨zSc M0 h p, by omega, by omega, (hL p hp).1⟩
    refine ab_m2_i ⟨zNight_of hN hA hF, m, h, by omega, by omega, rfl, rfl, hsc⟩ ?_
    rintro o M2 N2 ⟨rfl, hF2, hA2, rfl⟩
    have hFt : zFr zGo M0 M2 := zFr_tr hF (zFr_mono hF2 (by decide))
    rw [nI_clamp (show h < 2 ^ 31 by omega), nI_clamp (show m < 2 ^ 31 by omega)]
    have ex : zCome M h (fun i => M 37 ((h - 1) * 5 + i)) (M 40) (zScM M h) m = (zWk M0 h).1 m := by
      rw [zWk_pl]
      refine zCome_congr (hF 1 (by decide)) (hF 6 (by decide)) (hF 25 (by decide)) (hF 26 (by decide)) (hF 27 (by decide)) (hF 28 (by decide)) (hF 29 (by decide)) (hF 30 (by decide)) (zAsk_go hF) (fun hp => ?_) (fun hp => hB2 m (Nat.le_refl _) (by omega) hp) (fun p hp => ?_)
      · have := (hO (h - 1) (by omega)).1 m (by omega)
        rw [this]
        cases h with
        | zero => omega
        | succ h => rfl
      · have := zSc_le M0 p h
        unfold zScM
        rw [(hL p hp).1, nI_clamp (by omega)]
    rw [ex]
    obtain ⟨q, hq, eq⟩ := zWk_nat h0 h1 (show m < zMen M0 by omega) h
    show zr_X10_go Q 108 [some (.ref 6), some (.int (nI h)), some (.int (nI m)), none] [.int ((zWk M0 h).1 m)] M2 N2
    have hm5 : vp_in (nI m) 5 := nI_in_ (by omega)
    have ei : nI h * 5 + nI m = nI (h * 5 + m) := by rw [zN_mul h 5 5, nI_add]
    have fin : ∀ b : Int32, b = zBack M0 h (zPrev M0 h).2.1 m ((zWk M0 h).1 m) → zr_X10_go Q 169 [some (.ref 6), some (.int (nI h)), some (.int (nI m)), some (.int ((zWk M0 h).1 m))] [.int b, .int (nI m), .ref 40] (ab_u M2 37 (upd (M2 37) (h * 5 + m) ((zWk M0 h).1 m))) N2 := by
      intro b hb
      refine zv_X10_go_169 _ _ _ _ _ ⟨hm5, ?_⟩
      intro z1
      have ez : z1 = upd (M2 40) m ((zWk M0 h).2.1 m) := by
        show upd (M2 40) _ (vp_nar .boolean b) = _
        rw [nI_clamp (show m < 2 ^ 31 by omega), hb, zWk_bk]
        unfold zBack
        rw [vp_nar_b]
      clear_value z1
      subst ez
      have hF3 : zFr zGo M0 (ab_u (ab_u M2 37 (upd (M2 37) (h * 5 + m) ((zWk M0 h).1 m))) 40 (upd (M2 40) m ((zWk M0 h).2.1 m))) := zFr_u (zFr_u hFt (by decide) _) (by decide) _
      have e37 : ∀ i, ab_u (ab_u M2 37 (upd (M2 37) (h * 5 + m) ((zWk M0 h).1 m))) 40 (upd (M2 40) m ((zWk M0 h).2.1 m)) 37 i = if i = h * 5 + m then (zWk M0 h).1 m else M 37 i := by
        intro i
        show upd (M2 37) _ _ i = _
        rw [hF2 37 (by decide)]
        rfl
      have hO3 : ∀ M3 : ab_M, M3 37 = ab_u (ab_u M2 37 (upd (M2 37) (h * 5 + m) ((zWk M0 h).1 m))) 40 (upd (M2 40) m ((zWk M0 h).2.1 m)) 37 → M3 39 = M 39 → (∀ i p, i < h → p < zPcs M0 → M3 38 (i * 8 + p) = M 38 (i * 8 + p)) → zOut M0 h M3 := by
        intro M3 q1 q2 q3 i hi
        refine ⟨fun j hj => ?_, fun p hp => ?_⟩
        · rw [q1, e37, if_neg (by omega)]
          exact (hO i hi).1 j hj
        · rw [q2, q3 i p hi hp]
          exact (hO i hi).2 p hp
      have hB3 : ∀ M3 : ab_M, M3 37 = ab_u (ab_u M2 37 (upd (M2 37) (h * 5 + m) ((zWk M0 h).1 m))) 40 (upd (M2 40) m ((zWk M0 h).2.1 m)) 37 → M3 40 = upd (M2 40) m ((zWk M0 h).2.1 m) → (∀ i, i < m + 1 → M3 37 (h * 5 + i) = (zWk M0 h).1 i ∧ M3 40 i = (zWk M0 h).2.1 i) ∧ (∀ i, m + 1 ≤ i → i < zMen M0 → 0 < h → M3 40 i = (zPrev M0 h).2.1 i) := by
        intro M3 q1 q2
        refine ⟨fun i hi => ?_, fun i hi1 hi2 hi3 => ?_⟩
        · rw [q1, q2, e37]
          by_cases e : i = m
          · subst e
            rw [if_pos rfl, upd_eq]
            exact ⟨rfl, rfl⟩
          · rw [if_neg (by omega), upd_ne _ _ e, hF2 40 (by decide)]
            exact hB i (by omega)
        · rw [q2, upd_ne _ _ (by omega), hF2 40 (by decide)]
          exact hB2 i (by omega) hi2 hi3
      rw [nI_1]
      have same : ¬ ((¬ nI m = M0 6 7 ∧ zAwk (M0 25 m) (M0 29 m) (nI h))) → zr_X10_go Q 91 [some (.ref 6), some (.int (nI h)), some (.int (nI (m + 1))), none] [] (ab_u (ab_u M2 37 (upd (M2 37) (h * 5 + m) ((zWk M0 h).1 m))) 40 (upd (M2 40) m ((zWk M0 h).2.1 m))) N2 := by
        intro hneg
        obtain ⟨b1, b2⟩ := hB3 _ rfl (by rw [ab_u_eq])
        refine ih (m + 1) _ (by omega) hF3 (zAsks_go hA2 (zFr_u (zFr_u (zFr_rf _ _) (by decide) _) (by decide) _)) (hO3 _ rfl (hF2 39 (by decide)) (fun i p hi hp => by show M2 38 _ = _; rw [hF2 38 (by decide)])) b1 b2 (fun p hp => ?_)
        obtain ⟨l1, l2⟩ := hL p hp
        refine ⟨by show M2 39 _ = _; rw [hF2 39 (by decide)]; exact l1, ?_⟩
        show M2 38 _ = _
        rw [hF2 38 (by decide), l2, zLk, if_neg (fun z => hneg z.1)]
      refine ⟨fun c => same (fun z => z.1 ?_), fun c => ⟨hm5, fun c2 => same (fun z => ab_b_0.mp c2 ?_), fun c2 => ?_⟩⟩
      · rw [c]
        show M2 6 7 = M0 6 7
        rw [hFt 6 (by decide)]
      · rw [nI_clamp (show m < 2 ^ 31 by omega)]
        show zAwk (M2 25 m) (M2 29 m) (nI h)
        rw [hFt 25 (by decide), hFt 29 (by decide)]
        exact z.2
      · have c3 : zAwk (M0 25 m) (M0 29 m) (nI h) := by
          have := Decidable.not_not.mp (fun q => c2 (ab_b_0.mpr q))
          rw [nI_clamp (show m < 2 ^ 31 by omega)] at this
          have t2 : zAwk (M2 25 m) (M2 29 m) (nI h) := this
          rw [hFt 25 (by decide), hFt 29 (by decide)] at t2
          exact t2
        have c4 : ¬ nI m = M0 6 7 := by
          have t2 : ¬ nI m = M2 6 7 := c
          rw [hFt 6 (by decide)] at t2
          exact t2
        rw [eq, zN_mul h 8 8, nI_add]
        have hv : vp_in (nI (h * 8 + q)) 96 := nI_in_ (by omega)
        refine ⟨hv, hv, ?_⟩
        intro z2
        have ez2 : z2 = upd (M2 38) (h * 8 + q) (M2 38 (h * 8 + q) ||| ((1 : Int32) <<< (nI m &&& 31))) := by
          show upd (M2 38) (nI (h * 8 + q)).toNatClampNeg (M2 38 (nI (h * 8 + q)).toNatClampNeg ||| _) = _
          rw [nI_clamp (show h * 8 + q < 2 ^ 31 by omega)]
        clear_value z2
        subst ez2
        rw [← eq]
        obtain ⟨b1, b2⟩ := hB3 (ab_u (ab_u (ab_u M2 37 (upd (M2 37) (h * 5 + m) ((zWk M0 h).1 m))) 40 (upd (M2 40) m ((zWk M0 h).2.1 m))) 38 (upd (M2 38) (h * 8 + q) (M2 38 (h * 8 + q) ||| ((1 : Int32) <<< (nI m &&& 31))))) rfl (by rw [ab_u_ne _ _ (by decide), ab_u_eq])
        refine ih (m + 1) _ (by omega) (zFr_u hF3 (by decide) _) (zAsks_go hA2 (zFr_u (zFr_u (zFr_u (zFr_rf _ _) (by decide) _) (by decide) _) (by decide) _)) (hO3 _ rfl (hF2 39 (by decide)) (fun i p hi hp => ?_)) b1 b2 (fun p hp => ?_)
        · rw [ab_u_eq, upd_ne _ _ (by omega), hF2 38 (by decide)]
        · obtain ⟨l1, l2⟩ := hL p hp
          refine ⟨by show M2 39 _ = _; rw [hF2 39 (by decide)]; exact l1, ?_⟩
          rw [ab_u_eq, zLk]
          by_cases e : p = q
          · subst e
            rw [upd_eq, if_pos ⟨⟨c4, c3⟩, eq⟩, hF2 38 (by decide), l2]
          · rw [upd_ne _ _ (by omega), if_neg (fun z => e ?_), hF2 38 (by decide), l2]
            have := z.2
            rw [eq] at this
            exact ((nI_eq (by omega) (by omega)).mp this).symm
    have f26 : M2 26 m = M0 26 m := by rw [hFt 26 (by decide)]
    have f27 : M2 27 m = M0 27 m := by rw [hFt 27 (by decide)]
    refine zv_X10_go_108 _ _ _ ?_
    rw [ei]
    refine ⟨nI_in_ (by omega), ?_⟩
    rw [nI_clamp (show h * 5 + m < 2 ^ 31 by omega), nI_clamp (show m < 2 ^ 31 by omega), f26, f27]
    have hb40 : 0 < h → M2 40 m = (zPrev M0 h).2.1 m := fun hp => by rw [hF2 40 (by decide)]; exact hB2 m (Nat.le_refl _) (by omega) hp
    refine ⟨hm5, fun c => fin _ ?_, fun c => ⟨hm5, fun c2 => fin _ ?_, fun c2 => ⟨fun c3 => fin _ ?_, fun c3 => ⟨hm5, fun c4 => fin _ ?_, fun c4 => fin _ ?_⟩⟩⟩⟩
    · unfold zBack ab_b
      rw [if_neg (fun z => z.1 c)]
    · unfold zBack ab_b
      rw [if_pos ⟨c, Or.inl c2⟩]
    · have e : h = 0 := by
        rcases Nat.eq_zero_or_pos h with z | z
        · exact z
        · exact absurd c3 (nI_nle z (by omega))
      unfold zBack ab_b
      rw [if_neg (fun z => z.2.elim c2 (fun w => by omega))]
    · have hp : 0 < h := by
        rcases Nat.eq_zero_or_pos h with z | z
        · exact absurd (by rw [z]; decide) c3
        · exact z
      have c5 : M2 40 m = 0 := c4
      rw [hb40 hp] at c5
      unfold zBack ab_b
      rw [if_neg (fun z => z.2.elim c2 (fun w => w.2 c5))]
    · have hp : 0 < h := by
        rcases Nat.eq_zero_or_pos h with z | z
        · exact absurd (by rw [z]; decide) c3
        · exact z
      have c5 : ¬ M2 40 m = 0 := c4
      rw [hb40 hp] at c5
      unfold zBack ab_b
      rw [if_pos ⟨c, Or.inr ⟨hp, c5⟩⟩]
/-- the pieces of an hour, from p on -/
theorem zL_go_p (hN : zNight M0) (h : Nat) (hh : h < zHrs M0) (kk : ∀ M, zFr zGo M0 M → zAsks M → zOut M0 (h + 1) M → (∀ m, m < zMen M0 → M 40 m = (zWk M0 h).2.1 m) → zr_X10_go Q 2 [some (.ref 6), some (.int (nI (h + 1))), none, none] [] M N) :
    ∀ (n p : Nat) (M : ab_M), p + n = zPcs M0 → zFr zGo M0 M → zAsks M → zOut M0 h M → (∀ i, i < zMen M0 → 0 < h → M 40 i = (zPrev M0 h).2.1 i) → (∀ i, i < p → M 39 (h * 8 + i) = nI (zSc M0 h i) ∧ M 38 (h * 8 + i) = zLk M0 h (zWk M0 h).1 0 i) → zr_X10_go Q 17 [some (.ref 6), some (.int (nI h)), some (.int (nI p)), none] [] M N := by
  obtain ⟨hA0, h0, h1⟩ := id hN
  obtain ⟨hP, hP8⟩ := zP_eq h0
  obtain ⟨hHe, hH12⟩ := zH_eq h0
  intro n
  induction n with
  | zero =>
    intro p M hp hF hA hO hB hL
    have ep : p = zPcs M0 := by omega
    refine zv_X10_go_17 _ _ ⟨fun _ => ?_, fun c => absurd ?_ c⟩
    · exact zL_go_m hN h hh kk (zMen M0) 0 M (by omega) hF hA hO (fun i hi => by omega) (fun i _ hi hp => hB i hi hp) (fun q hq => hL q (by omega))
    · rw [hF 1 (by decide), hP]
      exact nI_le (by omega) (by omega)
  | succ n ih =>
    intro p M hp hF hA hO hB hL
    have hp8 : vp_in (nI p) 8 := nI_in_ (by omega)
    have ei : nI h * 8 + nI p = nI (h * 8 + p) := by rw [zN_mul h 8 8, nI_add]
    have hi96 : vp_in (nI (h * 8 + p)) 96 := nI_in_ (by omega)
    have fin : ∀ s : Nat, s = zSc M0 h p → zr_X10_go Q 70 [some (.ref 6), some (.int (nI h)), some (.int (nI p)), some (.int (nI (h * 8 + p)))] [.int (nI s), .int (nI (h * 8 + p)), .ref 39] M N := by
      intro s hs
      subst hs
      refine zv_X10_go_70 _ _ _ _ _ ⟨hi96, ?_⟩
      intro z1
      refine ⟨hp8, hi96, ?_⟩
      intro z2
      have e1 : z1 = upd (M 39) (h * 8 + p) (nI (zSc M0 h p)) := by
        show upd (M 39) _ _ = _
        rw [nI_clamp (show h * 8 + p < 2 ^ 31 by omega)]
      have e2 : z2 = upd (M 38) (h * 8 + p) (zLk M0 h (zWk M0 h).1 0 p) := by
        show upd (M 38) (nI (h * 8 + p)).toNatClampNeg (zOth (M 1 7) (M 17 3) (M 17 4) (M 16 (nI p).toNatClampNeg) (M 6 11) (M 6 12) (nI p) (nI h)) = _
        rw [nI_clamp (show h * 8 + p < 2 ^ 31 by omega), nI_clamp (show p < 2 ^ 31 by omega), hF 1 (by decide), hF 17 (by decide), hF 16 (by decide), hF 6 (by decide)]
        rfl
      clear_value z1 z2
      subst e1
      subst e2
      rw [nI_1]
      refine ih (p + 1) _ (by omega) (zFr_u (zFr_u hF (by decide) _) (by decide) _) (zAsks_go hA (zFr_u (zFr_u (zFr_rf _ _) (by decide) _) (by decide) _)) ?_ hB ?_
      · intro i hi
        refine ⟨(hO i hi).1, fun q hq => ?_⟩
        obtain ⟨l1, l2⟩ := (hO i hi).2 q hq
        refine ⟨?_, ?_⟩
        · show upd (M 39) _ _ _ = _
          rw [upd_ne _ _ (by omega)]; exact l1
        · show upd (M 38) _ _ _ = _
          rw [upd_ne _ _ (by omega)]; exact l2
      · intro i hi
        show upd (M 39) _ _ _ = _ ∧ upd (M 38) _ _ _ = _
        by_cases e : i = p
        · subst e
          rw [upd_eq, upd_eq]
          exact ⟨rfl, rfl⟩
        · rw [upd_ne _ _ (by omega), upd_ne _ _ (by omega)]
          exact hL i (by omega)
    refine zv_X10_go_17 _ _ ⟨fun c => absurd c ?_, fun _ => ?_⟩
    · rw [hF 1 (by decide), hP]
      exact nI_ge (by omega) (by omega)
    rw [ei]
    match h, hh, hO, hB, fin, ei, hi96 with
    | 0, _, _, _, fin, _, _ => exact ⟨fun _ => fin 1 rfl, fun c => absurd rfl c⟩
    | h + 1, hh, hO, hB, fin, _, hi96 =>
      refine ⟨fun c => absurd c (nI_ne0 (by omega) (by omega)), fun _ => ?_⟩
      have ej : (nI (h + 1) - 1) * 8 + nI p = nI (h * 8 + p) := by rw [nI_pred, zN_mul h 8 8, nI_add]
      have ek : nI ((h + 1) * 8 + p) - 8 = nI (h * 8 + p) := by
        rw [show (8 : Int32) = nI 8 from rfl, pk_sub (by omega), show (h + 1) * 8 + p - 8 = h * 8 + p by omega]
      rw [ej, ek, nI_clamp (show h * 8 + p < 2 ^ 31 by omega)]
      obtain ⟨l1, l2⟩ := (hO h (by omega)).2 p (by omega)
      refine ⟨nI_in_ (by omega), fun c => ⟨nI_in_ (by omega), ?_⟩, fun c => ?_⟩
      · have c2 : M 38 (h * 8 + p) = 0 := Decidable.not_not.mp (ab_b_0.mp c)
        rw [l1, nI_1]
        refine fin _ ?_
        have e : (zPrev M0 (h + 1)).2.2.2 p = 0 := by show (zWk M0 h).2.2.2 p = 0; rw [← l2]; exact c2
        have e2 : (zPrev M0 (h + 1)).2.2.1 p = zSc M0 h p := by show (zWk M0 h).2.2.1 p = _; rw [zWk_sc]
        have e3 : zSc M0 (h + 1) p = (zPrev M0 (h + 1)).2.2.1 p + 1 := if_neg (fun z => z.elim (fun w => by omega) (fun w => w e))
        rw [e3, e2]
      · have c2 : ¬ M 38 (h * 8 + p) = 0 := Decidable.not_not.mp (fun q => c (ab_b_0.mpr q))
        refine fin 1 ?_
        have e : ¬ (zPrev M0 (h + 1)).2.2.2 p = 0 := by show ¬ (zWk M0 h).2.2.2 p = 0; rw [← l2]; exact c2
        rw [zSc, if_pos (Or.inr e)]
theorem zL_go_h (hN : zNight M0) (hq : ∀ M, zFr zGo M0 M → zAsks M → zOut M0 (zHrs M0) M → Q none M N) : ∀ (n h : Nat) (M : ab_M), h + n = zHrs M0 → zFr zGo M0 M → zAsks M → zOut M0 h M → (∀ i, i < zMen M0 → 0 < h → M 40 i = (zPrev M0 h).2.1 i) → zr_X10_go Q 2 [some (.ref 6), some (.int (nI h)), none, none] [] M N := by
  obtain ⟨hA0, h0, h1⟩ := id hN
  obtain ⟨hHe, hH12⟩ := zH_eq h0
  intro n
  induction n with
  | zero =>
    intro h M hh hF hA hO hB
    have eh : h = zHrs M0 := by omega
    refine zv_X10_go_2 _ ⟨ab_vpk (by decide), fun _ => ?_, fun c => absurd ?_ c⟩
    · rw [eh] at hO
      exact hq M hF hA hO
    · rw [hF 17 (by decide), hHe]
      exact nI_le (by omega) (by omega)
  | succ n ih =>
    intro h M hh hF hA hO hB
    refine zv_X10_go_2 _ ⟨ab_vpk (by decide), fun c => absurd c ?_, fun _ => ?_⟩
    · rw [hF 17 (by decide), hHe]
      exact nI_ge (by omega) (by omega)
    · exact zL_go_p hN h (by omega) (fun M2 hF2 hA2 hO2 hB2 => ih (h + 1) M2 (by omega) hF2 hA2 hO2 (fun i hi _ => hB2 i hi)) (zPcs M0) 0 M (by omega) hF hA hO hB (fun i hi => by omega)
end ZGo
theorem zE_X10_go (as : List Value) (M : ab_M) (N : ab_N) (k : ab_R) (hT : zt_X10_go as M N k) : ab_cs as ≤ 4 ∧ zr_X10_go k 0 (ab_en as) [] M N := by
  obtain ⟨rfl, hN, hk⟩ := ab_m0_e hT
  refine ⟨Nat.le_of_ble_eq_true rfl, zv_X10_go_0 ?_⟩
  refine zL_go_h hN (fun M2 hF hA hO => hk none M2 N ⟨rfl, rfl, hF, hA, fun h hh => ⟨(hO h hh).1, fun p hp => ?_⟩⟩) (zHrs M) 0 M (by omega) (zFr_rf _ _) hN.1 (fun i hi => by omega) (fun i _ hi => by omega)
  obtain ⟨l1, l2⟩ := (hO h hh).2 p hp
  exact ⟨by rw [l1, zWk_sc], l2⟩
abbrev zR_X10_go : Room := { frames := 5, cells := 0, slots := 0, locals := 132 }
set_option maxRecDepth 20000 in
theorem zM_X10_go (l : Launch) : ab_Met l zw_C vwCl zZ_C yX10_go cX10_go 4 none zR_X10_go zt_X10_go := ab_ofRun (G := zg_X10_go) (P := zp_X10_go) rfl zo_X10_go (by decide +kernel) zl_cl zl_lamC zf_X10_ok zs_tabOK ab_Cst_nil ab_Sta_nil (List.forall_mem_cons.mpr ⟨ab_callV zZ_C_ok (zM_X10_lookedAt l) (ab_in 662 (by decide +kernel) rfl) (ab_in 659 (by decide +kernel) rfl) (ab_in 660 (by decide +kernel) rfl) (ab_in 661 (by decide +kernel) rfl) (ab_in 7 (by decide +kernel) rfl) (by unfold ab_yok; decide +kernel) ⟨rfl, rfl⟩ (by decide) zV_X10_lookedAt, List.forall_mem_cons.mpr ⟨ab_callV zZ_C_ok (zM_X10_othersAt l) (ab_in 666 (by decide +kernel) rfl) (ab_in 663 (by decide +kernel) rfl) (ab_in 665 (by decide +kernel) rfl) (ab_inS (List.mem_of_getElem? (i := 13) (by decide +kernel)) rfl) (ab_in 7 (by decide +kernel) rfl) (by unfold ab_yok; decide +kernel) ⟨rfl, rfl⟩ (by decide) zV_X10_othersAt, List.forall_mem_cons.mpr ⟨ab_callV zZ_C_ok (zM_X10_comes l) (ab_in 674 (by decide +kernel) rfl) (ab_in 671 (by decide +kernel) rfl) (ab_in 673 (by decide +kernel) rfl) (ab_inS (List.mem_of_getElem? (i := 14) (by decide +kernel)) rfl) (ab_in 7 (by decide +kernel) rfl) (by unfold ab_yok; decide +kernel) ⟨rfl, rfl⟩ (by decide) zV_X10_comes, List.forall_mem_cons.mpr ⟨ab_callV zZ_C_ok (zM_X5_awake l) (ab_in 688 (by decide +kernel) rfl) (ab_in 685 (by decide +kernel) rfl) (ab_in 686 (by decide +kernel) rfl) (ab_in 687 (by decide +kernel) rfl) (ab_in 3 (by decide +kernel) rfl) (by unfold ab_yok; decide +kernel) ⟨rfl, rfl⟩ (by decide) zV_X5_awake, List.forall_mem_nil _⟩⟩⟩⟩) (List.forall_mem_nil _) zE_X10_go
