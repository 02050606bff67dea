/-! Chances: what the law tells, kept until it is forgotten *)
-/
theorem zEval_nm {code nm nm2 : Nat → Int32} (hn : ∀ j, j < 6 → nm j = nm2 j) : ∀ (m n : Nat) (st : List Int32), zEval code nm n m st = zEval code nm2 n m st
  | 0, n, st => rfl
  | m + 1, n, st => by
    have e : zStep nm (code n) st = zStep nm2 (code n) st := by
      unfold zStep
      by_cases h1 : -7 < code n
      · rw [if_pos h1, if_pos h1]
        by_cases h2 : code n < 0
        · rw [if_pos h2, if_pos h2]
          rw [hn]
          have h3 : vp_in (-1 - code n) 6 := ab_vp 6 rfl (by grind) (by grind)
          exact Nat.not_le.mp fun q => h3 (Or.inr q)
        · rw [if_neg h2, if_neg h2]
      · rw [if_neg h1, if_neg h1]
    show zEval code nm (n + 1) m _ = zEval code nm2 (n + 1) m _
    rw [e]
    exact zEval_nm hn m (n + 1) _
def zNm (d : ab_M) (p h is by_ : Nat) : Nat → Int32 := fun j => match j with
  | 0 => d 18 h
  | 1 => d 13 p
  | 2 => d 17 2
  | 3 => nI is
  | 4 => d 14 p
  | _ => nI by_
def zClamp (m x : Int32) : Int32 := if 0 < (if m < x then m else x) then (if m < x then m else x) else 0
def zAskN (d : ab_M) (th p h is by_ : Nat) : Nat := (zClamp (zs_MOST_OF_THING th) (zVal d th (zNm d p h is by_))).toNatClampNeg
theorem zClamp_n (th : Nat) (hth : th < 3) (x : Int32) : zClamp (zs_MOST_OF_THING th) x = nI (zClamp (zs_MOST_OF_THING th) x).toNatClampNeg ∧ (zClamp (zs_MOST_OF_THING th) x).toNatClampNeg ≤ 999 := by
  have h0 : 0 ≤ zClamp (zs_MOST_OF_THING th) x := by unfold zClamp; grind
  have h1 : zClamp (zs_MOST_OF_THING th) x ≤ 999 := by
    unfold zClamp
    have : zs_MOST_OF_THING th ≤ 999 := by
      match th, hth with
      | 0, _ => decide
      | 1, _ => decide
      | 2, _ => decide
    grind
  refine ⟨ab_cl0 h0, ?_⟩
  obtain ⟨j, hj, e⟩ := nI_of (Int32.not_lt.mpr h0)
  rw [e] at h1 ⊢
  rw [nI_clamp hj]
  exact (nI_leI hj (by decide)).mp (show nI j ≤ nI 999 from h1)
theorem zAskN_fr {M M2 : ab_M} (h3 : M2 3 = M 3) (h13 : M2 13 = M 13) (h14 : M2 14 = M 14) (h17 : M2 17 = M 17) (h18 : M2 18 = M 18) (h31 : M2 31 = M 31) (h32 : M2 32 = M 32) : zAskN M2 = zAskN M := by
  funext th p h is by_
  have e : zNm M2 p h is by_ = zNm M p h is by_ := by
    funext j
    unfold zNm
    rw [h13, h14, h17, h18]
  unfold zAskN zVal zFrom zTo
  rw [e, h3, h31, h32]
def zIx (row p h is : Nat) : Nat := ((row * 8 + p) * 12 + h) * 13 + is
def zRt (row : Nat) : Nat := if row = 0 then 0 else if row = 2 then 2 else 1
/-- what is kept is right, where it is of this age -/
def zCache (M : ab_M) : Prop := ∃ age : Nat, 1 ≤ age ∧ age ≤ 2000000 ∧ M 5 4 = nI age ∧ ∀ row p h is : Nat, row < 7 → row ≠ 1 → p < 8 → h < 12 → is < 13 → ∃ v : Nat, M 36 (zIx row p h is) = nI v ∧ v < (age + 1) * 1024 ∧ (v / 1024 = age → v % 1024 = zAskN M (zRt row) p h is (row - 3))
theorem zCache_fr {M M2 : ab_M} (h : zCache M) (h3 : M2 3 = M 3) (h5 : M2 5 4 = M 5 4) (h13 : M2 13 = M 13) (h14 : M2 14 = M 14) (h17 : M2 17 = M 17) (h18 : M2 18 = M 18) (h31 : M2 31 = M 31) (h32 : M2 32 = M 32) (h36 : M2 36 = M 36) : zCache M2 := by
  obtain ⟨age, a1, a2, a3, a4⟩ := h
  refine ⟨age, a1, a2, by rw [h5, a3], fun row p h is b1 b2 b3 b4 b5 => ?_⟩
  rw [h36, zAskN_fr h3 h13 h14 h17 h18 h31 h32]
  exact a4 row p h is b1 b2 b3 b4 b5
theorem zAge_lt {v age : Nat} (h : v < (age + 1) * 1024) : v < (age + 1 + 1) * 1024 ∧ ¬ v / 1024 = age + 1 := by omega
/-- forgotten: anything may have changed but what is kept -/
theorem zCache_new {M M2 : ab_M} (h : zCache M) {age : Nat} (ha : M 5 4 = nI age) (hb : age < 2000000) (h5 : M2 5 4 = nI (age + 1)) (h36 : M2 36 = M 36) : zCache M2 := by
  obtain ⟨age', a1, a2, a3, a4⟩ := h
  have e : age' = age := (nI_eq (by omega) (by omega)).mp (a3.symm.trans ha)
  subst e
  refine ⟨age' + 1, by omega, by omega, h5, fun row p h is b1 b2 b3 b4 b5 => ?_⟩
  obtain ⟨v, c1, c2, -⟩ := a4 row p h is b1 b2 b3 b4 b5
  exact ⟨v, by rw [h36, c1], (zAge_lt c2).1, fun q => absurd q (zAge_lt c2).2⟩
theorem zIx_inj {r p h i r2 p2 h2 i2 : Nat} (b : p < 8) (c : h < 12) (d : i < 13) (b2 : p2 < 8) (c2 : h2 < 12) (d2 : i2 < 13) (e : zIx r p h i = zIx r2 p2 h2 i2) : r = r2 ∧ p = p2 ∧ h = h2 ∧ i = i2 := by
  unfold zIx at e
  omega
def zIs (d : ab_M) (th p st : Nat) : Nat := if th = 2 then st - (d 15 p).toNatClampNeg else st
/-- what asks() tells -/
def zAsk (d : ab_M) (th p h st pc : Nat) : Nat := zAskN d th p h (zIs d th p st) (if th = 1 then pc else 0)
/-- what asking needs -/
def zAsks (M : ab_M) : Prop := zLawOK M ∧ zCache M ∧ ∀ p, p < 8 → ∃ s : Nat, s ≤ 3 ∧ M 15 p = nI s
def zt_X1_ask : ab_T := ab_m5 5 (fun th p h st pc M _ => zAsks M ∧ ∃ t q g s c P : Nat, t < 3 ∧ q < P ∧ P ≤ 8 ∧ g < 12 ∧ s ≤ 12 ∧ c ≤ 3 ∧ th = nI t ∧ p = nI q ∧ h = nI g ∧ st = nI s ∧ pc = nI c ∧ M 1 4 = nI P)
  (fun th p h st pc M N o M2 N2 => N2 = N ∧ zFr [33, 35, 36] M M2 ∧ zAsks M2 ∧ o = some (.int (nI (zAsk M th.toNatClampNeg p.toNatClampNeg h.toNatClampNeg st.toNatClampNeg pc.toNatClampNeg))))
theorem zt_X1_ask_mono : ab_mono zt_X1_ask := ab_m5_mono _ _ _
theorem zV_X1_ask : ab_recv zw_C vwCl RX1 zt_X1_ask := ab_m5_v rfl rfl
def zp_X1_ask : ab_P := [(0, .iload_n 1, 1, [1], []),
  (1, .ifCond .lt 52, 4, [53], []),
  (4, .iload_n 1, 5, [1], []),
  (5, .iconst 3, 6, [], [3]),
  (6, .if_icmp .ge 47, 9, [53], []),
  (9, .aload_n 0, 10, [0], []),
  (10, .getfield 22, 13, [], []),
  (13, .iload_n 2, 14, [2], []),
  (14, .invokevirtual 30, 17, [], []),
  (17, .ifCond .eq 36, 20, [53], []),
  (20, .iload_n 3, 21, [3], []),
  (21, .ifCond .lt 32, 24, [53], []),
  (24, .iload_n 3, 25, [3], []),
  (25, .bipush 12, 27, [], [12]),
  (27, .if_icmp .ge 26, 30, [53], []),
  (30, .iload 4, 32, [], []),
  (32, .ifCond .lt 21, 35, [53], []),
  (35, .iload 4, 37, [], []),
  (37, .bipush 12, 39, [], [12]),
  (39, .if_icmp .gt 14, 42, [53], []),
  (42, .iload 5, 44, [], []),
  (44, .ifCond .lt 9, 47, [53], []),
  (47, .iload 5, 49, [], []),
  (49, .iconst 3, 50, [], [3]),
  (50, .if_icmp .le 5, 53, [55], []),
  (53, .iconst 0, 54, [], [0]),
  (54, .ireturn, 55, [], []),
  (55, .iload_n 1, 56, [1], []),
  (56, .iconst 2, 57, [], [2]),
  (57, .if_icmp .ne 22, 60, [79], []),
  (60, .iconst 0, 61, [], [0]),
  (61, .iload 4, 63, [], []),
  (63, .aload_n 0, 64, [0], []),
  (64, .getfield 22, 67, [], []),
  (67, .getfield 36, 70, [], []),
  (70, .iload_n 2, 71, [2], []),
  (71, .iaload, 72, [], []),
  (72, .isub, 73, [], []),
  (73, .invokestatic 39, 76, [], []),
  (76, .goto 5, 79, [81], []),
  (79, .iload 4, 81, [], []),
  (81, .istore 6, 83, [], []),
  (83, .iload_n 1, 84, [1], []),
  (84, .iconst 1, 85, [], [1]),
  (85, .if_icmp .ne 8, 88, [93], []),
  (88, .iload 5, 90, [], []),
  (90, .goto 4, 93, [94], []),
  (93, .iconst 0, 94, [], [0]),
  (94, .istore 7, 96, [], []),
  (96, .iload_n 1, 97, [1], []),
  (97, .iconst 1, 98, [], [1]),
  (98, .if_icmp .ne 10, 101, [108], []),
  (101, .iconst 3, 102, [], [3]),
  (102, .iload 5, 104, [], []),
  (104, .iadd, 105, [], []),
  (105, .goto 4, 108, [109], []),
  (108, .iload_n 1, 109, [1], []),
  (109, .istore 8, 111, [], []),
  (111, .iload 8, 113, [], []),
  (113, .bipush 8, 115, [], [8]),
  (115, .imul, 116, [], []),
  (116, .iload_n 2, 117, [2], []),
  (117, .iadd, 118, [], []),
  (118, .bipush 12, 120, [], [12]),
  (120, .imul, 121, [], []),
  (121, .iload_n 3, 122, [3], []),
  (122, .iadd, 123, [], []),
  (123, .bipush 13, 125, [], [13]),
  (125, .imul, 126, [], []),
  (126, .iload 6, 128, [], []),
  (128, .iadd, 129, [], []),
  (129, .istore 9, 131, [], []),
  (131, .aload_n 0, 132, [0], []),
  (132, .getfield 15, 135, [], []),
  (135, .iload 9, 137, [], []),
  (137, .iaload, 138, [], []),
  (138, .sipush 1024, 141, [], [1024]),
  (141, .idiv, 142, [], []),
  (142, .aload_n 0, 143, [0], []),
  (143, .getfield 18, 146, [], []),
  (146, .if_icmp .eq 123, 149, [269], []),
  (149, .aload_n 0, 150, [0], []),
  (150, .getfield 9, 153, [], []),
  (153, .iconst 0, 154, [], [0]),
  (154, .aload_n 0, 155, [0], []),
  (155, .getfield 22, 158, [], []),
  (158, .getfield 45, 161, [], []),
  (161, .iload_n 3, 162, [3], []),
  (162, .iaload, 163, [], []),
  (163, .iastore, 164, [], []),
  (164, .aload_n 0, 165, [0], []),
  (165, .getfield 9, 168, [], []),
  (168, .iconst 1, 169, [], [1]),
  (169, .aload_n 0, 170, [0], []),
  (170, .getfield 22, 173, [], []),
  (173, .getfield 48, 176, [], []),
  (176, .iload_n 2, 177, [2], []),
  (177, .iaload, 178, [], []),
  (178, .iastore, 179, [], []),
  (179, .aload_n 0, 180, [0], []),
  (180, .getfield 9, 183, [], []),
  (183, .iconst 2, 184, [], [2]),
  (184, .aload_n 0, 185, [0], []),
  (185, .getfield 22, 188, [], []),
  (188, .getfield 51, 191, [], []),
  (191, .iconst 2, 192, [], [2]),
  (192, .iaload, 193, [], []),
  (193, .iastore, 194, [], []),
  (194, .aload_n 0, 195, [0], []),
  (195, .getfield 9, 198, [], []),
  (198, .iconst 3, 199, [], [3]),
  (199, .iload 6, 201, [], []),
  (201, .iastore, 202, [], []),
  (202, .aload_n 0, 203, [0], []),
  (203, .getfield 9, 206, [], []),
  (206, .iconst 4, 207, [], [4]),
  (207, .aload_n 0, 208, [0], []),
  (208, .getfield 22, 211, [], []),
  (211, .getfield 54, 214, [], []),
  (214, .iload_n 2, 215, [2], []),
  (215, .iaload, 216, [], []),
  (216, .iastore, 217, [], []),
  (217, .aload_n 0, 218, [0], []),
  (218, .getfield 9, 221, [], []),
  (221, .iconst 5, 222, [], [5]),
  (222, .iload 7, 224, [], []),
  (224, .iastore, 225, [], []),
  (225, .aload_n 0, 226, [0], []),
  (226, .getfield 26, 229, [], []),
  (229, .iload_n 1, 230, [1], []),
  (230, .aload_n 0, 231, [0], []),
  (231, .getfield 9, 234, [], []),
  (234, .invokevirtual 57, 237, [], []),
  (237, .istore 10, 239, [], []),
  (239, .aload_n 0, 240, [0], []),
  (240, .getfield 15, 243, [], []),
  (243, .iload 9, 245, [], []),
  (245, .aload_n 0, 246, [0], []),
  (246, .getfield 18, 249, [], []),
  (249, .sipush 1024, 252, [], [1024]),
  (252, .imul, 253, [], []),
  (253, .iconst 0, 254, [], [0]),
  (254, .iload 10, 256, [], []),
  (256, .getstatic 63, 259, [], []),
  (259, .iload_n 1, 260, [1], []),
  (260, .iaload, 261, [], []),
  (261, .invokestatic 66, 264, [], []),
  (264, .invokestatic 39, 267, [], []),
  (267, .iadd, 268, [], []),
  (268, .iastore, 269, [], []),
  (269, .aload_n 0, 270, [0], []),
  (270, .getfield 15, 273, [], []),
  (273, .iload 9, 275, [], []),
  (275, .iaload, 276, [], []),
  (276, .sipush 1024, 279, [], [1024]),
  (279, .irem, 280, [], []),
  (280, .ireturn, 281, [], [])]
theorem zo_X1_ask : ab_ok cX1_ask zp_X1_ask = true := by decide +kernel
def zg_X1_ask : ab_G := (zw_C, zs_tab, zf_X1, [], [(63, 52)], [(30, 2, zt_X2_has), (57, 3, zt_X9_valueOf)], [(39, 2, zt_max), (66, 2, zt_min)])
theorem zm_X1_ask : ab_MG zg_X1_ask := ab_MGof (List.forall_mem_cons.mpr ⟨ab_pure_mono _, List.forall_mem_cons.mpr ⟨zt_X9_valueOf_mono, List.forall_mem_nil _⟩⟩) (List.forall_mem_cons.mpr ⟨ab_pure_mono _, List.forall_mem_cons.mpr ⟨ab_pure_mono _, List.forall_mem_nil _⟩⟩)
abbrev zr_X1_ask (Q : ab_R) : ab_K := ab_Run zg_X1_ask zp_X1_ask (some .int) 11 Q
set_option maxRecDepth 20000 in
theorem zv_X1_ask_0 {Q : ab_R} {M : ab_M} {N : ab_N} (l1 : Int32) (l2 : Int32) (l3 : Int32) (l4 : Int32) (l5 : Int32) (h : (l1 < 0 → Q (some (.int (0 : Int32))) M N) ∧ (¬ (l1 < 0) → ((3 : Int32) ≤ l1 → Q (some (.int (0 : Int32))) M N) ∧ (¬ ((3 : Int32) ≤ l1) → ((ab_b (0 ≤ l2 ∧ l2 < (M 1) 4 ∧ l2 < 8)) = 0 → Q (some (.int (0 : Int32))) M N) ∧ (¬ ((ab_b (0 ≤ l2 ∧ l2 < (M 1) 4 ∧ l2 < 8)) = 0) → (l3 < 0 → Q (some (.int (0 : Int32))) M N) ∧ (¬ (l3 < 0) → ((12 : Int32) ≤ l3 → Q (some (.int (0 : Int32))) M N) ∧ (¬ ((12 : Int32) ≤ l3) → (l4 < 0 → Q (some (.int (0 : Int32))) M N) ∧ (¬ (l4 < 0) → ((12 : Int32) < l4 → Q (some (.int (0 : Int32))) M N) ∧ (¬ ((12 : Int32) < l4) → (l5 < 0 → Q (some (.int (0 : Int32))) M N) ∧ (¬ (l5 < 0) → (l5 ≤ (3 : Int32) → (l1 = (2 : Int32) → vp_in l2 8 ∧ (zr_X1_ask Q 81 [some (.ref 5), some (.int l1), some (.int l2), some (.int l3), none, some (.int l5), none, none, none, none, none] [.int (if (0 : Int32) < (l4 - (M 15 l2.toNatClampNeg)) then (l4 - (M 15 l2.toNatClampNeg)) else (0 : Int32))] M N)) ∧ (¬ (l1 = (2 : Int32)) → zr_X1_ask Q 81 [some (.ref 5), some (.int l1), some (.int l2), some (.int l3), none, some (.int l5), none, none, none, none, none] [.int l4] M N)) ∧ (¬ (l5 ≤ (3 : Int32)) → Q (some (.int (0 : Int32))) M N)))))))))) : zr_X1_ask Q 0 [some (.ref 5), some (.int l1), some (.int l2), some (.int l3), some (.int l4), some (.int l5)] [] M N := ab_Run_s zm_X1_ask (sp := [(81, [true, true, true, true, false, true, false, false, false, false, false]), (109, [true, true, true, true, false, false, true, true, false, false, false]), (237, [true, true, false, false, false, false, false, false, false, true, false])]) 159 h
set_option maxRecDepth 20000 in
theorem zv_X1_ask_81 {Q : ab_R} {M : ab_M} {N : ab_N} (l1 : Int32) (l2 : Int32) (l3 : Int32) (l5 : Int32) (s0 : Int32) (h : (l1 = (1 : Int32) → (l1 = (1 : Int32) → zr_X1_ask Q 109 [some (.ref 5), some (.int l1), some (.int l2), some (.int l3), none, none, some (.int s0), some (.int l5), none, none, none] [.int ((3 : Int32) + l5)] M N) ∧ (¬ (l1 = (1 : Int32)) → zr_X1_ask Q 109 [some (.ref 5), some (.int l1), some (.int l2), some (.int l3), none, none, some (.int s0), some (.int l5), none, none, none] [.int l1] M N)) ∧ (¬ (l1 = (1 : Int32)) → (l1 = (1 : Int32) → zr_X1_ask Q 109 [some (.ref 5), some (.int l1), some (.int l2), some (.int l3), none, none, some (.int s0), some (.int (0 : Int32)), none, none, none] [.int ((3 : Int32) + l5)] M N) ∧ (¬ (l1 = (1 : Int32)) → zr_X1_ask Q 109 [some (.ref 5), some (.int l1), some (.int l2), some (.int l3), none, none, some (.int s0), some (.int (0 : Int32)), none, none, none] [.int l1] M N))) : zr_X1_ask Q 81 [some (.ref 5), some (.int l1), some (.int l2), some (.int l3), none, some (.int l5), none, none, none, none, none] [.int s0] M N := ab_Run_s zm_X1_ask (sp := [(81, [true, true, true, true, false, true, false, false, false, false, false]), (109, [true, true, true, true, false, false, true, true, false, false, false]), (237, [true, true, false, false, false, false, false, false, false, true, false])]) 159 h
set_option maxRecDepth 20000 in
theorem zv_X1_ask_109 {Q : ab_R} {M : ab_M} {N : ab_N} (l1 : Int32) (l2 : Int32) (l3 : Int32) (l6 : Int32) (l7 : Int32) (s0 : Int32) (h : vp_in ((((((s0 * (8 : Int32)) + l2) * (12 : Int32)) + l3) * (13 : Int32)) + l6) 8736 ∧ (¬ (1024 : Int32) = 0 ∧ ((((M 36 ((((((s0 * (8 : Int32)) + l2) * (12 : Int32)) + l3) * (13 : Int32)) + l6).toNatClampNeg) / (1024 : Int32)) = (M 5 4) → vp_in ((((((s0 * (8 : Int32)) + l2) * (12 : Int32)) + l3) * (13 : Int32)) + l6) 8736 ∧ (¬ (1024 : Int32) = 0 ∧ (Q (some (.int ((M 36 ((((((s0 * (8 : Int32)) + l2) * (12 : Int32)) + l3) * (13 : Int32)) + l6).toNatClampNeg) - (M 36 ((((((s0 * (8 : Int32)) + l2) * (12 : Int32)) + l3) * (13 : Int32)) + l6).toNatClampNeg) / (1024 : Int32) * (1024 : Int32)))) M N))) ∧ (¬ (((M 36 ((((((s0 * (8 : Int32)) + l2) * (12 : Int32)) + l3) * (13 : Int32)) + l6).toNatClampNeg) / (1024 : Int32)) = (M 5 4)) → vp_in l3 12 ∧ (vp_in (0 : Int32) 6 ∧ (let z1 : Nat → Int32 := upd (M 35) 0 (M 18 l3.toNatClampNeg); vp_in l2 8 ∧ (vp_in (1 : Int32) 6 ∧ (let z2 : Nat → Int32 := upd (z1) 1 (M 13 l2.toNatClampNeg); vp_in (2 : Int32) 5 ∧ (vp_in (2 : Int32) 6 ∧ (let z3 : Nat → Int32 := upd (z2) 2 (M 17 2); vp_in (3 : Int32) 6 ∧ (let z4 : Nat → Int32 := upd (z3) 3 l6; vp_in l2 8 ∧ (vp_in (4 : Int32) 6 ∧ (let z5 : Nat → Int32 := upd (z4) 4 (M 14 l2.toNatClampNeg); vp_in (5 : Int32) 6 ∧ (let z6 : Nat → Int32 := upd (z5) 5 l7; zt_X9_valueOf [.ref 3, .int l1, .ref 35] (ab_u (ab_u (ab_u (ab_u (ab_u (ab_u M 35 z1) 35 z2) 35 z3) 35 z4) 35 z5) 35 z6) N (fun r M2 N2 => zr_X1_ask Q 237 [some (.ref 5), some (.int l1), none, none, none, none, none, none, none, some (.int ((((((s0 * (8 : Int32)) + l2) * (12 : Int32)) + l3) * (13 : Int32)) + l6)), none] (ab_ol r []) M2 N2))))))))))))))) : zr_X1_ask Q 109 [some (.ref 5), some (.int l1), some (.int l2), some (.int l3), none, none, some (.int l6), some (.int l7), none, none, none] [.int s0] M N := ab_Run_s zm_X1_ask (sp := [(81, [true, true, true, true, false, true, false, false, false, false, false]), (109, [true, true, true, true, false, false, true, true, false, false, false]), (237, [true, true, false, false, false, false, false, false, false, true, false])]) 159 h
set_option maxRecDepth 20000 in
theorem zv_X1_ask_237 {Q : ab_R} {M : ab_M} {N : ab_N} (l1 : Int32) (l9 : Int32) (s0 : Int32) (h : vp_in l1 3 ∧ (vp_in l9 8736 ∧ (let z1 : Nat → Int32 := upd (M 36) l9.toNatClampNeg (((M 5 4) * (1024 : Int32)) + (if (0 : Int32) < (if (zs_MOST_OF_THING l1.toNatClampNeg) < s0 then (zs_MOST_OF_THING l1.toNatClampNeg) else s0) then (if (zs_MOST_OF_THING l1.toNatClampNeg) < s0 then (zs_MOST_OF_THING l1.toNatClampNeg) else s0) else (0 : Int32))); vp_in l9 8736 ∧ (¬ (1024 : Int32) = 0 ∧ (Q (some (.int ((z1 l9.toNatClampNeg) - (z1 l9.toNatClampNeg) / (1024 : Int32) * (1024 : Int32)))) (ab_u M 36 z1) N))))) : zr_X1_ask Q 237 [some (.ref 5), some (.int l1), none, none, none, none, none, none, none, some (.int l9), none] [.int s0] M N := ab_Run_s zm_X1_ask (sp := [(81, [true, true, true, true, false, true, false, false, false, false, false]), (109, [true, true, true, true, false, false, true, true, false, false, false]), (237, [true, true, false, false, false, false, false, false, false, true, false])]) 159 h
theorem zAsks_of {M M2 : ab_M} (h : zAsks M) (hF : zFr [33, 35] M M2) : zAsks M2 := by
  obtain ⟨h1, h2, h3⟩ := h
  refine ⟨?_, zCache_fr h2 (hF 3 (by decide)) (by rw [hF 5 (by decide)]) (hF 13 (by decide)) (hF 14 (by decide)) (hF 17 (by decide)) (hF 18 (by decide)) (hF 31 (by decide)) (hF 32 (by decide)) (hF 36 (by decide)), ?_⟩
  · unfold zLawOK at h1 ⊢
    rw [hF 3 (by decide), hF 32 (by decide)]
    exact h1
  · rw [hF 15 (by decide)]
    exact h3
theorem zP_X1_ask {Q : ab_R} {N : ab_N} {M : ab_M} (hA : zAsks M) (t q g i c : Nat) (ht : t < 3) (hq : q < 8) (hg : g < 12) (hi : i ≤ 12) (hc : c ≤ 3) (hc1 : t ≠ 1 → c = 0) (row : Nat) (hrow : row = if t = 1 then 3 + c else t)
    (hk : ∀ M2, zFr [33, 35, 36] M M2 → zAsks M2 → Q (some (.int (nI (zAskN M t q g i c)))) M2 N) : zr_X1_ask Q 109 [some (.ref 5), some (.int (nI t)), some (.int (nI q)), some (.int (nI g)), none, none, some (.int (nI i)), some (.int (nI c)), none, none, none] [.int (nI row)] M N := by
  obtain ⟨hL, hC, hS⟩ := id hA
  obtain ⟨age, a1, a2, a3, a4⟩ := id hC
  have hr7 : row < 7 ∧ row ≠ 1 ∧ zRt row = t ∧ row - 3 = c := by
    unfold zRt
    rw [hrow]
    by_cases e : t = 1
    · subst e
      rw [if_pos rfl]
      refine ⟨by omega, by omega, ?_, by omega⟩
      rw [if_neg (by omega), if_neg (by omega)]
    · have := hc1 e
      rw [if_neg e]
      refine ⟨by omega, e, ?_, by omega⟩
      by_cases e0 : t = 0
      · rw [if_pos e0, e0]
      · rw [if_neg e0, if_pos (by omega)]; omega
  obtain ⟨r1, r2, r3, r4⟩ := hr7
  have hix : zIx row q g i < 8736 := by unfold zIx; omega
  obtain ⟨v, v1, v2, v3⟩ := a4 row q g i r1 r2 hq hg (by omega)
  refine zv_X1_ask_109 _ _ _ _ _ _ ?_
  have eix : ((((nI row * 8 + nI q) * 12) + nI g) * 13) + nI i = nI (zIx row q g i) := by
    rw [zN_mul row 8 8, nI_add, zN_mul _ 12 12, nI_add, zN_mul _ 13 13, nI_add]; rfl
  rw [eix]
  have hin : vp_in (nI (zIx row q g i)) 8736 := nI_in_ hix
  have cix : (nI (zIx row q g i)).toNatClampNeg = zIx row q g i := nI_clamp (by omega)
  have e1024 : (1024 : Int32) = nI 1024 := rfl
  have hv31 : v < 2 ^ 31 := by omega
  refine ⟨hin, by decide, fun c1 => ⟨hin, by decide, ?_⟩, fun c1 => ?_⟩
  · rw [cix, v1, e1024, pk_div hv31 (by decide) (by decide), a3] at c1
    have c2 : v / 1024 = age := (nI_eq (by omega) (by omega)).mp c1
    have c3 := v3 c2
    rw [cix, v1, e1024, pk_rem hv31 (by decide) (by decide), c3, r3, r4]
    exact hk M (zFr_rf _ _) hA
  · refine ⟨nI_in_ hg, ab_vpk (by decide), ?_⟩
    intro z1
    refine ⟨nI_in_ hq, ab_vpk (by decide), ?_⟩
    intro z2
    refine ⟨ab_vpk (by decide), ab_vpk (by decide), ?_⟩
    intro z3
    refine ⟨ab_vpk (by decide), ?_⟩
    intro z4
    refine ⟨nI_in_ hq, ab_vpk (by decide), ?_⟩
    intro z5
    refine ⟨ab_vpk (by decide), ?_⟩
    intro z6
    have hz : ∀ j, j < 6 → z6 j = zNm M q g i c j := by
      intro j hj
      have e1 : (nI g).toNatClampNeg = g := nI_clamp (by omega)
      have e2 : (nI q).toNatClampNeg = q := nI_clamp (by omega)
      match j, hj with
      | 0, _ => simp [z6, z5, z4, z3, z2, z1, upd, zNm, e1]
      | 1, _ => simp [z6, z5, z4, z3, z2, z1, upd, zNm, e2]
      | 2, _ => simp [z6, z5, z4, z3, z2, z1, upd, zNm]
      | 3, _ => simp [z6, z5, z4, z3, z2, z1, upd, zNm]
      | 4, _ => simp [z6, z5, z4, z3, z2, z1, upd, zNm, e2]
      | 5, _ => simp [z6, z5, z4, z3, z2, z1, upd, zNm]
    clear_value z6
    generalize hM1 : ab_u (ab_u (ab_u (ab_u (ab_u (ab_u M 35 z1) 35 z2) 35 z3) 35 z4) 35 z5) 35 z6 = M1
    have hF1 : zFr [33, 35] M M1 := by
      rw [← hM1]
      exact zFr_u (zFr_u (zFr_u (zFr_u (zFr_u (zFr_u (zFr_rf _ _) (by decide) _) (by decide) _) (by decide) _) (by decide) _) (by decide) _) (by decide) _
    have h35 : M1 35 = z6 := by rw [← hM1, ab_u_eq]
    have hA1 := zAsks_of hA hF1
    refine ⟨⟨rfl, rfl, ⟨(nI_leI (by decide) (by omega)).mpr (Nat.zero_le t), (nI_ltI (by omega) (by decide)).mpr ht⟩, hA1.1⟩, fun M2 hF2 => ?_⟩
    have hF : zFr [33, 35] M M2 := zFr_tr hF1 (zFr_mono hF2 (by decide))
    have hA2 := zAsks_of hA hF
    rw [h35, nI_clamp (show t < 2 ^ 31 by omega)]
    have eV : zVal M1 t z6 = zVal M t (zNm M q g i c) := by
      unfold zVal zFrom zTo
      rw [hF1 3 (by decide), hF1 31 (by decide), hF1 32 (by decide)]
      rw [zEval_nm hz]
    rw [eV]
    show zr_X1_ask Q 237 [some (.ref 5), some (.int (nI t)), none, none, none, none, none, none, none, some (.int (nI (zIx row q g i))), none] [.int (zVal M t (zNm M q g i c))] M2 N
    obtain ⟨k1, k2⟩ := zClamp_n t ht (zVal M t (zNm M q g i c))
    have ek : (zClamp (zs_MOST_OF_THING t) (zVal M t (zNm M q g i c))).toNatClampNeg = zAskN M t q g i c := rfl
    rw [ek] at k1 k2
    refine zv_X1_ask_237 _ _ _ ⟨nI_in_ ht, hin, ?_⟩
    intro y1
    have ey : y1 = upd (M2 36) (zIx row q g i) (nI (age * 1024 + zAskN M t q g i c)) := by
      show upd (M2 36) _ _ = _
      rw [cix, hF 5 (by decide), a3, zN_mul age 1024 1024, nI_clamp (show t < 2 ^ 31 by omega)]
      have : (if (0 : Int32) < (if zs_MOST_OF_THING t < zVal M t (zNm M q g i c) then zs_MOST_OF_THING t else zVal M t (zNm M q g i c)) then (if zs_MOST_OF_THING t < zVal M t (zNm M q g i c) then zs_MOST_OF_THING t else zVal M t (zNm M q g i c)) else 0) = nI (zAskN M t q g i c) := k1
      rw [this, nI_add]
    clear_value y1
    subst ey
    refine ⟨hin, by decide, ?_⟩
    rw [cix, upd_eq, e1024, pk_rem (by omega) (by decide) (by decide), show (age * 1024 + zAskN M t q g i c) % 1024 = zAskN M t q g i c by omega]
    refine hk _ (zFr_u (zFr_mono hF (by decide)) (by decide) _) ?_
    have hN : zAskN (ab_u M2 36 (upd (M2 36) (zIx row q g i) (nI (age * 1024 + zAskN M t q g i c)))) = zAskN M := zAskN_fr (hF 3 (by decide)) (hF 13 (by decide)) (hF 14 (by decide)) (hF 17 (by decide)) (hF 18 (by decide)) (hF 31 (by decide)) (hF 32 (by decide))
    refine ⟨hA2.1, ⟨age, a1, a2, by show M2 5 4 = _; rw [hF 5 (by decide), a3], fun row2 p2 h2 i2 b1 b2 b3 b4 b5 => ?_⟩, hA2.2.2⟩
    rw [ab_u_eq, hN]
    by_cases hx : zIx row2 p2 h2 i2 = zIx row q g i
    · obtain ⟨rfl, rfl, rfl, rfl⟩ := zIx_inj b3 b4 b5 hq hg (by omega) hx
      rw [upd_eq]
      refine ⟨_, rfl, by omega, fun _ => ?_⟩
      rw [r3, r4]
      omega
    · rw [upd_ne _ _ hx, hF 36 (by decide)]
      exact a4 row2 p2 h2 i2 b1 b2 b3 b4 b5
theorem zE_X1_ask (as : List Value) (M : ab_M) (N : ab_N) (k : ab_R) (hT : zt_X1_ask as M N k) : ab_cs as ≤ 11 ∧ zr_X1_ask k 0 (ab_en as) [] M N := by
  obtain ⟨th, p, h, st, pc, rfl, ⟨hA, t, q, g, s, c, P, h1, h2, h3, h4, h5, h6, rfl, rfl, rfl, rfl, rfl, hP⟩, hk⟩ := ab_m5_e hT
  refine ⟨Nat.le_of_ble_eq_true rfl, zv_X1_ask_0 _ _ _ _ _ ?_⟩
  have hk2 : ∀ M2, zFr [33, 35, 36] M M2 → zAsks M2 → k (some (.int (nI (zAskN M t q g (zIs M t q s) (if t = 1 then c else 0))))) M2 N := fun M2 hF hA2 => hk _ _ _ ⟨rfl, hF, hA2, by rw [nI_clamp (by omega), nI_clamp (by omega), nI_clamp (by omega), nI_clamp (by omega), nI_clamp (by omega)]; rfl⟩
  obtain ⟨sk, hs1, hs2⟩ := hA.2.2 q (by omega)
  have nn : ∀ n : Nat, n < 100 → ¬ nI n < 0 := fun n hn => nI_pos (by omega)
  have j81 : ∀ i : Nat, i ≤ 12 → i = zIs M t q s → zr_X1_ask k 81 [some (.ref 5), some (.int (nI t)), some (.int (nI q)), some (.int (nI g)), none, some (.int (nI c)), none, none, none, none, none] [.int (nI i)] M N := by
    intro i hi ei
    subst ei
    refine zv_X1_ask_81 _ _ _ _ _ ⟨fun c1 => ⟨fun _ => ?_, fun c2 => absurd c1 c2⟩, fun c1 => ⟨fun c2 => absurd c2 c1, fun _ => ?_⟩⟩
    · have et : t = 1 := (nI_eq (by omega) (by decide)).mp (show nI t = nI 1 from c1)
      rw [show (3 : Int32) = nI 3 from rfl, nI_add]
      rw [if_pos et] at hk2
      exact zP_X1_ask hA t q g _ c h1 (by omega) h4 hi h6 (fun z => absurd et z) _ (by rw [if_pos et]) hk2
    · have et : ¬ t = 1 := fun z => c1 (by rw [z]; rfl)
      rw [if_neg et] at hk2
      exact zP_X1_ask hA t q g _ 0 h1 (by omega) h4 hi (by omega) (fun _ => rfl) t (by rw [if_neg et]) hk2
  refine ⟨fun z => absurd z (nn t (by omega)), fun _ => ⟨fun z => absurd z (nI_ge (b := 3) h1 (by omega)), fun _ => ⟨fun z => absurd (ab_b_0.mp z) ?_, fun _ => ⟨fun z => absurd z (nn g (by omega)), fun _ => ⟨fun z => absurd z (nI_ge (b := 12) h4 (by omega)), fun _ => ⟨fun z => absurd z (nn s (by omega)), fun _ => ⟨fun z => absurd z (nI_nlt (a := 12) (b := s) h5 (by omega)), fun _ => ⟨fun z => absurd z (nn c (by omega)), fun _ => ⟨fun _ => ⟨fun c1 => ⟨nI_in_ (by omega), ?_⟩, fun c1 => ?_⟩, fun z => absurd (nI_le (a := c) (b := 3) h6 (by omega)) z⟩⟩⟩⟩⟩⟩⟩⟩⟩
  · refine fun hneg => hneg ⟨nI_pos' (by omega), by rw [hP]; exact nI_lt h2 (by omega), nI_lt (a := q) (b := 8) (by omega) (by omega)⟩
  · have et : t = 2 := (nI_eq (by omega) (by decide)).mp (show nI t = nI 2 from c1)
    rw [nI_clamp (by omega), hs2]
    have ei : (if (0 : Int32) < nI s - nI sk then nI s - nI sk else 0) = nI (s - sk) := by
      by_cases hle : sk ≤ s
      · rw [pk_sub hle]
        by_cases h0 : s - sk = 0
        · rw [h0]; rfl
        · rw [if_pos (show (0 : Int32) < nI (s - sk) from nI_lt (a := 0) (Nat.pos_of_ne_zero h0) (by omega))]
      · have hneg := pk_sneg (a := s) (b := sk) (by omega) (by omega)
        rw [if_neg (Int32.not_lt.mpr (Int32.le_of_lt hneg)), show s - sk = 0 by omega]
        rfl
    rw [ei]
    exact j81 _ (by omega) (by unfold zIs; rw [if_pos et, hs2, nI_clamp (by omega)])
  · have et : ¬ t = 2 := fun z => c1 (by rw [z]; rfl)
    exact j81 s h5 (by unfold zIs; rw [if_neg et])
abbrev zR_X1_ask : Room := { frames := 2, cells := 0, slots := 0, locals := 50 }
set_option maxRecDepth 20000 in
theorem zM_X1_ask (l : Launch) : ab_Met l zw_C vwCl zZ_C yX1_ask cX1_ask 11 (some .int) zR_X1_ask zt_X1_ask := ab_ofRun (G := zg_X1_ask) (P := zp_X1_ask) rfl zo_X1_ask (by decide +kernel) zl_cl zl_lamC zf_X1_ok zs_tabOK ab_Cst_nil zs_X1_ok (List.forall_mem_cons.mpr ⟨ab_callV zZ_C_ok (zM_X2_has l) (ab_in 554 (by decide +kernel) rfl) (ab_in 591 (by decide +kernel) rfl) (ab_in 552 (by decide +kernel) rfl) (ab_in 553 (by decide +kernel) rfl) (ab_in 2 (by decide +kernel) rfl) (by unfold ab_yok; decide +kernel) ⟨rfl, rfl⟩ (by decide) zV_X2_has, List.forall_mem_cons.mpr ⟨ab_callV zZ_C_ok (zM_X9_valueOf l) (ab_in 598 (by decide +kernel) rfl) (ab_in 595 (by decide +kernel) rfl) (ab_in 596 (by decide +kernel) rfl) (ab_in 597 (by decide +kernel) rfl) (ab_in 4 (by decide +kernel) rfl) (by unfold ab_yok; decide +kernel) ⟨rfl, rfl⟩ (by decide) zV_X9_valueOf, List.forall_mem_nil _⟩⟩) (List.forall_mem_cons.mpr ⟨ab_callMax (ab_in 592 (by decide +kernel) rfl) (ab_in 593 (by decide +kernel) rfl) (ab_in 18 (by decide +kernel) rfl) (ab_in 594 (by decide +kernel) rfl) (by decide) (by decide), List.forall_mem_cons.mpr ⟨ab_callMin (ab_in 607 (by decide +kernel) rfl) (ab_in 608 (by decide +kernel) rfl) (ab_in 18 (by decide +kernel) rfl) (ab_in 609 (by decide +kernel) rfl) (by decide) (by decide), List.forall_mem_nil _⟩⟩) zE_X1_ask
