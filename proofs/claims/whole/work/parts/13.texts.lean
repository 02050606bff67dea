/-! Texts.valueOf, Chances *)
-/
def zt_X9_valueOf : ab_T := fun as M N k => match as with
  | [.ref a, .int th, .ref b] => (a = 3 ∧ b = 35 ∧ (0 ≤ th ∧ th < 3) ∧ zLawOK M) ∧ ∀ M2 : ab_M, zFr [33] M M2 → k (some (.int (zVal M th.toNatClampNeg (M 35)))) M2 N
  | _ => False
theorem zt_X9_valueOf_mono : ab_mono zt_X9_valueOf := fun as M N k k2 hk h => by
  unfold zt_X9_valueOf at h ⊢
  split at h
  · exact ⟨h.1, fun M2 hF => hk _ _ _ (h.2 M2 hF)⟩
  · exact h
def zp_X9_valueOf : ab_P := [(0, .aload_n 0, 1, [0], []),
  (1, .getfield 22, 4, [], []),
  (4, .iconst 3, 5, [], [3]),
  (5, .imul, 6, [], []),
  (6, .iload_n 1, 7, [1], []),
  (7, .iadd, 8, [], []),
  (8, .istore_n 3, 9, [3], []),
  (9, .iload_n 1, 10, [1], []),
  (10, .ifCond .ne 14, 13, [24], []),
  (13, .aload_n 0, 14, [0], []),
  (14, .getfield 22, 17, [], []),
  (17, .sipush 160, 20, [], [160]),
  (20, .imul, 21, [], []),
  (21, .goto 11, 24, [32], []),
  (24, .aload_n 0, 25, [0], []),
  (25, .getfield 15, 28, [], []),
  (28, .iload_n 3, 29, [3], []),
  (29, .iconst 1, 30, [], [1]),
  (30, .isub, 31, [], []),
  (31, .iaload, 32, [], []),
  (32, .istore 4, 34, [], []),
  (34, .aload_n 0, 35, [0], []),
  (35, .getfield 15, 38, [], []),
  (38, .iload_n 3, 39, [3], []),
  (39, .iaload, 40, [], []),
  (40, .istore 5, 42, [], []),
  (42, .iconst 0, 43, [], [0]),
  (43, .istore 6, 45, [], []),
  (45, .iload 4, 47, [], []),
  (47, .istore 7, 49, [], []),
  (49, .iload 7, 51, [], []),
  (51, .iload 5, 53, [], []),
  (53, .if_icmp .ge 167, 56, [220], []),
  (56, .aload_n 0, 57, [0], []),
  (57, .getfield 9, 60, [], []),
  (60, .iload 7, 62, [], []),
  (62, .iaload, 63, [], []),
  (63, .istore 8, 65, [], []),
  (65, .iload 8, 67, [], []),
  (67, .bipush (-7), 69, [], [(-7)]),
  (69, .if_icmp .le 42, 72, [111], []),
  (72, .iload 6, 74, [], []),
  (74, .aload_n 0, 75, [0], []),
  (75, .getfield 25, 78, [], []),
  (78, .arraylength, 79, [], []),
  (79, .if_icmp .ge 135, 82, [214], []),
  (82, .aload_n 0, 83, [0], []),
  (83, .getfield 25, 86, [], []),
  (86, .iload 6, 88, [], []),
  (88, .iload 8, 90, [], []),
  (90, .ifCond .lt 8, 93, [98], []),
  (93, .iload 8, 95, [], []),
  (95, .goto 9, 98, [104], []),
  (98, .aload_n 2, 99, [2], []),
  (99, .iconst (-1), 100, [], [(-1)]),
  (100, .iload 8, 102, [], []),
  (102, .isub, 103, [], []),
  (103, .iaload, 104, [], []),
  (104, .iastore, 105, [], []),
  (105, .iinc 6 1, 108, [], [1]),
  (108, .goto 106, 111, [214], []),
  (111, .iload 8, 113, [], []),
  (113, .bipush (-9), 115, [], [(-9)]),
  (115, .if_icmp .le 60, 118, [175], []),
  (118, .iload 6, 120, [], []),
  (120, .ifCond .le 94, 123, [214], []),
  (123, .aload_n 0, 124, [0], []),
  (124, .getfield 25, 127, [], []),
  (127, .iload 6, 129, [], []),
  (129, .iconst 1, 130, [], [1]),
  (130, .isub, 131, [], []),
  (131, .iload 8, 133, [], []),
  (133, .bipush (-8), 135, [], [(-8)]),
  (135, .if_icmp .ne 16, 138, [151], []),
  (138, .aload_n 0, 139, [0], []),
  (139, .getfield 25, 142, [], []),
  (142, .iload 6, 144, [], []),
  (144, .iconst 1, 145, [], [1]),
  (145, .isub, 146, [], []),
  (146, .iaload, 147, [], []),
  (147, .ineg, 148, [], []),
  (148, .goto 23, 151, [171], []),
  (151, .aload_n 0, 152, [0], []),
  (152, .getfield 25, 155, [], []),
  (155, .iload 6, 157, [], []),
  (157, .iconst 1, 158, [], [1]),
  (158, .isub, 159, [], []),
  (159, .iaload, 160, [], []),
  (160, .ifCond .ne 7, 163, [167], []),
  (163, .iconst 1, 164, [], [1]),
  (164, .goto 4, 167, [168], []),
  (167, .iconst 0, 168, [], [0]),
  (168, .invokestatic 28, 171, [], []),
  (171, .iastore, 172, [], []),
  (172, .goto 42, 175, [214], []),
  (175, .iload 6, 177, [], []),
  (177, .iconst 1, 178, [], [1]),
  (178, .if_icmp .le 36, 181, [214], []),
  (181, .iinc 6 (-1), 184, [], [(-1)]),
  (184, .aload_n 0, 185, [0], []),
  (185, .getfield 25, 188, [], []),
  (188, .iload 6, 190, [], []),
  (190, .iconst 1, 191, [], [1]),
  (191, .isub, 192, [], []),
  (192, .iload 8, 194, [], []),
  (194, .aload_n 0, 195, [0], []),
  (195, .getfield 25, 198, [], []),
  (198, .iload 6, 200, [], []),
  (200, .iconst 1, 201, [], [1]),
  (201, .isub, 202, [], []),
  (202, .iaload, 203, [], []),
  (203, .aload_n 0, 204, [0], []),
  (204, .getfield 25, 207, [], []),
  (207, .iload 6, 209, [], []),
  (209, .iaload, 210, [], []),
  (210, .invokestatic 32, 213, [], []),
  (213, .iastore, 214, [], []),
  (214, .iinc 7 1, 217, [], [1]),
  (217, .goto (-168), 220, [49], []),
  (220, .iload 6, 222, [], []),
  (222, .ifCond .le 15, 225, [237], []),
  (225, .aload_n 0, 226, [0], []),
  (226, .getfield 25, 229, [], []),
  (229, .iload 6, 231, [], []),
  (231, .iconst 1, 232, [], [1]),
  (232, .isub, 233, [], []),
  (233, .iaload, 234, [], []),
  (234, .goto 4, 237, [238], []),
  (237, .iconst 0, 238, [], [0]),
  (238, .ireturn, 239, [], [])]
theorem zo_X9_valueOf : ab_ok cX9_valueOf zp_X9_valueOf = true := by decide +kernel
def zg_X9_valueOf : ab_G := (zw_C, zs_tab, zf_X9, [], [], [], [(28, 1, zt_X9_truth), (32, 3, zt_X9_joined)])
theorem zm_X9_valueOf : ab_MG zg_X9_valueOf := ab_MGof (List.forall_mem_nil _) (List.forall_mem_cons.mpr ⟨ab_pure_mono _, List.forall_mem_cons.mpr ⟨ab_pure_mono _, List.forall_mem_nil _⟩⟩)
abbrev zr_X9_valueOf (Q : ab_R) : ab_K := ab_Run zg_X9_valueOf zp_X9_valueOf (some .int) 9 Q
set_option maxRecDepth 20000 in
theorem zv_X9_valueOf_0 {Q : ab_R} {M : ab_M} {N : ab_N} (l1 : Int32) (h : (l1 = 0 → vp_in (((M 3 3) * (3 : Int32)) + l1) 18 ∧ (zr_X9_valueOf Q 49 [some (.ref 3), none, some (.ref 35), none, none, some (.int (M 32 (((M 3 3) * (3 : Int32)) + l1).toNatClampNeg)), some (.int (0 : Int32)), some (.int ((M 3 3) * (160 : Int32))), none] [] M N)) ∧ (¬ (l1 = 0) → vp_in ((((M 3 3) * (3 : Int32)) + l1) - (1 : Int32)) 18 ∧ (vp_in (((M 3 3) * (3 : Int32)) + l1) 18 ∧ (zr_X9_valueOf Q 49 [some (.ref 3), none, some (.ref 35), none, none, some (.int (M 32 (((M 3 3) * (3 : Int32)) + l1).toNatClampNeg)), some (.int (0 : Int32)), some (.int (M 32 ((((M 3 3) * (3 : Int32)) + l1) - (1 : Int32)).toNatClampNeg)), none] [] M N)))) : zr_X9_valueOf Q 0 [some (.ref 3), some (.int l1), some (.ref 35)] [] M N := ab_Run_s zm_X9_valueOf (sp := [(49, [true, false, true, false, false, true, true, true, false])]) 132 h
set_option maxRecDepth 20000 in
theorem zv_X9_valueOf_49 {Q : ab_R} {M : ab_M} {N : ab_N} (l5 : Int32) (l6 : Int32) (l7 : Int32) (h : (l5 ≤ l7 → (l6 ≤ 0 → Q (some (.int (0 : Int32))) M N) ∧ (¬ (l6 ≤ 0) → vp_in (l6 - (1 : Int32)) 160 ∧ (Q (some (.int (M 33 (l6 - (1 : Int32)).toNatClampNeg))) M N))) ∧ (¬ (l5 ≤ l7) → vp_in l7 960 ∧ (((M 31 l7.toNatClampNeg) ≤ (-7 : Int32) → ((M 31 l7.toNatClampNeg) ≤ (-9 : Int32) → (l6 ≤ (1 : Int32) → zr_X9_valueOf Q 49 [some (.ref 3), none, some (.ref 35), none, none, some (.int l5), some (.int l6), some (.int (l7 + (1 : Int32))), none] [] M N) ∧ (¬ (l6 ≤ (1 : Int32)) → vp_in ((l6 + (-1 : Int32)) - (1 : Int32)) 160 ∧ (vp_in (l6 + (-1 : Int32)) 160 ∧ (vp_in ((l6 + (-1 : Int32)) - (1 : Int32)) 160 ∧ (let z1 : Nat → Int32 := upd (M 33) ((l6 + (-1 : Int32)) - (1 : Int32)).toNatClampNeg (zj (M 31 l7.toNatClampNeg) (M 33 ((l6 + (-1 : Int32)) - (1 : Int32)).toNatClampNeg) (M 33 (l6 + (-1 : Int32)).toNatClampNeg)); zr_X9_valueOf Q 49 [some (.ref 3), none, some (.ref 35), none, none, some (.int l5), some (.int (l6 + (-1 : Int32))), some (.int (l7 + (1 : Int32))), none] [] (ab_u M 33 z1) N))))) ∧ (¬ ((M 31 l7.toNatClampNeg) ≤ (-9 : Int32)) → (l6 ≤ 0 → zr_X9_valueOf Q 49 [some (.ref 3), none, some (.ref 35), none, none, some (.int l5), some (.int l6), some (.int (l7 + (1 : Int32))), none] [] M N) ∧ (¬ (l6 ≤ 0) → ((M 31 l7.toNatClampNeg) = (-8 : Int32) → vp_in (l6 - (1 : Int32)) 160 ∧ (vp_in (l6 - (1 : Int32)) 160 ∧ (let z2 : Nat → Int32 := upd (M 33) (l6 - (1 : Int32)).toNatClampNeg (-(M 33 (l6 - (1 : Int32)).toNatClampNeg)); zr_X9_valueOf Q 49 [some (.ref 3), none, some (.ref 35), none, none, some (.int l5), some (.int l6), some (.int (l7 + (1 : Int32))), none] [] (ab_u M 33 z2) N))) ∧ (¬ ((M 31 l7.toNatClampNeg) = (-8 : Int32)) → vp_in (l6 - (1 : Int32)) 160 ∧ (((M 33 (l6 - (1 : Int32)).toNatClampNeg) = 0 → vp_in (l6 - (1 : Int32)) 160 ∧ (let z3 : Nat → Int32 := upd (M 33) (l6 - (1 : Int32)).toNatClampNeg (if (1 : Int32) = 0 then 0 else 1); zr_X9_valueOf Q 49 [some (.ref 3), none, some (.ref 35), none, none, some (.int l5), some (.int l6), some (.int (l7 + (1 : Int32))), none] [] (ab_u M 33 z3) N)) ∧ (¬ ((M 33 (l6 - (1 : Int32)).toNatClampNeg) = 0) → vp_in (l6 - (1 : Int32)) 160 ∧ (let z4 : Nat → Int32 := upd (M 33) (l6 - (1 : Int32)).toNatClampNeg (if (0 : Int32) = 0 then 0 else 1); zr_X9_valueOf Q 49 [some (.ref 3), none, some (.ref 35), none, none, some (.int l5), some (.int l6), some (.int (l7 + (1 : Int32))), none] [] (ab_u M 33 z4) N))))))) ∧ (¬ ((M 31 l7.toNatClampNeg) ≤ (-7 : Int32)) → ((Int32.ofNat 160) ≤ l6 → zr_X9_valueOf Q 49 [some (.ref 3), none, some (.ref 35), none, none, some (.int l5), some (.int l6), some (.int (l7 + (1 : Int32))), none] [] M N) ∧ (¬ ((Int32.ofNat 160) ≤ l6) → ((M 31 l7.toNatClampNeg) < 0 → vp_in ((-1 : Int32) - (M 31 l7.toNatClampNeg)) 6 ∧ (vp_in l6 160 ∧ (let z5 : Nat → Int32 := upd (M 33) l6.toNatClampNeg (M 35 ((-1 : Int32) - (M 31 l7.toNatClampNeg)).toNatClampNeg); zr_X9_valueOf Q 49 [some (.ref 3), none, some (.ref 35), none, none, some (.int l5), some (.int (l6 + (1 : Int32))), some (.int (l7 + (1 : Int32))), none] [] (ab_u M 33 z5) N))) ∧ (¬ ((M 31 l7.toNatClampNeg) < 0) → vp_in l6 160 ∧ (let z6 : Nat → Int32 := upd (M 33) l6.toNatClampNeg (M 31 l7.toNatClampNeg); zr_X9_valueOf Q 49 [some (.ref 3), none, some (.ref 35), none, none, some (.int l5), some (.int (l6 + (1 : Int32))), some (.int (l7 + (1 : Int32))), none] [] (ab_u M 33 z6) N))))))) : zr_X9_valueOf Q 49 [some (.ref 3), none, some (.ref 35), none, none, some (.int l5), some (.int l6), some (.int l7), none] [] M N := ab_Run_s zm_X9_valueOf (sp := [(49, [true, false, true, false, false, true, true, true, false])]) 132 h
theorem zL_X9_valueOf {Q : ab_R} {N : ab_N} (M0 : ab_M) (fr to : Nat) (h960 : to ≤ 960) (h160 : to ≤ fr + 160) (r : Int32) (hq : ∀ M2, zFr [33] M0 M2 → Q (some (.int r)) M2 N) : ∀ (m n t : Nat) (st : List Int32) (M : ab_M), n + m = to → fr + t ≤ n → zFr [33] M0 M → zStk (M 33) t st → zTop (zEval (M0 31) (M0 35) n m st) = r → zr_X9_valueOf Q 49 [some (.ref 3), none, some (.ref 35), none, none, some (.int (nI to)), some (.int (nI t)), some (.int (nI n)), none] [] M N := by
  intro m
  induction m with
  | zero =>
    intro n t st M hn ht hF hS hE
    refine zv_X9_valueOf_49 _ _ _ ⟨fun _ => ⟨fun c => ?_, fun c => ?_⟩, fun c => absurd (nI_le (by omega) (by omega)) c⟩
    · have h0 : t = 0 := by
        rcases Nat.eq_zero_or_pos t with q | q
        · exact q
        · exact absurd c (nI_nle q (by omega))
      subst h0
      cases st with
      | nil => rw [show r = 0 from hE.symm] at hq; exact hq M hF
      | cons x s => exact hS.elim
    · cases t with
      | zero => exact absurd (nI_le (a := 0) (b := 0) (by omega) (by omega)) c
      | succ t =>
        cases st with
        | nil => exact hS.elim
        | cons x s =>
          rw [nI_pred]
          refine ⟨nI_in_ (by omega), ?_⟩
          rw [nI_clamp (by omega), hS.1]
          have : x = r := hE
          rw [this]
          exact hq M hF
  | succ m ih =>
    intro n t st M hn ht hF hS hE
    have e31 : M 31 = M0 31 := hF 31 (by decide)
    have e35 : M 35 = M0 35 := hF 35 (by decide)
    refine zv_X9_valueOf_49 _ _ _ ⟨fun c => absurd c (nI_ge (by omega) (by omega)), fun _ => ⟨nI_in_ (by omega), ?_⟩⟩
    simp only [nI_clamp (show n < 2 ^ 31 by omega), e31, e35]
    have hE2 : ∀ s2, zStep (M0 35) (M0 31 n) st = s2 → zTop (zEval (M0 31) (M0 35) (n + 1) m s2) = r := fun s2 e => by rw [← e]; exact hE
    rw [nI_1]
    refine ⟨fun c1 => ⟨fun c2 => ?_, fun c2 => ?_⟩, fun c1 => ?_⟩
    · -- two
      have k1 : ¬ -7 < M0 31 n := Int32.not_lt.mpr c1
      have k2 : ¬ -9 < M0 31 n := Int32.not_lt.mpr c2
      match t, st, hS with
      | 0, [], hS =>
        refine ⟨fun c => ih (n + 1) 0 [] M (by omega) (by omega) hF hS (hE2 _ (by simp only [zStep, if_neg k1, if_neg k2])), fun c => absurd (nI_le (a := 0) (b := 1) (by omega) (by omega)) c⟩
      | 1, [x], hS =>
        refine ⟨fun c => ih (n + 1) 1 [x] M (by omega) (by omega) hF hS (hE2 _ (by simp only [zStep, if_neg k1, if_neg k2])), fun c => absurd (nI_le (a := 1) (b := 1) (by omega) (by omega)) c⟩
      | t + 2, y :: x :: s, hS =>
        refine ⟨fun c => absurd c (nI_ge (a := 1) (b := t + 2) (by omega) (by omega)), fun c => ?_⟩
        rw [pk_m1, nI_pred]
        refine ⟨nI_in_ (by omega), nI_in_ (by omega), nI_in_ (by omega), ?_⟩
        simp only [nI_clamp (show t < 2 ^ 31 by omega), nI_clamp (show t + 1 < 2 ^ 31 by omega), hS.1, hS.2.1]
        exact ih (n + 1) (t + 1) (zj (M0 31 n) x y :: s) _ (by omega) (by omega) (zFr_u hF (by decide) _) ⟨by rw [ab_u_eq, upd_eq], by rw [ab_u_eq]; exact zStk_upd _ hS.2.2 (Nat.le_refl _)⟩ (hE2 _ (by simp only [zStep, if_neg k1, if_neg k2]))
      | 0, _ :: _, hS => exact hS.elim
      | 1, [], hS => exact hS.elim
      | 1, _ :: _ :: _, hS => exact hS.2.elim
      | t + 2, [], hS => exact hS.elim
      | t + 2, [_], hS => exact hS.2.elim
    · -- one
      have k1 : ¬ -7 < M0 31 n := Int32.not_lt.mpr c1
      have k2 : -9 < M0 31 n := Int32.not_le.mp c2
      match t, st, hS with
      | 0, [], hS =>
        refine ⟨fun c => ih (n + 1) 0 [] M (by omega) (by omega) hF hS (hE2 _ (by simp only [zStep, if_neg k1, if_pos k2])), fun c => absurd (nI_le (a := 0) (b := 0) (by omega) (by omega)) c⟩
      | t + 1, x :: s, hS =>
        refine ⟨fun c => absurd c (nI_nle (by omega) (by omega)), fun c => ?_⟩
        rw [nI_pred]
        simp only [nI_clamp (show t < 2 ^ 31 by omega), hS.1]
        have fin : ∀ v : Int32, zStep (M0 35) (M0 31 n) (x :: s) = v :: s → zr_X9_valueOf Q 49 [some (.ref 3), none, some (.ref 35), none, none, some (.int (nI to)), some (.int (nI (t + 1))), some (.int (nI (n + 1))), none] [] (ab_u M 33 (upd (M 33) t v)) N := fun v hv =>
          ih (n + 1) (t + 1) (v :: s) _ (by omega) (by omega) (zFr_u hF (by decide) _) ⟨by rw [ab_u_eq, upd_eq], by rw [ab_u_eq]; exact zStk_upd _ hS.2 (Nat.le_refl _)⟩ (hE2 _ hv)
        refine ⟨fun c3 => ⟨nI_in_ (by omega), nI_in_ (by omega), fin _ ?_⟩, fun c3 => ⟨nI_in_ (by omega), fun c4 => ⟨nI_in_ (by omega), fin _ ?_⟩, fun c4 => ⟨nI_in_ (by omega), fin _ ?_⟩⟩⟩
        · simp only [zStep, if_neg k1, if_pos k2, if_pos c3]
        · simp only [zStep, if_neg k1, if_pos k2, if_neg c3, if_pos c4]; rfl
        · simp only [zStep, if_neg k1, if_pos k2, if_neg c3, if_neg c4]; rfl
      | 0, _ :: _, hS => exact hS.elim
      | t + 1, [], hS => exact hS.elim
    · -- a number or a name
      have k1 : -7 < M0 31 n := Int32.not_le.mp c1
      refine ⟨fun c => absurd c (nI_ge (a := t) (b := 160) (by omega) (by omega)), fun c => ?_⟩
      simp only [nI_clamp (show t < 2 ^ 31 by omega), nI_1]
      have fin : ∀ v : Int32, zStep (M0 35) (M0 31 n) st = v :: st → zr_X9_valueOf Q 49 [some (.ref 3), none, some (.ref 35), none, none, some (.int (nI to)), some (.int (nI (t + 1))), some (.int (nI (n + 1))), none] [] (ab_u M 33 (upd (M 33) t v)) N := fun v hv =>
        ih (n + 1) (t + 1) (v :: st) _ (by omega) (by omega) (zFr_u hF (by decide) _) ⟨by rw [ab_u_eq, upd_eq], by rw [ab_u_eq]; exact zStk_upd _ hS (Nat.le_refl _)⟩ (hE2 _ hv)
      refine ⟨fun c3 => ⟨ab_vp 6 rfl (by grind) (by grind), nI_in_ (by omega), fin _ ?_⟩, fun c3 => ⟨nI_in_ (by omega), fin _ ?_⟩⟩
      · simp only [zStep, if_pos k1, if_pos c3]
      · simp only [zStep, if_pos k1, if_neg c3]
theorem zE_X9_valueOf (as : List Value) (M : ab_M) (N : ab_N) (k : ab_R) (hT : zt_X9_valueOf as M N k) : ab_cs as ≤ 9 ∧ zr_X9_valueOf k 0 (ab_en as) [] M N := by
  unfold zt_X9_valueOf at hT
  split at hT
  case h_2 => exact hT.elim
  rename_i a th b
  obtain ⟨⟨rfl, rfl, ⟨h0, h1⟩, w, e0, e1, e2, hw, f1, f2, f3, f4, g0, g1, g2, g3⟩, hk⟩ := hT
  refine ⟨Nat.le_of_ble_eq_true rfl, zv_X9_valueOf_0 th ?_⟩
  obtain ⟨j, hj, rfl⟩ := nI_of (Int32.not_lt.mpr h0)
  have hj3 : j < 3 := (nI_ltI hj (by decide)).mp (show nI j < nI 3 from h1)
  rw [nI_clamp hj] at hk
  have hc : (M 3 3).toNatClampNeg = w := by rw [f1, nI_clamp (by omega)]
  simp only [f1, zN_mul w 3 3, zN_mul w 160 160, nI_add]
  have fin : ∀ fr to : Nat, to ≤ 960 → to ≤ fr + 160 → fr ≤ to → zFrom M j = fr → zTo M j = to → zr_X9_valueOf k 49 [some (.ref 3), none, some (.ref 35), none, none, some (.int (nI to)), some (.int (0 : Int32)), some (.int (nI fr)), none] [] M N := by
    intro fr to q1 q2 q3 q4 q5
    refine zL_X9_valueOf M fr to q1 q2 _ (fun M2 hF => hk M2 hF) (to - fr) fr 0 [] M (by omega) (by omega) (zFr_rf _ _) trivial ?_
    unfold zVal
    rw [q4, q5]
  match j, hj3 with
  | 0, _ =>
    refine ⟨fun _ => ⟨nI_in_ (by omega), ?_⟩, fun c => absurd rfl c⟩
    rw [nI_clamp (by omega), show w * 3 + 0 = w * 3 from rfl, f2]
    exact fin (w * 160) e0 (by omega) (by omega) (by omega) (by unfold zFrom; rw [if_pos rfl, hc]) (by unfold zTo; rw [hc, show w * 3 + 0 = w * 3 from rfl, f2, nI_clamp (by omega)])
  | 1, _ =>
    refine ⟨fun c => absurd c (by decide), fun _ => ?_⟩
    rw [show w * 3 + 1 = w * 3 + 1 from rfl, nI_pred]
    refine ⟨nI_in_ (by omega), nI_in_ (by omega), ?_⟩
    rw [nI_clamp (by omega), nI_clamp (by omega), f2, f3]
    exact fin e0 e1 (by omega) (by omega) (by omega) (by unfold zFrom; rw [if_neg (by decide), hc, show w * 3 + 1 - 1 = w * 3 from rfl, f2, nI_clamp (by omega)]) (by unfold zTo; rw [hc, f3, nI_clamp (by omega)])
  | 2, _ =>
    refine ⟨fun c => absurd c (by decide), fun _ => ?_⟩
    rw [show w * 3 + 2 = (w * 3 + 1) + 1 from rfl, nI_pred]
    refine ⟨nI_in_ (by omega), nI_in_ (by omega), ?_⟩
    rw [nI_clamp (by omega), nI_clamp (by omega), f3, show w * 3 + 1 + 1 = w * 3 + 2 from rfl, f4]
    exact fin e1 e2 (by omega) (by omega) (by omega) (by unfold zFrom; rw [if_neg (by decide), hc, show w * 3 + 2 - 1 = w * 3 + 1 from rfl, f3, nI_clamp (by omega)]) (by unfold zTo; rw [hc, f4, nI_clamp (by omega)])
theorem zV_X9_valueOf : ab_recv zw_C vwCl RX9 zt_X9_valueOf := fun as M N k hT => by
  unfold zt_X9_valueOf at hT
  split at hT
  case h_2 => exact hT.elim
  obtain ⟨⟨rfl, rfl, -⟩, -⟩ := hT
  exact ⟨_, _, _, _, _, _, rfl, rfl, rfl⟩
abbrev zR_X9_valueOf : Room := { frames := 1, cells := 0, slots := 0, locals := 22 }
set_option maxRecDepth 20000 in
theorem zM_X9_valueOf (l : Launch) : ab_Met l zw_C vwCl zZ_C yX9_valueOf cX9_valueOf 9 (some .int) zR_X9_valueOf zt_X9_valueOf := ab_ofRun (G := zg_X9_valueOf) (P := zp_X9_valueOf) rfl zo_X9_valueOf (by decide +kernel) zl_cl zl_lamC zf_X9_ok zs_tabOK ab_Cst_nil ab_Sta_nil (List.forall_mem_nil _) (List.forall_mem_cons.mpr ⟨ab_callS zZ_C_ok (zM_X9_truth l) (ab_in 601 (by decide +kernel) rfl) (ab_in 599 (by decide +kernel) rfl) (ab_in 600 (by decide +kernel) rfl) (ab_in 4 (by decide +kernel) rfl) (by unfold ab_yok; decide +kernel) ⟨rfl, rfl⟩ (by decide), List.forall_mem_cons.mpr ⟨ab_callS zZ_C_ok (zM_X9_joined l) (ab_in 604 (by decide +kernel) rfl) (ab_in 602 (by decide +kernel) rfl) (ab_in 603 (by decide +kernel) rfl) (ab_in 4 (by decide +kernel) rfl) (by unfold ab_yok; decide +kernel) ⟨rfl, rfl⟩ (by decide), List.forall_mem_nil _⟩⟩) zE_X9_valueOf
