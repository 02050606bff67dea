/-! image, back of the reference *)
-/
def zImR (M M2 : ab_M) : Prop := zFr [0, 15, 16, 17, 18, 19, 20] M M2 ∧ (∀ j : Nat, ¬ (31 ≤ j ∧ j ≤ 40) → M2 0 j = M 0 j) ∧ (M2 0 31 = 1 ∧ M2 0 32 = M 0 7 ∧ M2 0 33 = M 0 12) ∧ (M2 0 34 = M 0 0 ∧ M2 0 35 = M 0 1 ∧ M2 0 36 = M 0 2 ∧ M2 0 37 = M 0 3 ∧ M2 0 38 = M 0 4) ∧ (M2 0 39 = M 0 5 ∧ M2 0 40 = M 0 24) ∧ (M2 15 = va_cpy (M 1) (M 15) 0 0 12) ∧ (M2 16 = va_cpy (M 2) (M 16) 0 0 8 ∧ M2 17 = va_cpy (M 3) (M 17) 0 0 8 ∧ M2 18 = va_cpy (M 4) (M 18) 0 0 8 ∧ M2 19 = va_cpy (M 5) (M 19) 0 0 8) ∧ M2 20 = va_cpy (M 9) (M 20) 0 0 5
def zt_X12_image : ab_T := ab_lq (α := Unit) (fun _ r _ _ => r = []) (fun _ M N o M2 N2 => N2 = N ∧ o = some (.int (M 0 7)) ∧ zImR M M2)
theorem zt_X12_image_mono : ab_mono zt_X12_image := ab_lq_mono _ _
theorem zV_X12_image : ab_recv zw_M vwCl RX12 zt_X12_image := ab_lq_v
def zp_X12_image : ab_P := [(0, .aload_n 0, 1, [0], []),
  (1, .iconst 1, 2, [], [1]),
  (2, .putfield 381, 5, [], []),
  (5, .aload_n 0, 6, [0], []),
  (6, .aload_n 0, 7, [0], []),
  (7, .getfield 172, 10, [], []),
  (10, .putfield 385, 13, [], []),
  (13, .aload_n 0, 14, [0], []),
  (14, .aload_n 0, 15, [0], []),
  (15, .getfield 179, 18, [], []),
  (18, .putfield 388, 21, [], []),
  (21, .aload_n 0, 22, [0], []),
  (22, .aload_n 0, 23, [0], []),
  (23, .getfield 7, 26, [], []),
  (26, .putfield 391, 29, [], []),
  (29, .aload_n 0, 30, [0], []),
  (30, .aload_n 0, 31, [0], []),
  (31, .getfield 13, 34, [], []),
  (34, .putfield 394, 37, [], []),
  (37, .aload_n 0, 38, [0], []),
  (38, .aload_n 0, 39, [0], []),
  (39, .getfield 190, 42, [], []),
  (42, .putfield 397, 45, [], []),
  (45, .aload_n 0, 46, [0], []),
  (46, .aload_n 0, 47, [0], []),
  (47, .getfield 16, 50, [], []),
  (50, .putfield 400, 53, [], []),
  (53, .aload_n 0, 54, [0], []),
  (54, .aload_n 0, 55, [0], []),
  (55, .getfield 19, 58, [], []),
  (58, .putfield 403, 61, [], []),
  (61, .aload_n 0, 62, [0], []),
  (62, .aload_n 0, 63, [0], []),
  (63, .getfield 22, 66, [], []),
  (66, .putfield 406, 69, [], []),
  (69, .aload_n 0, 70, [0], []),
  (70, .aload_n 0, 71, [0], []),
  (71, .getfield 193, 74, [], []),
  (74, .putfield 409, 77, [], []),
  (77, .iconst 0, 78, [], [0]),
  (78, .istore_n 1, 79, [1], []),
  (79, .iload_n 1, 80, [1], []),
  (80, .bipush 12, 82, [], [12]),
  (82, .if_icmp .ge 21, 85, [103], []),
  (85, .aload_n 0, 86, [0], []),
  (86, .getfield 80, 89, [], []),
  (89, .iload_n 1, 90, [1], []),
  (90, .aload_n 0, 91, [0], []),
  (91, .getfield 25, 94, [], []),
  (94, .iload_n 1, 95, [1], []),
  (95, .iaload, 96, [], []),
  (96, .iastore, 97, [], []),
  (97, .iinc 1 1, 100, [], [1]),
  (100, .goto (-21), 103, [79], []),
  (103, .iconst 0, 104, [], [0]),
  (104, .istore_n 1, 105, [1], []),
  (105, .iload_n 1, 106, [1], []),
  (106, .bipush 8, 108, [], [8]),
  (108, .if_icmp .ge 57, 111, [165], []),
  (111, .aload_n 0, 112, [0], []),
  (112, .getfield 83, 115, [], []),
  (115, .iload_n 1, 116, [1], []),
  (116, .aload_n 0, 117, [0], []),
  (117, .getfield 29, 120, [], []),
  (120, .iload_n 1, 121, [1], []),
  (121, .iaload, 122, [], []),
  (122, .iastore, 123, [], []),
  (123, .aload_n 0, 124, [0], []),
  (124, .getfield 86, 127, [], []),
  (127, .iload_n 1, 128, [1], []),
  (128, .aload_n 0, 129, [0], []),
  (129, .getfield 32, 132, [], []),
  (132, .iload_n 1, 133, [1], []),
  (133, .iaload, 134, [], []),
  (134, .iastore, 135, [], []),
  (135, .aload_n 0, 136, [0], []),
  (136, .getfield 89, 139, [], []),
  (139, .iload_n 1, 140, [1], []),
  (140, .aload_n 0, 141, [0], []),
  (141, .getfield 35, 144, [], []),
  (144, .iload_n 1, 145, [1], []),
  (145, .iaload, 146, [], []),
  (146, .iastore, 147, [], []),
  (147, .aload_n 0, 148, [0], []),
  (148, .getfield 92, 151, [], []),
  (151, .iload_n 1, 152, [1], []),
  (152, .aload_n 0, 153, [0], []),
  (153, .getfield 38, 156, [], []),
  (156, .iload_n 1, 157, [1], []),
  (157, .iaload, 158, [], []),
  (158, .iastore, 159, [], []),
  (159, .iinc 1 1, 162, [], [1]),
  (162, .goto (-57), 165, [105], []),
  (165, .iconst 0, 166, [], [0]),
  (166, .istore_n 1, 167, [1], []),
  (167, .iload_n 1, 168, [1], []),
  (168, .iconst 5, 169, [], [5]),
  (169, .if_icmp .ge 21, 172, [190], []),
  (172, .aload_n 0, 173, [0], []),
  (173, .getfield 95, 176, [], []),
  (176, .iload_n 1, 177, [1], []),
  (177, .aload_n 0, 178, [0], []),
  (178, .getfield 50, 181, [], []),
  (181, .iload_n 1, 182, [1], []),
  (182, .iaload, 183, [], []),
  (183, .iastore, 184, [], []),
  (184, .iinc 1 1, 187, [], [1]),
  (187, .goto (-20), 190, [167], []),
  (190, .aload_n 0, 191, [0], []),
  (191, .getfield 172, 194, [], []),
  (194, .ireturn, 195, [], [])]
theorem zo_X12_image : ab_ok cX12_image zp_X12_image = true := by decide +kernel
def zg_X12_image : ab_G := (zw_M, [], zf_X12, zc_X12, [], [], [])
theorem zm_X12_image : ab_MG zg_X12_image := ab_MGof (List.forall_mem_nil _) (List.forall_mem_nil _)
abbrev zr_X12_image (Q : ab_R) : ab_K := ab_Run zg_X12_image zp_X12_image (some .int) 2 Q
set_option maxRecDepth 20000 in
theorem zv_X12_image_0 {Q : ab_R} {M : ab_M} {N : ab_N}  (h : (narrow .boolean (.int (1 : Int32)) = .int (1 : Int32) ∧ fits .boolean (.int (1 : Int32)) = true) ∧ (let z1 : Nat → Int32 := upd (M 0) 31 (1 : Int32); let z2 : Nat → Int32 := upd (z1) 32 (z1 7); let z3 : Nat → Int32 := upd (z2) 33 (z2 12); let z4 : Nat → Int32 := upd (z3) 34 (z3 0); let z5 : Nat → Int32 := upd (z4) 35 (z4 1); let z6 : Nat → Int32 := upd (z5) 36 (z5 2); let z7 : Nat → Int32 := upd (z6) 37 (z6 3); let z8 : Nat → Int32 := upd (z7) 38 (z7 4); let z9 : Nat → Int32 := upd (z8) 39 (z8 5); let z10 : Nat → Int32 := upd (z9) 40 (z9 24); zr_X12_image Q 79 [some (.ref 0), some (.int (0 : Int32))] [] (ab_u (ab_u (ab_u (ab_u (ab_u (ab_u (ab_u (ab_u (ab_u (ab_u M 0 z1) 0 z2) 0 z3) 0 z4) 0 z5) 0 z6) 0 z7) 0 z8) 0 z9) 0 z10) N)) : zr_X12_image Q 0 [some (.ref 0)] [] M N := ab_Run_s zm_X12_image (sp := [(79, [true, true]), (105, [true, true]), (167, [true, true])]) 113 h
set_option maxRecDepth 20000 in
theorem zv_X12_image_79 {Q : ab_R} {M : ab_M} {N : ab_N} (l1 : Int32) (h : ((12 : Int32) ≤ l1 → zr_X12_image Q 105 [some (.ref 0), some (.int (0 : Int32))] [] M N) ∧ (¬ ((12 : Int32) ≤ l1) → vp_in l1 12 ∧ (vp_in l1 12 ∧ (let z1 : Nat → Int32 := upd (M 15) l1.toNatClampNeg (M 1 l1.toNatClampNeg); zr_X12_image Q 79 [some (.ref 0), some (.int (l1 + (1 : Int32)))] [] (ab_u M 15 z1) N)))) : zr_X12_image Q 79 [some (.ref 0), some (.int l1)] [] M N := ab_Run_s zm_X12_image (sp := [(79, [true, true]), (105, [true, true]), (167, [true, true])]) 113 h
set_option maxRecDepth 20000 in
theorem zv_X12_image_105 {Q : ab_R} {M : ab_M} {N : ab_N} (l1 : Int32) (h : ((8 : Int32) ≤ l1 → zr_X12_image Q 167 [some (.ref 0), some (.int (0 : Int32))] [] M N) ∧ (¬ ((8 : Int32) ≤ l1) → vp_in l1 8 ∧ (vp_in l1 8 ∧ (let z1 : Nat → Int32 := upd (M 16) l1.toNatClampNeg (M 2 l1.toNatClampNeg); vp_in l1 8 ∧ (vp_in l1 8 ∧ (let z2 : Nat → Int32 := upd (M 17) l1.toNatClampNeg (M 3 l1.toNatClampNeg); vp_in l1 8 ∧ (vp_in l1 8 ∧ (let z3 : Nat → Int32 := upd (M 18) l1.toNatClampNeg (M 4 l1.toNatClampNeg); vp_in l1 8 ∧ (vp_in l1 8 ∧ (let z4 : Nat → Int32 := upd (M 19) l1.toNatClampNeg (M 5 l1.toNatClampNeg); zr_X12_image Q 105 [some (.ref 0), some (.int (l1 + (1 : Int32)))] [] (ab_u (ab_u (ab_u (ab_u M 16 z1) 17 z2) 18 z3) 19 z4) N)))))))))) : zr_X12_image Q 105 [some (.ref 0), some (.int l1)] [] M N := ab_Run_s zm_X12_image (sp := [(79, [true, true]), (105, [true, true]), (167, [true, true])]) 113 h
set_option maxRecDepth 20000 in
theorem zv_X12_image_167 {Q : ab_R} {M : ab_M} {N : ab_N} (l1 : Int32) (h : ((5 : Int32) ≤ l1 → Q (some (.int (M 0 7))) M N) ∧ (¬ ((5 : Int32) ≤ l1) → vp_in l1 5 ∧ (vp_in l1 5 ∧ (let z1 : Nat → Int32 := upd (M 20) l1.toNatClampNeg (M 9 l1.toNatClampNeg); zr_X12_image Q 167 [some (.ref 0), some (.int (l1 + (1 : Int32)))] [] (ab_u M 20 z1) N)))) : zr_X12_image Q 167 [some (.ref 0), some (.int l1)] [] M N := ab_Run_s zm_X12_image (sp := [(79, [true, true]), (105, [true, true]), (167, [true, true])]) 113 h
theorem zL_X12_image_a {Q : ab_R} {N : ab_N} (M0 : ab_M) (hk : ∀ M, zFr [15] M0 M → M 15 = va_cpy (M0 1) (M0 15) 0 0 12 → zr_X12_image Q 105 [some (.ref 0), some (.int 0)] [] M N) : ∀ (r i : Nat) (M : ab_M), i + r = 12 → zFr [15] M0 M → M 15 = va_cpy (M0 1) (M0 15) 0 0 i → zr_X12_image Q 79 [some (.ref 0), some (.int (nI i))] [] M N := by
  intro r
  induction r with
  | zero =>
    intro i M hi hF h
    have e : i = 12 := by omega
    subst e
    exact zv_X12_image_79 _ ⟨fun _ => hk M hF h, fun z => absurd (nI_le (Nat.le_refl _) (by decide)) z⟩
  | succ r ih =>
    intro i M hi hF h
    refine zv_X12_image_79 _ ⟨fun z => absurd z (nI_ge (a := i) (b := 12) (by omega) (by decide)), fun _ => ?_⟩
    rw [nI_clamp (show i < 2 ^ 31 by omega), nI_1, hF 1 (by decide), h, zCpy_s]
    have hin : vp_in (nI i) 12 := nI_in_ (by omega)
    refine ⟨hin, hin, ?_⟩
    intro z1
    refine ih (i + 1) _ (by omega) (fun c hc => ?_) (ab_u_eq _ _ _)
    rw [ab_u_ne _ _ (fun z => hc (by rw [z]; decide))]
    exact hF c hc
abbrev zIm4 (M0 M : ab_M) (i : Nat) : Prop := M 16 = va_cpy (M0 2) (M0 16) 0 0 i ∧ M 17 = va_cpy (M0 3) (M0 17) 0 0 i ∧ M 18 = va_cpy (M0 4) (M0 18) 0 0 i ∧ M 19 = va_cpy (M0 5) (M0 19) 0 0 i
theorem zL_X12_image_b {Q : ab_R} {N : ab_N} (M0 : ab_M) (hk : ∀ M, zFr [16, 17, 18, 19] M0 M → zIm4 M0 M 8 → zr_X12_image Q 167 [some (.ref 0), some (.int 0)] [] M N) : ∀ (r i : Nat) (M : ab_M), i + r = 8 → zFr [16, 17, 18, 19] M0 M → zIm4 M0 M i → zr_X12_image Q 105 [some (.ref 0), some (.int (nI i))] [] M N := by
  intro r
  induction r with
  | zero =>
    intro i M hi hF h
    have e : i = 8 := by omega
    subst e
    exact zv_X12_image_105 _ ⟨fun _ => hk M hF h, fun z => absurd (nI_le (Nat.le_refl _) (by decide)) z⟩
  | succ r ih =>
    intro i M hi hF h
    obtain ⟨a1, a2, a3, a4⟩ := h
    refine zv_X12_image_105 _ ⟨fun z => absurd z (nI_ge (a := i) (b := 8) (by omega) (by decide)), fun _ => ?_⟩
    rw [nI_clamp (show i < 2 ^ 31 by omega), nI_1, hF 2 (by decide), hF 3 (by decide), hF 4 (by decide), hF 5 (by decide), a1, a2, a3, a4, zCpy_s, zCpy_s, zCpy_s, zCpy_s]
    have hin : vp_in (nI i) 8 := nI_in_ (by omega)
    refine ⟨hin, hin, ?_⟩
    intro z1
    refine ⟨hin, hin, ?_⟩
    intro z2
    refine ⟨hin, hin, ?_⟩
    intro z3
    refine ⟨hin, hin, ?_⟩
    intro z4
    refine ih (i + 1) _ (by omega) (fun c hc => ?_) ⟨?_, ?_, ?_, ?_⟩
    · have hc2 := hc
      simp only [List.mem_cons, List.not_mem_nil, or_false, not_or] at hc2
      rw [ab_u_ne _ _ hc2.2.2.2, ab_u_ne _ _ hc2.2.2.1, ab_u_ne _ _ hc2.2.1, ab_u_ne _ _ hc2.1]
      exact hF c hc
    · rw [ab_u_ne _ _ (by decide), ab_u_ne _ _ (by decide), ab_u_ne _ _ (by decide), ab_u_eq]
    · rw [ab_u_ne _ _ (by decide), ab_u_ne _ _ (by decide), ab_u_eq]
    · rw [ab_u_ne _ _ (by decide), ab_u_eq]
    · rw [ab_u_eq]
theorem zL_X12_image_c {Q : ab_R} {N : ab_N} (M0 : ab_M) (hk : ∀ M, zFr [20] M0 M → M 20 = va_cpy (M0 9) (M0 20) 0 0 5 → Q (some (.int (M 0 7))) M N) : ∀ (r i : Nat) (M : ab_M), i + r = 5 → zFr [20] M0 M → M 20 = va_cpy (M0 9) (M0 20) 0 0 i → zr_X12_image Q 167 [some (.ref 0), some (.int (nI i))] [] M N := by
  intro r
  induction r with
  | zero =>
    intro i M hi hF h
    have e : i = 5 := by omega
    subst e
    exact zv_X12_image_167 _ ⟨fun _ => hk M hF h, fun z => absurd (nI_le (Nat.le_refl _) (by decide)) z⟩
  | succ r ih =>
    intro i M hi hF h
    refine zv_X12_image_167 _ ⟨fun z => absurd z (nI_ge (a := i) (b := 5) (by omega) (by decide)), fun _ => ?_⟩
    rw [nI_clamp (show i < 2 ^ 31 by omega), nI_1, hF 9 (by decide), h, zCpy_s]
    have hin : vp_in (nI i) 5 := nI_in_ (by omega)
    refine ⟨hin, hin, ?_⟩
    intro z1
    refine ih (i + 1) _ (by omega) (fun c hc => ?_) (ab_u_eq _ _ _)
    rw [ab_u_ne _ _ (fun z => hc (by rw [z]; decide))]
    exact hF c hc
theorem zE_X12_image (as : List Value) (M : ab_M) (N : ab_N) (k : ab_R) (hT : zt_X12_image as M N k) : ab_cs as ≤ 2 ∧ zr_X12_image k 0 (ab_en as) [] M N := by
  obtain ⟨x, r, rfl, rfl, hk⟩ := hT
  have go : ∀ M2 : ab_M, zImR M M2 → k (some (.int (M2 0 7))) M2 N := fun M2 h => by
    have e : M2 0 7 = M 0 7 := h.2.1 7 (by omega)
    rw [e]
    exact hk _ _ _ ⟨rfl, rfl, h⟩
  refine ⟨Nat.le_of_ble_eq_true rfl, zv_X12_image_0 ⟨by decide, ?_⟩⟩
  intro z1 z2 z3 z4 z5 z6 z7 z8 z9 z10
  simp only [ab_u_u]
  refine zL_X12_image_a (ab_u M 0 z10) (fun Ma fa ha => ?_) 12 0 _ rfl (fun _ _ => rfl) (zCpy_0 _ _).symm
  refine zL_X12_image_b Ma (fun Mb fb hb => ?_) 8 0 _ rfl (fun _ _ => rfl) ⟨(zCpy_0 _ _).symm, (zCpy_0 _ _).symm, (zCpy_0 _ _).symm, (zCpy_0 _ _).symm⟩
  refine zL_X12_image_c Mb (fun Mc fc hc => ?_) 5 0 _ rfl (fun _ _ => rfl) (zCpy_0 _ _).symm
  have n0 : ∀ c, c ≠ 0 → ab_u M 0 z10 c = M c := fun c h => ab_u_ne _ _ h
  have a1 : ∀ c, c ≠ 0 → c ≠ 15 → Ma c = M c := fun c h h2 => by
    rw [fa c (by simpa using h2), n0 c h]
  have a2 : ∀ c, c ≠ 0 → c ≠ 15 → ¬ (16 ≤ c ∧ c ≤ 19) → Mb c = M c := fun c h h2 h3 => by
    rw [fb c (by simp; omega), a1 c h h2]
  have e0 : Mc 0 = z10 := by
    rw [fc 0 (by decide), fb 0 (by decide), fa 0 (by decide), ab_u_eq]
  obtain ⟨b1, b2, b3, b4⟩ := hb
  refine go Mc ⟨fun c h => ?_, fun j hj => ?_, ⟨?_, ?_, ?_⟩, ⟨?_, ?_, ?_, ?_, ?_⟩, ⟨?_, ?_⟩, ?_, ⟨?_, ?_, ?_, ?_⟩, ?_⟩
  · simp only [List.mem_cons, List.not_mem_nil, or_false, not_or] at h
    obtain ⟨h0, h1, h2, h3, h4, h5, h6⟩ := h
    rw [fc c (by simpa using h6), a2 c h0 h1 (by omega)]
  · rw [e0]
    simp only [z10, z9, z8, z7, z6, z5, z4, z3, z2, z1, upd]
    rw [if_neg (by omega), if_neg (by omega), if_neg (by omega), if_neg (by omega), if_neg (by omega), if_neg (by omega), if_neg (by omega), if_neg (by omega), if_neg (by omega), if_neg (by omega)]
  · rw [e0]; simp [z10, z9, z8, z7, z6, z5, z4, z3, z2, z1, upd]
  · rw [e0]; simp [z10, z9, z8, z7, z6, z5, z4, z3, z2, z1, upd]
  · rw [e0]; simp [z10, z9, z8, z7, z6, z5, z4, z3, z2, z1, upd]
  · rw [e0]; simp [z10, z9, z8, z7, z6, z5, z4, z3, z2, z1, upd]
  · rw [e0]; simp [z10, z9, z8, z7, z6, z5, z4, z3, z2, z1, upd]
  · rw [e0]; simp [z10, z9, z8, z7, z6, z5, z4, z3, z2, z1, upd]
  · rw [e0]; simp [z10, z9, z8, z7, z6, z5, z4, z3, z2, z1, upd]
  · rw [e0]; simp [z10, z9, z8, z7, z6, z5, z4, z3, z2, z1, upd]
  · rw [e0]; simp [z10, z9, z8, z7, z6, z5, z4, z3, z2, z1, upd]
  · rw [e0]; simp [z10, z9, z8, z7, z6, z5, z4, z3, z2, z1, upd]
  · rw [fc 15 (by decide), fb 15 (by decide), ha, n0 1 (by decide), n0 15 (by decide)]
  · rw [fc 16 (by decide), b1, a1 2 (by decide) (by decide), a1 16 (by decide) (by decide)]
  · rw [fc 17 (by decide), b2, a1 3 (by decide) (by decide), a1 17 (by decide) (by decide)]
  · rw [fc 18 (by decide), b3, a1 4 (by decide) (by decide), a1 18 (by decide) (by decide)]
  · rw [fc 19 (by decide), b4, a1 5 (by decide) (by decide), a1 19 (by decide) (by decide)]
  · rw [hc, a2 9 (by decide) (by decide) (by omega), a2 20 (by decide) (by decide) (by omega)]
abbrev zR_X12_image : Room := { frames := 0, cells := 0, slots := 0, locals := 0 }
set_option maxRecDepth 20000 in
theorem zM_X12_image (l : Launch) : ab_Met l zw_M vwCl zZ_M yX12_image cX12_image 2 (some .int) zR_X12_image zt_X12_image := ab_ofRun (G := zg_X12_image) (P := zp_X12_image) rfl zo_X12_image (by decide +kernel) zl_cl zl_lamM zf_X12_ok ab_Tab_nil zc_X12_ok ab_Sta_nil (List.forall_mem_nil _) (List.forall_mem_nil _) zE_X12_image
def zBkR (M M2 : ab_M) (np nm : Nat) : Prop := zFr [0, 1, 2, 3, 4, 5, 9] M M2 ∧ (∀ j : Nat, 5 < j → j ≠ 24 → M2 0 j = M 0 j) ∧ (M2 0 0 = M 0 34 ∧ M2 0 1 = M 0 35 ∧ M2 0 2 = M 0 36 ∧ M2 0 3 = M 0 37 ∧ M2 0 4 = M 0 38) ∧ (M2 0 5 = M 0 39 ∧ M2 0 24 = M 0 40) ∧ M2 1 = va_cpy (M 15) (M 1) 0 0 12 ∧ (M2 2 = va_cpy (M 16) (M 2) 0 0 np ∧ M2 3 = va_cpy (M 17) (M 3) 0 0 np ∧ M2 4 = va_cpy (M 18) (M 4) 0 0 np ∧ M2 5 = va_cpy (M 19) (M 5) 0 0 np) ∧ M2 9 = va_cpy (M 20) (M 9) 0 0 nm
def zt_X12_back : ab_T := ab_lq (α := Nat × Nat) (fun x r M _ => r = [] ∧ x.1 ≤ 8 ∧ x.2 ≤ 5 ∧ (¬ M 0 31 = 0 → M 0 32 = nI x.1 ∧ M 0 33 = nI x.2))
  (fun x M N o M2 N2 => N2 = N ∧ ((M 0 31 = 0 ∧ M2 = M ∧ o = some (.int (-3))) ∨ (¬ M 0 31 = 0 ∧ zBkR M M2 x.1 x.2 ∧ o = some (.int (M 0 7)))))
theorem zt_X12_back_mono : ab_mono zt_X12_back := ab_lq_mono _ _
theorem zV_X12_back : ab_recv zw_M vwCl RX12 zt_X12_back := ab_lq_v
def zp_X12_back : ab_P := [(0, .aload_n 0, 1, [0], []),
  (1, .getfield 381, 4, [], []),
  (4, .ifCond .ne 6, 7, [10], []),
  (7, .bipush (-3), 9, [], [(-3)]),
  (9, .ireturn, 10, [], []),
  (10, .aload_n 0, 11, [0], []),
  (11, .aload_n 0, 12, [0], []),
  (12, .getfield 391, 15, [], []),
  (15, .putfield 7, 18, [], []),
  (18, .aload_n 0, 19, [0], []),
  (19, .aload_n 0, 20, [0], []),
  (20, .getfield 394, 23, [], []),
  (23, .putfield 13, 26, [], []),
  (26, .aload_n 0, 27, [0], []),
  (27, .aload_n 0, 28, [0], []),
  (28, .getfield 397, 31, [], []),
  (31, .putfield 190, 34, [], []),
  (34, .aload_n 0, 35, [0], []),
  (35, .aload_n 0, 36, [0], []),
  (36, .getfield 400, 39, [], []),
  (39, .putfield 16, 42, [], []),
  (42, .aload_n 0, 43, [0], []),
  (43, .aload_n 0, 44, [0], []),
  (44, .getfield 403, 47, [], []),
  (47, .putfield 19, 50, [], []),
  (50, .aload_n 0, 51, [0], []),
  (51, .aload_n 0, 52, [0], []),
  (52, .getfield 406, 55, [], []),
  (55, .putfield 22, 58, [], []),
  (58, .aload_n 0, 59, [0], []),
  (59, .aload_n 0, 60, [0], []),
  (60, .getfield 409, 63, [], []),
  (63, .putfield 193, 66, [], []),
  (66, .iconst 0, 67, [], [0]),
  (67, .istore_n 1, 68, [1], []),
  (68, .iload_n 1, 69, [1], []),
  (69, .bipush 12, 71, [], [12]),
  (71, .if_icmp .ge 21, 74, [92], []),
  (74, .aload_n 0, 75, [0], []),
  (75, .getfield 25, 78, [], []),
  (78, .iload_n 1, 79, [1], []),
  (79, .aload_n 0, 80, [0], []),
  (80, .getfield 80, 83, [], []),
  (83, .iload_n 1, 84, [1], []),
  (84, .iaload, 85, [], []),
  (85, .iastore, 86, [], []),
  (86, .iinc 1 1, 89, [], [1]),
  (89, .goto (-21), 92, [68], []),
  (92, .iconst 0, 93, [], [0]),
  (93, .istore_n 1, 94, [1], []),
  (94, .iload_n 1, 95, [1], []),
  (95, .aload_n 0, 96, [0], []),
  (96, .getfield 385, 99, [], []),
  (99, .if_icmp .ge 57, 102, [156], []),
  (102, .aload_n 0, 103, [0], []),
  (103, .getfield 29, 106, [], []),
  (106, .iload_n 1, 107, [1], []),
  (107, .aload_n 0, 108, [0], []),
  (108, .getfield 83, 111, [], []),
  (111, .iload_n 1, 112, [1], []),
  (112, .iaload, 113, [], []),
  (113, .iastore, 114, [], []),
  (114, .aload_n 0, 115, [0], []),
  (115, .getfield 32, 118, [], []),
  (118, .iload_n 1, 119, [1], []),
  (119, .aload_n 0, 120, [0], []),
  (120, .getfield 86, 123, [], []),
  (123, .iload_n 1, 124, [1], []),
  (124, .iaload, 125, [], []),
  (125, .iastore, 126, [], []),
  (126, .aload_n 0, 127, [0], []),
  (127, .getfield 35, 130, [], []),
  (130, .iload_n 1, 131, [1], []),
  (131, .aload_n 0, 132, [0], []),
  (132, .getfield 89, 135, [], []),
  (135, .iload_n 1, 136, [1], []),
  (136, .iaload, 137, [], []),
  (137, .iastore, 138, [], []),
  (138, .aload_n 0, 139, [0], []),
  (139, .getfield 38, 142, [], []),
  (142, .iload_n 1, 143, [1], []),
  (143, .aload_n 0, 144, [0], []),
  (144, .getfield 92, 147, [], []),
  (147, .iload_n 1, 148, [1], []),
  (148, .iaload, 149, [], []),
  (149, .iastore, 150, [], []),
  (150, .iinc 1 1, 153, [], [1]),
  (153, .goto (-59), 156, [94], []),
  (156, .iconst 0, 157, [], [0]),
  (157, .istore_n 1, 158, [1], []),
  (158, .iload_n 1, 159, [1], []),
  (159, .aload_n 0, 160, [0], []),
  (160, .getfield 388, 163, [], []),
  (163, .if_icmp .ge 21, 166, [184], []),
  (166, .aload_n 0, 167, [0], []),
  (167, .getfield 50, 170, [], []),
  (170, .iload_n 1, 171, [1], []),
  (171, .aload_n 0, 172, [0], []),
  (172, .getfield 95, 175, [], []),
  (175, .iload_n 1, 176, [1], []),
  (176, .iaload, 177, [], []),
  (177, .iastore, 178, [], []),
  (178, .iinc 1 1, 181, [], [1]),
  (181, .goto (-23), 184, [158], []),
  (184, .aload_n 0, 185, [0], []),
  (185, .getfield 172, 188, [], []),
  (188, .ireturn, 189, [], [])]
theorem zo_X12_back : ab_ok cX12_back zp_X12_back = true := by decide +kernel
def zg_X12_back : ab_G := (zw_M, [], zf_X12, zc_X12, [], [], [])
theorem zm_X12_back : ab_MG zg_X12_back := ab_MGof (List.forall_mem_nil _) (List.forall_mem_nil _)
abbrev zr_X12_back (Q : ab_R) : ab_K := ab_Run zg_X12_back zp_X12_back (some .int) 2 Q
set_option maxRecDepth 20000 in
theorem zv_X12_back_0 {Q : ab_R} {M : ab_M} {N : ab_N}  (h : ((M 0 31) = 0 → Q (some (.int (-3 : Int32))) M N) ∧ (¬ ((M 0 31) = 0) → let z1 : Nat → Int32 := upd (M 0) 0 (M 0 34); let z2 : Nat → Int32 := upd (z1) 1 (z1 35); let z3 : Nat → Int32 := upd (z2) 2 (z2 36); let z4 : Nat → Int32 := upd (z3) 3 (z3 37); let z5 : Nat → Int32 := upd (z4) 4 (z4 38); let z6 : Nat → Int32 := upd (z5) 5 (z5 39); let z7 : Nat → Int32 := upd (z6) 24 (z6 40); zr_X12_back Q 68 [some (.ref 0), some (.int (0 : Int32))] [] (ab_u (ab_u (ab_u (ab_u (ab_u (ab_u (ab_u M 0 z1) 0 z2) 0 z3) 0 z4) 0 z5) 0 z6) 0 z7) N)) : zr_X12_back Q 0 [some (.ref 0)] [] M N := ab_Run_s zm_X12_back (sp := [(68, [true, true]), (94, [true, true]), (158, [true, true])]) 109 h
set_option maxRecDepth 20000 in
theorem zv_X12_back_68 {Q : ab_R} {M : ab_M} {N : ab_N} (l1 : Int32) (h : ((12 : Int32) ≤ l1 → zr_X12_back Q 94 [some (.ref 0), some (.int (0 : Int32))] [] M N) ∧ (¬ ((12 : Int32) ≤ l1) → vp_in l1 12 ∧ (vp_in l1 12 ∧ (let z1 : Nat → Int32 := upd (M 1) l1.toNatClampNeg (M 15 l1.toNatClampNeg); zr_X12_back Q 68 [some (.ref 0), some (.int (l1 + (1 : Int32)))] [] (ab_u M 1 z1) N)))) : zr_X12_back Q 68 [some (.ref 0), some (.int l1)] [] M N := ab_Run_s zm_X12_back (sp := [(68, [true, true]), (94, [true, true]), (158, [true, true])]) 109 h
set_option maxRecDepth 20000 in
theorem zv_X12_back_94 {Q : ab_R} {M : ab_M} {N : ab_N} (l1 : Int32) (h : ((M 0 32) ≤ l1 → zr_X12_back Q 158 [some (.ref 0), some (.int (0 : Int32))] [] M N) ∧ (¬ ((M 0 32) ≤ l1) → vp_in l1 8 ∧ (vp_in l1 8 ∧ (let z1 : Nat → Int32 := upd (M 2) l1.toNatClampNeg (M 16 l1.toNatClampNeg); vp_in l1 8 ∧ (vp_in l1 8 ∧ (let z2 : Nat → Int32 := upd (M 3) l1.toNatClampNeg (M 17 l1.toNatClampNeg); vp_in l1 8 ∧ (vp_in l1 8 ∧ (let z3 : Nat → Int32 := upd (M 4) l1.toNatClampNeg (M 18 l1.toNatClampNeg); vp_in l1 8 ∧ (vp_in l1 8 ∧ (let z4 : Nat → Int32 := upd (M 5) l1.toNatClampNeg (M 19 l1.toNatClampNeg); zr_X12_back Q 94 [some (.ref 0), some (.int (l1 + (1 : Int32)))] [] (ab_u (ab_u (ab_u (ab_u M 2 z1) 3 z2) 4 z3) 5 z4) N)))))))))) : zr_X12_back Q 94 [some (.ref 0), some (.int l1)] [] M N := ab_Run_s zm_X12_back (sp := [(68, [true, true]), (94, [true, true]), (158, [true, true])]) 109 h
set_option maxRecDepth 20000 in
theorem zv_X12_back_158 {Q : ab_R} {M : ab_M} {N : ab_N} (l1 : Int32) (h : ((M 0 33) ≤ l1 → Q (some (.int (M 0 7))) M N) ∧ (¬ ((M 0 33) ≤ l1) → vp_in l1 5 ∧ (vp_in l1 5 ∧ (let z1 : Nat → Int32 := upd (M 9) l1.toNatClampNeg (M 20 l1.toNatClampNeg); zr_X12_back Q 158 [some (.ref 0), some (.int (l1 + (1 : Int32)))] [] (ab_u M 9 z1) N)))) : zr_X12_back Q 158 [some (.ref 0), some (.int l1)] [] M N := ab_Run_s zm_X12_back (sp := [(68, [true, true]), (94, [true, true]), (158, [true, true])]) 109 h
theorem zL_X12_back_a {Q : ab_R} {N : ab_N} (M0 : ab_M) (hk : ∀ M, zFr [1] M0 M → M 1 = va_cpy (M0 15) (M0 1) 0 0 12 → zr_X12_back Q 94 [some (.ref 0), some (.int 0)] [] M N) : ∀ (r i : Nat) (M : ab_M), i + r = 12 → zFr [1] M0 M → M 1 = va_cpy (M0 15) (M0 1) 0 0 i → zr_X12_back Q 68 [some (.ref 0), some (.int (nI i))] [] M N := by
  intro r
  induction r with
  | zero =>
    intro i M hi hF h
    have e : i = 12 := by omega
    subst e
    exact zv_X12_back_68 _ ⟨fun _ => hk M hF h, fun z => absurd (nI_le (Nat.le_refl _) (by decide)) z⟩
  | succ r ih =>
    intro i M hi hF h
    refine zv_X12_back_68 _ ⟨fun z => absurd z (nI_ge (a := i) (b := 12) (by omega) (by decide)), fun _ => ?_⟩
    rw [nI_clamp (show i < 2 ^ 31 by omega), nI_1, hF 15 (by decide), h, zCpy_s]
    have hin : vp_in (nI i) 12 := nI_in_ (by omega)
    refine ⟨hin, hin, ?_⟩
    intro z1
    refine ih (i + 1) _ (by omega) (fun c hc => ?_) (ab_u_eq _ _ _)
    rw [ab_u_ne _ _ (fun z => hc (by rw [z]; decide))]
    exact hF c hc
abbrev zBk4 (M0 M : ab_M) (i : Nat) : Prop := M 2 = va_cpy (M0 16) (M0 2) 0 0 i ∧ M 3 = va_cpy (M0 17) (M0 3) 0 0 i ∧ M 4 = va_cpy (M0 18) (M0 4) 0 0 i ∧ M 5 = va_cpy (M0 19) (M0 5) 0 0 i
theorem zL_X12_back_b {Q : ab_R} {N : ab_N} {np : Nat} (hp : np ≤ 8) (M0 : ab_M) (h32 : M0 0 32 = nI np) (hk : ∀ M, zFr [2, 3, 4, 5] M0 M → zBk4 M0 M np → zr_X12_back Q 158 [some (.ref 0), some (.int 0)] [] M N) : ∀ (r i : Nat) (M : ab_M), i + r = np → zFr [2, 3, 4, 5] M0 M → zBk4 M0 M i → zr_X12_back Q 94 [some (.ref 0), some (.int (nI i))] [] M N := by
  intro r
  induction r with
  | zero =>
    intro i M hi hF h
    have e : i = np := by omega
    subst e
    refine zv_X12_back_94 _ ?_
    rw [hF 0 (by decide), h32]
    exact ⟨fun _ => hk M hF h, fun z => absurd (nI_le (Nat.le_refl _) (by omega)) z⟩
  | succ r ih =>
    intro i M hi hF h
    obtain ⟨a1, a2, a3, a4⟩ := h
    refine zv_X12_back_94 _ ?_
    rw [hF 0 (by decide), h32]
    refine ⟨fun z => absurd z (nI_ge (a := i) (b := np) (by omega) (by omega)), fun _ => ?_⟩
    rw [nI_clamp (show i < 2 ^ 31 by omega), nI_1, hF 16 (by decide), hF 17 (by decide), hF 18 (by decide), hF 19 (by decide), a1, a2, a3, a4, zCpy_s, zCpy_s, zCpy_s, zCpy_s]
    have hin : vp_in (nI i) 8 := nI_in_ (by omega)
    refine ⟨hin, hin, ?_⟩
    intro z1
    refine ⟨hin, hin, ?_⟩
    intro z2
    refine ⟨hin, hin, ?_⟩
    intro z3
    refine ⟨hin, hin, ?_⟩
    intro z4
    refine ih (i + 1) _ (by omega) (fun c hc => ?_) ⟨?_, ?_, ?_, ?_⟩
    · have hc2 := hc
      simp only [List.mem_cons, List.not_mem_nil, or_false, not_or] at hc2
      rw [ab_u_ne _ _ hc2.2.2.2, ab_u_ne _ _ hc2.2.2.1, ab_u_ne _ _ hc2.2.1, ab_u_ne _ _ hc2.1]
      exact hF c hc
    · rw [ab_u_ne _ _ (by decide), ab_u_ne _ _ (by decide), ab_u_ne _ _ (by decide), ab_u_eq]
    · rw [ab_u_ne _ _ (by decide), ab_u_ne _ _ (by decide), ab_u_eq]
    · rw [ab_u_ne _ _ (by decide), ab_u_eq]
    · rw [ab_u_eq]
theorem zL_X12_back_c {Q : ab_R} {N : ab_N} {nm : Nat} (hm : nm ≤ 5) (M0 : ab_M) (h33 : M0 0 33 = nI nm) (hk : ∀ M, zFr [9] M0 M → M 9 = va_cpy (M0 20) (M0 9) 0 0 nm → Q (some (.int (M 0 7))) M N) : ∀ (r i : Nat) (M : ab_M), i + r = nm → zFr [9] M0 M → M 9 = va_cpy (M0 20) (M0 9) 0 0 i → zr_X12_back Q 158 [some (.ref 0), some (.int (nI i))] [] M N := by
  intro r
  induction r with
  | zero =>
    intro i M hi hF h
    have e : i = nm := by omega
    subst e
    refine zv_X12_back_158 _ ?_
    have e33 : M 0 33 = nI i := by rw [hF 0 (by decide), h33]
    rw [e33]
    exact ⟨fun _ => hk M hF h, fun z => absurd (nI_le (Nat.le_refl _) (by omega)) z⟩
  | succ r ih =>
    intro i M hi hF h
    refine zv_X12_back_158 _ ?_
    have e33 : M 0 33 = nI nm := by rw [hF 0 (by decide), h33]
    rw [e33]
    refine ⟨fun z => absurd z (nI_ge (a := i) (b := nm) (by omega) (by omega)), fun _ => ?_⟩
    rw [nI_clamp (show i < 2 ^ 31 by omega), nI_1, hF 20 (by decide), h, zCpy_s]
    have hin : vp_in (nI i) 5 := nI_in_ (by omega)
    refine ⟨hin, hin, ?_⟩
    intro z1
    refine ih (i + 1) _ (by omega) (fun c hc => ?_) (ab_u_eq _ _ _)
    rw [ab_u_ne _ _ (fun z => hc (by rw [z]; decide))]
    exact hF c hc
theorem zE_X12_back (as : List Value) (M : ab_M) (N : ab_N) (k : ab_R) (hT : zt_X12_back as M N k) : ab_cs as ≤ 2 ∧ zr_X12_back k 0 (ab_en as) [] M N := by
  obtain ⟨⟨np, nm⟩, r, rfl, ⟨rfl, p8, m5, hpm⟩, hk⟩ := hT
  dsimp only at p8 m5 hpm hk ⊢
  refine ⟨Nat.le_of_ble_eq_true rfl, zv_X12_back_0 ⟨fun c => hk _ _ _ ⟨rfl, Or.inl ⟨c, rfl, rfl⟩⟩, fun c => ?_⟩⟩
  obtain ⟨e32, e33⟩ := hpm c
  have go : ∀ M2 : ab_M, zBkR M M2 np nm → k (some (.int (M2 0 7))) M2 N := fun M2 h => by
    have e : M2 0 7 = M 0 7 := h.2.1 7 (by omega) (by omega)
    rw [e]
    exact hk _ _ _ ⟨rfl, Or.inr ⟨c, h, rfl⟩⟩
  intro z1 z2 z3 z4 z5 z6 z7
  simp only [ab_u_u]
  have g32 : z7 32 = nI np := by rw [← e32]; simp [z7, z6, z5, z4, z3, z2, z1, upd]
  have g33 : z7 33 = nI nm := by rw [← e33]; simp [z7, z6, z5, z4, z3, z2, z1, upd]
  refine zL_X12_back_a (ab_u M 0 z7) (fun Ma fa ha => ?_) 12 0 _ rfl (fun _ _ => rfl) (zCpy_0 _ _).symm
  have a0 : Ma 0 = z7 := by rw [fa 0 (by decide), ab_u_eq]
  refine zL_X12_back_b p8 Ma (by rw [a0, g32]) (fun Mb fb hb => ?_) np 0 _ (by omega) (fun _ _ => rfl) ⟨(zCpy_0 _ _).symm, (zCpy_0 _ _).symm, (zCpy_0 _ _).symm, (zCpy_0 _ _).symm⟩
  refine zL_X12_back_c m5 Mb (by rw [fb 0 (by decide), a0, g33]) (fun Mc fc hc => ?_) nm 0 _ (by omega) (fun _ _ => rfl) (zCpy_0 _ _).symm
  have n0 : ∀ c, c ≠ 0 → ab_u M 0 z7 c = M c := fun c h => ab_u_ne _ _ h
  have a1 : ∀ c, c ≠ 0 → c ≠ 1 → Ma c = M c := fun c h h2 => by
    rw [fa c (by simpa using h2), n0 c h]
  have a2 : ∀ c, c ≠ 0 → c ≠ 1 → ¬ (2 ≤ c ∧ c ≤ 5) → Mb c = M c := fun c h h2 h3 => by
    rw [fb c (by simp; omega), a1 c h h2]
  have e0 : Mc 0 = z7 := by
    rw [fc 0 (by decide), fb 0 (by decide), a0]
  obtain ⟨b1, b2, b3, b4⟩ := hb
  refine go Mc ⟨fun c h => ?_, fun j hj hj2 => ?_, ⟨?_, ?_, ?_, ?_, ?_⟩, ⟨?_, ?_⟩, ?_, ⟨?_, ?_, ?_, ?_⟩, ?_⟩
  · simp only [List.mem_cons, List.not_mem_nil, or_false, not_or] at h
    obtain ⟨h0, h1, h2, h3, h4, h5, h6⟩ := h
    rw [fc c (by simpa using h6), a2 c h0 h1 (by omega)]
  · rw [e0]
    simp only [z7, z6, z5, z4, z3, z2, z1, upd]
    rw [if_neg hj2, if_neg (by omega), if_neg (by omega), if_neg (by omega), if_neg (by omega), if_neg (by omega), if_neg (by omega)]
  · rw [e0]; simp [z7, z6, z5, z4, z3, z2, z1, upd]
  · rw [e0]; simp [z7, z6, z5, z4, z3, z2, z1, upd]
  · rw [e0]; simp [z7, z6, z5, z4, z3, z2, z1, upd]
  · rw [e0]; simp [z7, z6, z5, z4, z3, z2, z1, upd]
  · rw [e0]; simp [z7, z6, z5, z4, z3, z2, z1, upd]
  · rw [e0]; simp [z7, z6, z5, z4, z3, z2, z1, upd]
  · rw [e0]; simp [z7, z6, z5, z4, z3, z2, z1, upd]
  · rw [fc 1 (by decide), fb 1 (by decide), ha, n0 15 (by decide), n0 1 (by decide)]
  · rw [fc 2 (by decide), b1, a1 16 (by decide) (by decide), a1 2 (by decide) (by decide)]
  · rw [fc 3 (by decide), b2, a1 17 (by decide) (by decide), a1 3 (by decide) (by decide)]
  · rw [fc 4 (by decide), b3, a1 18 (by decide) (by decide), a1 4 (by decide) (by decide)]
  · rw [fc 5 (by decide), b4, a1 19 (by decide) (by decide), a1 5 (by decide) (by decide)]
  · rw [hc, a2 20 (by decide) (by decide) (by omega), a2 9 (by decide) (by decide) (by omega)]
abbrev zR_X12_back : Room := { frames := 0, cells := 0, slots := 0, locals := 0 }
set_option maxRecDepth 20000 in
theorem zM_X12_back (l : Launch) : ab_Met l zw_M vwCl zZ_M yX12_back cX12_back 2 (some .int) zR_X12_back zt_X12_back := ab_ofRun (G := zg_X12_back) (P := zp_X12_back) rfl zo_X12_back (by decide +kernel) zl_cl zl_lamM zf_X12_ok ab_Tab_nil zc_X12_ok ab_Sta_nil (List.forall_mem_nil _) (List.forall_mem_nil _) zE_X12_back
