/-! Drawing.go *)
-/
section DEqv
variable {d d2 : ab_M}
theorem zDGrow_eqv (E : zEqv d d2) : zDGrow d2 = zDGrow d := by
  funext p h sc s
  unfold zDGrow
  rw [E.1, zEqv_brk E]
theorem zDLook1_eqv (E : zEqv d d2) : zDLook1 d2 = zDLook1 d := by
  funext p h sc s
  unfold zDLook1
  rw [E.1, zEqv_brk E]
theorem zDLooks_eqv (E : zEqv d d2) (p h : Nat) (lk : Int32) (s : zDs) : ∀ n, zDLooks d2 p h lk n s = zDLooks d p h lk n s
  | 0 => rfl
  | n + 1 => by
    unfold zDLooks
    rw [zDLooks_eqv E p h lk s n, zDLook1_eqv E, zPace_eqv E]
theorem zDP_eqv (E : zEqv d d2) (h : Nat) {p : Nat} (hp : p < 2 ^ 31) (s : zDs) : zDP d2 h p s = zDP d h p s := by
  unfold zDP
  rw [zEqv_brk E, zDGrow_eqv E, zSc_eqv E h hp, ((zWk_eqv E h).2 p hp).2, zDLooks_eqv E]
theorem zDHour_eqv (E : zEqv d d2) (h : Nat) (s : zDs) : ∀ n, n < 2 ^ 31 → zDHour d2 h n s = zDHour d h n s
  | 0, _ => rfl
  | n + 1, hn => by
    unfold zDHour
    rw [zDHour_eqv E h s n (by omega), zDP_eqv E h (by omega)]
theorem zDAll_eqv (E : zEqv d d2) (s : zDs) : ∀ h, zDAll d2 s h = zDAll d s h
  | 0 => rfl
  | h + 1 => by
    unfold zDAll
    rw [zDAll_eqv E s h, zEqv_pcs E, zDHour_eqv E h _ _ (zPcs_lt d)]
end DEqv
def zp_X3_go : ab_P := [(0, .aload_n 0, 1, [0], []),
  (1, .getfield 9, 4, [], []),
  (4, .iconst 0, 5, [], [0]),
  (5, .invokestatic 27, 8, [], []),
  (8, .aload_n 0, 9, [0], []),
  (9, .iload_n 1, 10, [1], []),
  (10, .i2l, 11, [], []),
  (11, .lconst 1, 12, [1], []),
  (12, .ladd, 13, [], []),
  (13, .putfield 33, 16, [], []),
  (16, .aload_n 0, 17, [0], []),
  (17, .lconst 0, 18, [0], []),
  (18, .putfield 37, 21, [], []),
  (21, .aload_n 0, 22, [0], []),
  (22, .iconst 0, 23, [], [0]),
  (23, .putfield 40, 26, [], []),
  (26, .aload_n 0, 27, [0], []),
  (27, .iconst 0, 28, [], [0]),
  (28, .putfield 44, 31, [], []),
  (31, .iconst 0, 32, [], [0]),
  (32, .istore_n 2, 33, [2], []),
  (33, .iload_n 2, 34, [2], []),
  (34, .aload_n 0, 35, [0], []),
  (35, .getfield 15, 38, [], []),
  (38, .getfield 47, 41, [], []),
  (41, .iconst 0, 42, [], [0]),
  (42, .iaload, 43, [], []),
  (43, .if_icmp .ge 76, 46, [119], []),
  (46, .iconst 0, 47, [], [0]),
  (47, .istore_n 3, 48, [3], []),
  (48, .iload_n 3, 49, [3], []),
  (49, .aload_n 0, 50, [0], []),
  (50, .getfield 15, 53, [], []),
  (53, .getfield 52, 56, [], []),
  (56, .if_icmp .ge 57, 59, [113], []),
  (59, .aload_n 0, 60, [0], []),
  (60, .getfield 9, 63, [], []),
  (63, .iload_n 3, 64, [3], []),
  (64, .iaload, 65, [], []),
  (65, .aload_n 0, 66, [0], []),
  (66, .getfield 15, 69, [], []),
  (69, .getfield 47, 72, [], []),
  (72, .iconst 1, 73, [], [1]),
  (73, .iaload, 74, [], []),
  (74, .if_icmp .ge 33, 77, [107], []),
  (77, .aload_n 0, 78, [0], []),
  (78, .iload_n 3, 79, [3], []),
  (79, .iload_n 2, 80, [2], []),
  (80, .invokevirtual 55, 83, [], []),
  (83, .iconst 0, 84, [], [0]),
  (84, .istore 4, 86, [], []),
  (86, .iload 4, 88, [], []),
  (88, .bipush 8, 90, [], [8]),
  (90, .if_icmp .ge 17, 93, [107], []),
  (93, .aload_n 0, 94, [0], []),
  (94, .iload_n 3, 95, [3], []),
  (95, .iload_n 2, 96, [2], []),
  (96, .iload 4, 98, [], []),
  (98, .invokevirtual 59, 101, [], []),
  (101, .iinc 4 1, 104, [], [1]),
  (104, .goto (-18), 107, [86], []),
  (107, .iinc 3 1, 110, [], [1]),
  (110, .goto (-62), 113, [48], []),
  (113, .iinc 2 1, 116, [], [1]),
  (116, .goto (-83), 119, [33], []),
  (119, .return_, 120, [], [])]
theorem zo_X3_go : ab_ok cX3_go zp_X3_go = true := by decide +kernel
def zg_X3_go : ab_G := (zw_C, zs_tab, zf_X3, zc_X3, [], [(55, 3, zt_X3_grow), (59, 4, zt_X3_look)], [(27, 2, zt_J7_fill_53178)])
theorem zm_X3_go : ab_MG zg_X3_go := ab_MGof (List.forall_mem_cons.mpr ⟨zt_X3_grow_mono, List.forall_mem_cons.mpr ⟨zt_X3_look_mono, List.forall_mem_nil _⟩⟩) (List.forall_mem_cons.mpr ⟨zt_J7_fill_53178_mono, List.forall_mem_nil _⟩)
abbrev zr_X3_go (Q : ab_R) : ab_K := ab_Run zg_X3_go zp_X3_go none 5 Q
set_option maxRecDepth 20000 in
theorem zv_X3_go_0 {Q : ab_R} {M : ab_M} {N : ab_N} (l1 : Int32) (h : zt_J7_fill_53178 [.ref 42, .int (0 : Int32)] M N (fun r M2 N2 => zr_X3_go Q 8 [some (.ref 8), some (.int l1), none, none, none] (ab_ol r []) M2 N2)) : zr_X3_go Q 0 [some (.ref 8), some (.int l1)] [] M N := ab_Run_s zm_X3_go (sp := [(8, [true, true, false, false, false]), (33, [true, false, true, false, false]), (48, [true, false, true, true, false]), (83, [true, false, true, true, false]), (86, [true, false, true, true, true]), (101, [true, false, true, true, true])]) 68 h
set_option maxRecDepth 20000 in
theorem zv_X3_go_8 {Q : ab_R} {M : ab_M} {N : ab_N} (l1 : Int32) (h : let y1 : Nat → Int64 := vp_updL (N 8) 4 ((l1.toInt64) + (1 : Int64)); let y2 : Nat → Int64 := vp_updL (y1) 5 (0 : Int64); let z3 : Nat → Int32 := upd (M 8) 6 (0 : Int32); let z4 : Nat → Int32 := upd (z3) 7 (0 : Int32); zr_X3_go Q 33 [some (.ref 8), none, some (.int (0 : Int32)), none, none] [] (ab_u (ab_u M 8 z3) 8 z4) (ab_u (ab_u N 8 y1) 8 y2)) : zr_X3_go Q 8 [some (.ref 8), some (.int l1), none, none, none] [] M N := ab_Run_s zm_X3_go (sp := [(8, [true, true, false, false, false]), (33, [true, false, true, false, false]), (48, [true, false, true, true, false]), (83, [true, false, true, true, false]), (86, [true, false, true, true, true]), (101, [true, false, true, true, true])]) 68 h
set_option maxRecDepth 20000 in
theorem zv_X3_go_33 {Q : ab_R} {M : ab_M} {N : ab_N} (l2 : Int32) (h : vp_in (0 : Int32) 5 ∧ (((M 17 0) ≤ l2 → Q none M N) ∧ (¬ ((M 17 0) ≤ l2) → zr_X3_go Q 48 [some (.ref 8), none, some (.int l2), some (.int (0 : Int32)), none] [] M N))) : zr_X3_go Q 33 [some (.ref 8), none, some (.int l2), none, none] [] M N := ab_Run_s zm_X3_go (sp := [(8, [true, true, false, false, false]), (33, [true, false, true, false, false]), (48, [true, false, true, true, false]), (83, [true, false, true, true, false]), (86, [true, false, true, true, true]), (101, [true, false, true, true, true])]) 68 h
set_option maxRecDepth 20000 in
theorem zv_X3_go_48 {Q : ab_R} {M : ab_M} {N : ab_N} (l2 : Int32) (l3 : Int32) (h : ((M 1 4) ≤ l3 → zr_X3_go Q 33 [some (.ref 8), none, some (.int (l2 + (1 : Int32))), none, none] [] M N) ∧ (¬ ((M 1 4) ≤ l3) → vp_in l3 8 ∧ (vp_in (1 : Int32) 5 ∧ (((M 17 1) ≤ (M 42 l3.toNatClampNeg) → zr_X3_go Q 48 [some (.ref 8), none, some (.int l2), some (.int (l3 + (1 : Int32))), none] [] M N) ∧ (¬ ((M 17 1) ≤ (M 42 l3.toNatClampNeg)) → zt_X3_grow [.ref 8, .int l3, .int l2] M N (fun r M2 N2 => zr_X3_go Q 83 [some (.ref 8), none, some (.int l2), some (.int l3), none] (ab_ol r []) M2 N2)))))) : zr_X3_go Q 48 [some (.ref 8), none, some (.int l2), some (.int l3), none] [] M N := ab_Run_s zm_X3_go (sp := [(8, [true, true, false, false, false]), (33, [true, false, true, false, false]), (48, [true, false, true, true, false]), (83, [true, false, true, true, false]), (86, [true, false, true, true, true]), (101, [true, false, true, true, true])]) 68 h
set_option maxRecDepth 20000 in
theorem zv_X3_go_83 {Q : ab_R} {M : ab_M} {N : ab_N} (l2 : Int32) (l3 : Int32) (h : zr_X3_go Q 86 [some (.ref 8), none, some (.int l2), some (.int l3), some (.int (0 : Int32))] [] M N) : zr_X3_go Q 83 [some (.ref 8), none, some (.int l2), some (.int l3), none] [] M N := ab_Run_s zm_X3_go (sp := [(8, [true, true, false, false, false]), (33, [true, false, true, false, false]), (48, [true, false, true, true, false]), (83, [true, false, true, true, false]), (86, [true, false, true, true, true]), (101, [true, false, true, true, true])]) 68 h
set_option maxRecDepth 20000 in
theorem zv_X3_go_86 {Q : ab_R} {M : ab_M} {N : ab_N} (l2 : Int32) (l3 : Int32) (l4 : Int32) (h : ((8 : Int32) ≤ l4 → zr_X3_go Q 48 [some (.ref 8), none, some (.int l2), some (.int (l3 + (1 : Int32))), none] [] M N) ∧ (¬ ((8 : Int32) ≤ l4) → zt_X3_look [.ref 8, .int l3, .int l2, .int l4] M N (fun r M2 N2 => zr_X3_go Q 101 [some (.ref 8), none, some (.int l2), some (.int l3), some (.int l4)] (ab_ol r []) M2 N2))) : zr_X3_go Q 86 [some (.ref 8), none, some (.int l2), some (.int l3), some (.int l4)] [] M N := ab_Run_s zm_X3_go (sp := [(8, [true, true, false, false, false]), (33, [true, false, true, false, false]), (48, [true, false, true, true, false]), (83, [true, false, true, true, false]), (86, [true, false, true, true, true]), (101, [true, false, true, true, true])]) 68 h
set_option maxRecDepth 20000 in
theorem zv_X3_go_101 {Q : ab_R} {M : ab_M} {N : ab_N} (l2 : Int32) (l3 : Int32) (l4 : Int32) (h : zr_X3_go Q 86 [some (.ref 8), none, some (.int l2), some (.int l3), some (.int (l4 + (1 : Int32)))] [] M N) : zr_X3_go Q 101 [some (.ref 8), none, some (.int l2), some (.int l3), some (.int l4)] [] M N := ab_Run_s zm_X3_go (sp := [(8, [true, true, false, false, false]), (33, [true, false, true, false, false]), (48, [true, false, true, true, false]), (83, [true, false, true, true, false]), (86, [true, false, true, true, true]), (101, [true, false, true, true, true])]) 68 h
section ZDr
variable {Q : ab_R} {M0 : ab_M} {N0 : ab_N}
theorem zL_X3_go_w (hN : zNight M0) (hW : zWalked M0) (q g : Nat) (s0 : zDs) (hq : q < zPcs M0) (hg : g < zHrs M0) (kk : ∀ M N, zFr [8, 33, 35, 36, 42] M0 M → zAsks M → zNfr [8] N0 N → zHd (zBrk M0) M N (zDLooks M0 q g ((zWk M0 g).2.2.2 q) 8 s0) → zr_X3_go Q 48 [some (.ref 8), none, some (.int (nI g)), some (.int (nI (q + 1))), none] [] M N) :
    ∀ (n w : Nat) (M : ab_M) (N : ab_N), w + n = 8 → zFr [8, 33, 35, 36, 42] M0 M → zAsks M → zNfr [8] N0 N → zHd (zBrk M0) M N (zDLooks M0 q g ((zWk M0 g).2.2.2 q) w s0) → zr_X3_go Q 86 [some (.ref 8), none, some (.int (nI g)), some (.int (nI q)), some (.int (nI w))] [] M N := by
  obtain ⟨hA0, h0, h1⟩ := id hN
  obtain ⟨hP, hP8⟩ := zP_eq h0
  obtain ⟨hHe, hH12⟩ := zH_eq h0
  intro n
  induction n with
  | zero =>
    intro w M N hw hF hA hNf hH
    have ew : w = 8 := by omega
    subst ew
    refine zv_X3_go_86 _ _ _ ⟨fun _ => ?_, fun c => absurd (show nI 8 ≤ nI 8 from nI_le (by omega) (by omega)) c⟩
    rw [nI_1]
    exact kk M N hF hA hNf hH
  | succ n ih =>
    intro w M N hw hF hA hNf hH
    have E := zEqv_gx (zFr_mono hF (by decide : ∀ c ∈ [8, 33, 35, 36, 42], c ∈ zGx))
    refine zv_X3_go_86 _ _ _ ⟨fun c => absurd c (show ¬ nI 8 ≤ nI w from nI_ge (by omega) (by omega)), fun _ => ?_⟩
    refine ab_m3_i ⟨zNight_gx hN hA (zFr_mono hF (by decide)), zWalked_eqv h0 E (hF 37 (by decide)) (hF 38 (by decide)) (hF 39 (by decide)) hW, q, g, w, by rw [zEqv_pcs E]; exact hq, by rw [zEqv_hrs E]; exact hg, by omega, rfl, rfl, rfl, _, by rw [zEqv_brk E]; exact hH⟩ ?_
    rintro o M2 N2 ⟨rfl, hF2, hA2, hNf2, hS2⟩
    have hS3 := hS2 _ (by rw [zEqv_brk E]; exact hH)
    rw [zEqv_brk E, zDLook1_eqv E, zPace_eqv E, nI_clamp (show q < 2 ^ 31 by omega), nI_clamp (show g < 2 ^ 31 by omega), nI_clamp (show w < 2 ^ 31 by omega), ((zWk_eqv E g).2 q (by omega)).2] at hS3
    refine zv_X3_go_101 _ _ _ ?_
    rw [nI_1]
    exact ih (w + 1) M2 N2 (by omega) (zFr_tr hF hF2) hA2 (zNfr_tr hNf hNf2) hS3
theorem zL_X3_go_p (hN : zNight M0) (hW : zWalked M0) (g : Nat) (s0 : zDs) (hg : g < zHrs M0) (kk : ∀ M N, zFr [8, 33, 35, 36, 42] M0 M → zAsks M → zNfr [8] N0 N → zHd (zBrk M0) M N (zDHour M0 g (zPcs M0) s0) → zr_X3_go Q 33 [some (.ref 8), none, some (.int (nI (g + 1))), none, none] [] M N) :
    ∀ (n q : Nat) (M : ab_M) (N : ab_N), q + n = zPcs M0 → zFr [8, 33, 35, 36, 42] M0 M → zAsks M → zNfr [8] N0 N → zHd (zBrk M0) M N (zDHour M0 g q s0) → zr_X3_go Q 48 [some (.ref 8), none, some (.int (nI g)), some (.int (nI q)), none] [] M N := by
  obtain ⟨hA0, h0, h1⟩ := id hN
  obtain ⟨hP, hP8⟩ := zP_eq h0
  obtain ⟨hHe, hH12⟩ := zH_eq h0
  obtain ⟨hB, hB6, hB2⟩ := zB_eq h0
  intro n
  induction n with
  | zero =>
    intro q M N hw hF hA hNf hH
    have ew : q = zPcs M0 := by omega
    subst ew
    refine zv_X3_go_48 _ _ ⟨fun _ => ?_, fun c => absurd ?_ c⟩
    · rw [nI_1]
      exact kk M N hF hA hNf hH
    · rw [hF 1 (by decide), hP]
      exact nI_le (by omega) (by omega)
  | succ n ih =>
    intro q M N hw hF hA hNf hH
    have E := zEqv_gx (zFr_mono hF (by decide : ∀ c ∈ [8, 33, 35, 36, 42], c ∈ zGx))
    generalize hs : zDHour M0 g q s0 = s at hH
    have hH1 := (hH.1 q (by omega))
    have hP1 : zDHour M0 g (q + 1) s0 = zDP M0 g q s := by rw [← hs]; rfl
    refine zv_X3_go_48 _ _ ⟨fun c => ?_, fun _ => ⟨nI_in_ (by omega), ab_vpk (by decide), ?_⟩⟩
    · rw [hF 1 (by decide), hP] at c
      exact absurd c (nI_ge (by omega) (by omega))
    · rw [nI_clamp (show q < 2 ^ 31 by omega), hH1.1, hF 17 (by decide), hB, nI_1]
      refine ⟨fun c => ?_, fun c => ?_⟩
      · have c2 : ¬ s.1 q < zBrk M0 := fun z => nI_ge z (by omega) c
        refine ih (q + 1) M N (by omega) hF hA hNf ?_
        rw [hP1]
        unfold zDP
        rw [if_neg c2]
        exact hH
      · have c2 : s.1 q < zBrk M0 := Nat.not_le.mp (fun z => c (nI_le z (by omega)))
        refine ab_m2_i ⟨zNight_gx hN hA (zFr_mono hF (by decide)), zWalked_eqv h0 E (hF 37 (by decide)) (hF 38 (by decide)) (hF 39 (by decide)) hW, q, g, by rw [zEqv_pcs E]; omega, by rw [zEqv_hrs E]; exact hg, rfl, rfl, s, by rw [zEqv_brk E]; exact hH, by rw [zEqv_brk E]; exact c2⟩ ?_
        rintro o M2 N2 ⟨rfl, hF2, hA2, hNf2, hS2⟩
        have hS3 := hS2 _ (by rw [zEqv_brk E]; exact hH)
        rw [zEqv_brk E, zDGrow_eqv E, nI_clamp (show q < 2 ^ 31 by omega), nI_clamp (show g < 2 ^ 31 by omega), zSc_eqv E g (by omega)] at hS3
        refine zv_X3_go_83 _ _ ?_
        refine zL_X3_go_w hN hW q g _ (by omega) hg (fun M3 N3 hF3 hA3 hNf3 hH3 => ih (q + 1) M3 N3 (by omega) hF3 hA3 hNf3 ?_) 8 0 M2 N2 (by omega) (zFr_tr hF hF2) hA2 (zNfr_tr hNf hNf2) hS3
        rw [hP1]
        unfold zDP
        rw [if_pos c2]
        exact hH3
theorem zL_X3_go_h (hN : zNight M0) (hW : zWalked M0) (s0 : zDs) (kk : ∀ M N, zFr [8, 33, 35, 36, 42] M0 M → zAsks M → zNfr [8] N0 N → zHd (zBrk M0) M N (zDAll M0 s0 (zHrs M0)) → Q none M N) :
    ∀ (n g : Nat) (M : ab_M) (N : ab_N), g + n = zHrs M0 → zFr [8, 33, 35, 36, 42] M0 M → zAsks M → zNfr [8] N0 N → zHd (zBrk M0) M N (zDAll M0 s0 g) → zr_X3_go Q 33 [some (.ref 8), none, some (.int (nI g)), none, none] [] M N := by
  obtain ⟨hA0, h0, h1⟩ := id hN
  obtain ⟨hHe, hH12⟩ := zH_eq h0
  intro n
  induction n with
  | zero =>
    intro g M N hg hF hA hNf hH
    have eg : g = zHrs M0 := by omega
    subst eg
    refine zv_X3_go_33 _ ⟨ab_vpk (by decide), fun _ => kk M N hF hA hNf hH, fun c => absurd ?_ c⟩
    rw [hF 17 (by decide), hHe]
    exact nI_le (by omega) (by omega)
  | succ n ih =>
    intro g M N hg hF hA hNf hH
    refine zv_X3_go_33 _ ⟨ab_vpk (by decide), fun c => ?_, fun _ => ?_⟩
    · rw [hF 17 (by decide), hHe] at c
      exact absurd c (nI_ge (by omega) (by omega))
    · exact zL_X3_go_p hN hW g _ (by omega) (fun M3 N3 hF3 hA3 hNf3 hH3 => ih (g + 1) M3 N3 (by omega) hF3 hA3 hNf3 hH3) (zPcs M0) 0 M N (by omega) hF hA hNf hH
end ZDr
theorem zE_X3_go (as : List Value) (M : ab_M) (N : ab_N) (k : ab_R) (hT : zt_X3_go as M N k) : ab_cs as ≤ 5 ∧ zr_X3_go k 0 (ab_en as) [] M N := by
  obtain ⟨x, rfl, ⟨hN, hW⟩, hk⟩ := ab_m1_e hT
  refine ⟨Nat.le_of_ble_eq_true rfl, zv_X3_go_0 _ ⟨rfl, fun f hf => zv_X3_go_8 _ ?_⟩⟩
  intro y1 y2 z3 z4
  have hy2 : y2 = vp_updL (vp_updL (N 8) 4 (x.toInt64 + 1)) 5 0 := rfl
  have hz3 : z3 = upd (M 8) 6 0 := rfl
  have hz4 : z4 = upd z3 7 0 := rfl
  clear_value y2 z3 z4
  refine zL_X3_go_h hN hW (zDs0 x) (fun M2 N2 hF hA hNf hS => hk none M2 N2 ⟨rfl, hF, hA, hNf, hS⟩) (zHrs M) 0 _ _ (by omega) (zFr_u (zFr_u (zFr_u (zFr_rf _ _) (by decide) _) (by decide) _) (by decide) _) (zAsks_gy hN.1 (zFr_u (zFr_u (zFr_u (zFr_rf _ _) (by decide) _) (by decide) _) (by decide) _)) (zNfr_u (zNfr_u (zNfr_rf _ _) (by decide) _) (by decide) _) ?_
  show zHd (zBrk M) _ _ (fun _ => 0, x.toInt64 + 1, 0, 0, 0)
  refine zHd_mk (fun p hp => ⟨?_, by omega⟩) ?_ ?_ ?_ ?_
  · rw [ab_u_ne _ _ (by decide), ab_u_ne _ _ (by decide), ab_u_eq, hf p hp]; rfl
  · rw [ab_u_eq, hy2, updL_ne _ _ (by decide), updL_eq]
  · rw [ab_u_eq, hy2, updL_eq]
  · rw [ab_u_eq, hz4, upd_ne _ _ (by decide), hz3, upd_eq]
  · rw [ab_u_eq, hz4, upd_eq]
abbrev zR_X3_go : Room := { frames := 4, cells := 0, slots := 0, locals := 103 }
set_option maxRecDepth 20000 in
theorem zM_X3_go (l : Launch) : ab_Met l zw_C vwCl zZ_C yX3_go cX3_go 5 none zR_X3_go zt_X3_go := ab_ofRun (G := zg_X3_go) (P := zp_X3_go) rfl zo_X3_go (by decide +kernel) zl_cl zl_lamC zf_X3_ok zs_tabOK zc_X3_ok ab_Sta_nil (List.forall_mem_cons.mpr ⟨ab_callV zZ_C_ok (zM_X3_grow l) (ab_in 887 (by decide +kernel) rfl) (ab_in 884 (by decide +kernel) rfl) (ab_in 886 (by decide +kernel) rfl) (ab_inS (List.mem_of_getElem? (i := 23) (by decide +kernel)) rfl) (ab_in 9 (by decide +kernel) rfl) (by unfold ab_yok; decide +kernel) ⟨rfl, rfl⟩ (by decide) zV_X3_grow, List.forall_mem_cons.mpr ⟨ab_callV zZ_C_ok (zM_X3_look l) (ab_in 900 (by decide +kernel) rfl) (ab_in 897 (by decide +kernel) rfl) (ab_in 899 (by decide +kernel) rfl) (ab_inS (List.mem_of_getElem? (i := 25) (by decide +kernel)) rfl) (ab_in 9 (by decide +kernel) rfl) (by unfold ab_yok; decide +kernel) ⟨rfl, rfl⟩ (by decide) zV_X3_look, List.forall_mem_nil _⟩⟩) (List.forall_mem_cons.mpr ⟨ab_callS zZ_C_ok (zM_J7_fill_53178 l) (ab_in 883 (by decide +kernel) rfl) (ab_in 881 (by decide +kernel) rfl) (ab_in 882 (by decide +kernel) rfl) (ab_in 19 (by decide +kernel) rfl) (by unfold ab_yok; decide +kernel) ⟨rfl, rfl⟩ (by decide), List.forall_mem_nil _⟩) zE_X3_go
