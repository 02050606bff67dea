/-! all harm, how long, rows of sheets *)
-/
def zt_X11_allHarm : ab_T := ab_m0 0 (fun M N => zNight M) (fun M N o M2 N2 => o = some (.long (zAll M)) ∧ zFr zGo M M2 ∧ zAsks M2 ∧ zNfr [7, 41] N N2)
theorem zt_X11_allHarm_mono : ab_mono zt_X11_allHarm := ab_m0_mono _ _ _
theorem zV_X11_allHarm : ab_recv zw_C vwCl RX11 zt_X11_allHarm := ab_m0_v rfl rfl
/-- how many hours, out of what stands by hours -/
def zHours (f : Nat → Int32) : Nat → Int32
  | 0 => 0
  | h + 1 => zHours f h + (if f h = 0 then 0 else 1)
def zLong (f : Nat → Int32) : Nat → Int32 × Int32
  | 0 => (0, 0)
  | h + 1 => let r : Int32 := if f h = 0 then (zLong f h).2 + 1 else 0
    (if (zLong f h).1 < r then r else (zLong f h).1, r)
def zt_X11_hoursLookedAt : ab_T := ab_m1 0 (fun p M N => zI0 M ∧ zWalked M ∧ ∃ q : Nat, q < zPcs M ∧ p = nI q) (fun p M N o M2 N2 => o = some (.int (zHours (fun h => (zWk M h).2.2.2 p.toNatClampNeg) (zHrs M))) ∧ M2 = M ∧ N2 = N)
theorem zt_X11_hoursLookedAt_mono : ab_mono zt_X11_hoursLookedAt := ab_m1_mono _ _ _
theorem zV_X11_hoursLookedAt : ab_recv zw_C vwCl RX11 zt_X11_hoursLookedAt := ab_m1_v rfl rfl
def zt_X11_longestNotLookedAt : ab_T := ab_m1 0 (fun p M N => zI0 M ∧ zWalked M ∧ ∃ q : Nat, q < zPcs M ∧ p = nI q) (fun p M N o M2 N2 => o = some (.int (zLong (fun h => (zWk M h).2.2.2 p.toNatClampNeg) (zHrs M)).1) ∧ M2 = M ∧ N2 = N)
theorem zt_X11_longestNotLookedAt_mono : ab_mono zt_X11_longestNotLookedAt := ab_m1_mono _ _ _
theorem zV_X11_longestNotLookedAt : ab_recv zw_C vwCl RX11 zt_X11_longestNotLookedAt := ab_m1_v rfl rfl
/-- the sheets' sizes -/
def zSh (M : ab_M) : Prop := ∀ s : Nat, s < 4 → ∃ n : Nat, n ≤ 40 ∧ M 44 s = nI n
def zAllS (f : Nat → Int32) (mx : Int32) : Nat → Nat → Bool
  | _, 0 => true
  | i, m + 1 => decide (0 ≤ f i ∧ f i ≤ mx) && zAllS f mx (i + 1) m
/-- why a sheet is no row -/
def zRefused (d : ab_M) (s n mx : Int32) : Int32 :=
  if ¬ (0 ≤ s ∧ s < 4) then -2
  else if d 43 s.toNatClampNeg = -1 then -11
  else if ¬ d 44 s.toNatClampNeg = n then -2
  else if zAllS (fun i => d 45 (s.toNatClampNeg * 40 + i)) mx 0 n.toNatClampNeg = true then 0 else -2
def zt_X11_rowRefused : ab_T := ab_m3 0 (fun _ _ _ M _ => zSh M) (fun s n mx M N o M2 N2 => o = some (.int (zRefused M s n mx)) ∧ M2 = M ∧ N2 = N)
theorem zt_X11_rowRefused_mono : ab_mono zt_X11_rowRefused := ab_m3_mono _ _ _
theorem zV_X11_rowRefused : ab_recv zw_C vwCl RX11 zt_X11_rowRefused := ab_m3_v rfl rfl
def zSumS (d : ab_M) (q : Nat) : Nat → Int32
  | 0 => 0
  | p + 1 => zSumS d q p + d 45 (q * 40 + p)
def zHoled (d : ab_M) (q : Nat) : Nat → Int32
  | 0 => 0
  | p + 1 => zHoled d q p ||| (if d 45 (q * 40 + p) * d 1 4 ≤ 2 * zSumS d q (zPcs d) then 0 else (1 : Int32) <<< (nI p &&& 31))
def zt_X11_holedOften : ab_T := ab_m1 0 (fun s M _ => zI0 M ∧ ∃ q : Nat, q < 4 ∧ s = nI q ∧ M 44 q = M 1 4) (fun s M N o M2 N2 => o = some (.int (zHoled M s.toNatClampNeg (zPcs M))) ∧ M2 = M ∧ N2 = N)
theorem zt_X11_holedOften_mono : ab_mono zt_X11_holedOften := ab_m1_mono _ _ _
theorem zV_X11_holedOften : ab_recv zw_C vwCl RX11 zt_X11_holedOften := ab_m1_v rfl rfl
def zp_X11_allHarm : ab_P := [(0, .aload_n 0, 1, [0], []),
  (1, .getfield 53, 4, [], []),
  (4, .invokevirtual 198, 7, [], []),
  (7, .lconst 0, 8, [0], []),
  (8, .lstore_n 1, 9, [1], []),
  (9, .iconst 0, 10, [], [0]),
  (10, .istore_n 3, 11, [3], []),
  (11, .iload_n 3, 12, [3], []),
  (12, .aload_n 0, 13, [0], []),
  (13, .getfield 10, 16, [], []),
  (16, .getfield 121, 19, [], []),
  (19, .if_icmp .ge 36, 22, [55], []),
  (22, .aload_n 0, 23, [0], []),
  (23, .getfield 62, 26, [], []),
  (26, .iload_n 3, 27, [3], []),
  (27, .aload_n 0, 28, [0], []),
  (28, .getfield 10, 31, [], []),
  (31, .getfield 150, 34, [], []),
  (34, .iconst 0, 35, [], [0]),
  (35, .iaload, 36, [], []),
  (36, .invokevirtual 220, 39, [], []),
  (39, .lload_n 1, 40, [1], []),
  (40, .aload_n 0, 41, [0], []),
  (41, .getfield 62, 44, [], []),
  (44, .getfield 342, 47, [], []),
  (47, .ladd, 48, [], []),
  (48, .lstore_n 1, 49, [1], []),
  (49, .iinc 3 1, 52, [], [1]),
  (52, .goto (-41), 55, [11], []),
  (55, .lload_n 1, 56, [1], []),
  (56, .lreturn, 57, [], [])]
theorem zo_X11_allHarm : ab_ok cX11_allHarm zp_X11_allHarm = true := by decide +kernel
def zg_X11_allHarm : ab_G := (zw_C, zs_tab, zf_X11, zc_X11, [(144, 50), (147, 51)], [(198, 1, zt_X10_go), (220, 3, zt_X6_reckon)], [])
theorem zm_X11_allHarm : ab_MG zg_X11_allHarm := ab_MGof (List.forall_mem_cons.mpr ⟨zt_X10_go_mono, List.forall_mem_cons.mpr ⟨zt_X6_reckon_mono, List.forall_mem_nil _⟩⟩) (List.forall_mem_nil _)
abbrev zr_X11_allHarm (Q : ab_R) : ab_K := ab_Run zg_X11_allHarm zp_X11_allHarm (some .long) 4 Q
set_option maxRecDepth 20000 in
theorem zv_X11_allHarm_0 {Q : ab_R} {M : ab_M} {N : ab_N}  (h : zt_X10_go [.ref 6] M N (fun r M2 N2 => zr_X11_allHarm Q 7 [some (.ref 0), none, none, none] (ab_ol r []) M2 N2)) : zr_X11_allHarm Q 0 [some (.ref 0)] [] M N := ab_Run_s zm_X11_allHarm (sp := [(7, [true, false, false, false]), (11, [true, true, false, true]), (39, [true, true, false, true])]) 33 h
set_option maxRecDepth 20000 in
theorem zv_X11_allHarm_7 {Q : ab_R} {M : ab_M} {N : ab_N}  (h : zr_X11_allHarm Q 11 [some (.ref 0), some (.long (0 : Int64)), none, some (.int (0 : Int32))] [] M N) : zr_X11_allHarm Q 7 [some (.ref 0), none, none, none] [] M N := ab_Run_s zm_X11_allHarm (sp := [(7, [true, false, false, false]), (11, [true, true, false, true]), (39, [true, true, false, true])]) 33 h
set_option maxRecDepth 20000 in
theorem zv_X11_allHarm_11 {Q : ab_R} {M : ab_M} {N : ab_N} (l1 : Int64) (l3 : Int32) (h : ((M 1 4) ≤ l3 → Q (some (.long l1)) M N) ∧ (¬ ((M 1 4) ≤ l3) → vp_in (0 : Int32) 5 ∧ (zt_X6_reckon [.ref 7, .int l3, .int (M 17 0)] M N (fun r M2 N2 => zr_X11_allHarm Q 39 [some (.ref 0), some (.long l1), none, some (.int l3)] (ab_ol r []) M2 N2)))) : zr_X11_allHarm Q 11 [some (.ref 0), some (.long l1), none, some (.int l3)] [] M N := ab_Run_s zm_X11_allHarm (sp := [(7, [true, false, false, false]), (11, [true, true, false, true]), (39, [true, true, false, true])]) 33 h
set_option maxRecDepth 20000 in
theorem zv_X11_allHarm_39 {Q : ab_R} {M : ab_M} {N : ab_N} (l1 : Int64) (l3 : Int32) (h : zr_X11_allHarm Q 11 [some (.ref 0), some (.long (l1 + (N 7 4))), none, some (.int (l3 + (1 : Int32)))] [] M N) : zr_X11_allHarm Q 39 [some (.ref 0), some (.long l1), none, some (.int l3)] [] M N := ab_Run_s zm_X11_allHarm (sp := [(7, [true, false, false, false]), (11, [true, true, false, true]), (39, [true, true, false, true])]) 33 h
theorem zRk_fr {M M2 : ab_M} (hF : zFr [33, 35, 36] M M2) {p : Nat} (hp : p < 2 ^ 31) (h : Nat) : zRk M2 p h = zRk M p h := zRk_eqv (zEqv_go (zFr_mono hF (by decide))) hp h
theorem zL_X11_allHarm {Q : ab_R} {M0 : ab_M} {N0 : ab_N} (hN : zNight M0) (hW : zWalked M0) (kk : ∀ M N, zFr [33, 35, 36] M0 M → zAsks M → zNfr [7, 41] N0 N → Q (some (.long (zSum M0 0 (zPcs M0)))) M N) :
    ∀ (n p : Nat) (M : ab_M) (N : ab_N), p + n = zPcs M0 → zFr [33, 35, 36] M0 M → zAsks M → zNfr [7, 41] N0 N → zr_X11_allHarm Q 11 [some (.ref 0), some (.long (zSum M0 0 p)), none, some (.int (nI p))] [] M N := by
  obtain ⟨hA0, h0, h1⟩ := id hN
  obtain ⟨hP, hP8⟩ := zP_eq h0
  obtain ⟨hHe, hH12⟩ := zH_eq h0
  intro n
  induction n with
  | zero =>
    intro p M N hp hF hA hNf
    have ep : p = zPcs M0 := by omega
    subst ep
    refine zv_X11_allHarm_11 _ _ ⟨fun _ => kk M N hF hA hNf, fun c => absurd ?_ c⟩
    rw [hF 1 (by decide), hP]
    exact nI_le (by omega) (by omega)
  | succ n ih =>
    intro p M N hp hF hA hNf
    refine zv_X11_allHarm_11 _ _ ⟨fun c => ?_, fun _ => ⟨ab_vpk (by decide), ?_⟩⟩
    · rw [hF 1 (by decide), hP] at c
      exact absurd c (nI_ge (by omega) (by omega))
    · rw [hF 17 (by decide), hHe]
      refine ab_m2_i ⟨zNight_fr hN hA hF, zWalked_fr hF hW, p, zHrs M0, by rw [zPcs_fr hF]; omega, by rw [zHrs_fr hF]; exact Nat.le_refl _, rfl, rfl⟩ ?_
      rintro o M2 N2 ⟨rfl, hF2, hA2, hNf2, hS2⟩
      rw [nI_clamp (show p < 2 ^ 31 by omega), nI_clamp (show zHrs M0 < 2 ^ 31 by omega), zRk_fr hF (by omega)] at hS2
      refine zv_X11_allHarm_39 _ _ ?_
      rw [nI_1, hS2.2.1]
      exact ih (p + 1) M2 N2 (by omega) (zFr_tr hF hF2) hA2 (zNfr_tr hNf hNf2)
theorem zE_X11_allHarm (as : List Value) (M : ab_M) (N : ab_N) (k : ab_R) (hT : zt_X11_allHarm as M N k) : ab_cs as ≤ 4 ∧ zr_X11_allHarm k 0 (ab_en as) [] M N := by
  obtain ⟨rfl, hN, hk⟩ := ab_m0_e hT
  refine ⟨Nat.le_of_ble_eq_true rfl, zv_X11_allHarm_0 (ab_m0_i hN ?_)⟩
  rintro o M2 N2 ⟨rfl, rfl, hF, hA, hW⟩
  have hW2 := zWalked_go hF hW
  have hN2 := zNight_of hN hA hF
  have E := zEqv_go hF
  refine zv_X11_allHarm_7 ?_
  refine zL_X11_allHarm hN2 hW2 (fun M3 N3 hF3 hA3 hNf3 => hk _ _ _ ⟨?_, zFr_tr hF (zFr_mono hF3 (by decide)), hA3, hNf3⟩) (zPcs M2) 0 M2 N2 (by omega) (zFr_rf _ _) hA (zNfr_rf _ _)
  rw [show zSum M2 0 (zPcs M2) = zAll M2 from rfl, zAll_eqv E]
abbrev zR_X11_allHarm : Room := { frames := 6, cells := 0, slots := 0, locals := 155 }
set_option maxRecDepth 20000 in
theorem zM_X11_allHarm (l : Launch) : ab_Met l zw_C vwCl zZ_C yX11_allHarm cX11_allHarm 4 (some .long) zR_X11_allHarm zt_X11_allHarm := ab_ofRun (G := zg_X11_allHarm) (P := zp_X11_allHarm) rfl zo_X11_allHarm (by decide +kernel) zl_cl zl_lamC zf_X11_ok zs_tabOK zc_X11_ok zs_X11_ok (List.forall_mem_cons.mpr ⟨ab_callV zZ_C_ok (zM_X10_go l) (ab_in 658 (by decide +kernel) rfl) (ab_in 655 (by decide +kernel) rfl) (ab_in 656 (by decide +kernel) rfl) (ab_in 657 (by decide +kernel) rfl) (ab_in 7 (by decide +kernel) rfl) (by unfold ab_yok; decide +kernel) ⟨rfl, rfl⟩ (by decide) zV_X10_go, List.forall_mem_cons.mpr ⟨ab_callV zZ_C_ok (zM_X6_reckon l) (ab_in 737 (by decide +kernel) rfl) (ab_in 734 (by decide +kernel) rfl) (ab_in 735 (by decide +kernel) rfl) (ab_in 736 (by decide +kernel) rfl) (ab_in 8 (by decide +kernel) rfl) (by unfold ab_yok; decide +kernel) ⟨rfl, rfl⟩ (by decide) zV_X6_reckon, List.forall_mem_nil _⟩⟩) (List.forall_mem_nil _) zE_X11_allHarm
def zp_X11_hoursLookedAt : ab_P := [(0, .iconst 0, 1, [], [0]),
  (1, .istore_n 2, 2, [2], []),
  (2, .iconst 0, 3, [], [0]),
  (3, .istore_n 3, 4, [3], []),
  (4, .iload_n 3, 5, [3], []),
  (5, .aload_n 0, 6, [0], []),
  (6, .getfield 10, 9, [], []),
  (9, .getfield 150, 12, [], []),
  (12, .iconst 0, 13, [], [0]),
  (13, .iaload, 14, [], []),
  (14, .if_icmp .ge 29, 17, [43], []),
  (17, .iload_n 2, 18, [2], []),
  (18, .aload_n 0, 19, [0], []),
  (19, .getfield 53, 22, [], []),
  (22, .iload_n 1, 23, [1], []),
  (23, .iload_n 3, 24, [3], []),
  (24, .invokevirtual 204, 27, [], []),
  (27, .ifCond .eq 7, 30, [34], []),
  (30, .iconst 1, 31, [], [1]),
  (31, .goto 4, 34, [35], []),
  (34, .iconst 0, 35, [], [0]),
  (35, .iadd, 36, [], []),
  (36, .istore_n 2, 37, [2], []),
  (37, .iinc 3 1, 40, [], [1]),
  (40, .goto (-36), 43, [4], []),
  (43, .iload_n 2, 44, [2], []),
  (44, .ireturn, 45, [], [])]
theorem zo_X11_hoursLookedAt : ab_ok cX11_hoursLookedAt zp_X11_hoursLookedAt = true := by decide +kernel
def zg_X11_hoursLookedAt : ab_G := (zw_C, zs_tab, zf_X11, zc_X11, [(144, 50), (147, 51)], [(204, 3, zt_X10_lookedAt)], [])
theorem zm_X11_hoursLookedAt : ab_MG zg_X11_hoursLookedAt := ab_MGof (List.forall_mem_cons.mpr ⟨ab_pp_mono _, List.forall_mem_nil _⟩) (List.forall_mem_nil _)
abbrev zr_X11_hoursLookedAt (Q : ab_R) : ab_K := ab_Run zg_X11_hoursLookedAt zp_X11_hoursLookedAt (some .int) 4 Q
set_option maxRecDepth 20000 in
theorem zv_X11_hoursLookedAt_0 {Q : ab_R} {M : ab_M} {N : ab_N} (l1 : Int32) (h : zr_X11_hoursLookedAt Q 4 [some (.ref 0), some (.int l1), some (.int (0 : Int32)), some (.int (0 : Int32))] [] M N) : zr_X11_hoursLookedAt Q 0 [some (.ref 0), some (.int l1)] [] M N := ab_Run_s zm_X11_hoursLookedAt (sp := [(4, [true, true, true, true])]) 29 h
set_option maxRecDepth 20000 in
theorem zv_X11_hoursLookedAt_4 {Q : ab_R} {M : ab_M} {N : ab_N} (l1 : Int32) (l2 : Int32) (l3 : Int32) (h : vp_in (0 : Int32) 5 ∧ (((M 17 0) ≤ l3 → Q (some (.int l2)) M N) ∧ (¬ ((M 17 0) ≤ l3) → (vp_in (l3 * 8 + l1) 96) ∧ (((ab_b (¬ (M 38) (l3 * 8 + l1).toNatClampNeg = 0)) = 0 → zr_X11_hoursLookedAt Q 4 [some (.ref 0), some (.int l1), some (.int (l2 + (0 : Int32))), some (.int (l3 + (1 : Int32)))] [] M N) ∧ (¬ ((ab_b (¬ (M 38) (l3 * 8 + l1).toNatClampNeg = 0)) = 0) → zr_X11_hoursLookedAt Q 4 [some (.ref 0), some (.int l1), some (.int (l2 + (1 : Int32))), some (.int (l3 + (1 : Int32)))] [] M N))))) : zr_X11_hoursLookedAt Q 4 [some (.ref 0), some (.int l1), some (.int l2), some (.int l3)] [] M N := ab_Run_s zm_X11_hoursLookedAt (sp := [(4, [true, true, true, true])]) 29 h
theorem zL_X11_hours {Q : ab_R} {M : ab_M} {N : ab_N} (h0 : zI0 M) (hW : zWalked M) (q : Nat) (hq : q < zPcs M) (kk : Q (some (.int (zHours (fun h => (zWk M h).2.2.2 q) (zHrs M)))) M N) :
    ∀ (n h : Nat), h + n = zHrs M → zr_X11_hoursLookedAt Q 4 [some (.ref 0), some (.int (nI q)), some (.int (zHours (fun h => (zWk M h).2.2.2 q) h)), some (.int (nI h))] [] M N := by
  obtain ⟨hP, hP8⟩ := zP_eq h0
  obtain ⟨hHe, hH12⟩ := zH_eq h0
  intro n
  induction n with
  | zero =>
    intro h hh
    have eh : h = zHrs M := by omega
    subst eh
    refine zv_X11_hoursLookedAt_4 _ _ _ ⟨ab_vpk (by decide), ?_⟩
    rw [hHe]
    exact ⟨fun _ => kk, fun c => absurd (nI_le (by omega) (by omega)) c⟩
  | succ n ih =>
    intro h hh
    refine zv_X11_hoursLookedAt_4 _ _ _ ⟨ab_vpk (by decide), ?_⟩
    rw [hHe]
    have ei : nI h * 8 + nI q = nI (h * 8 + q) := by rw [zN_mul h 8 8, nI_add]
    rw [ei, nI_clamp (show h * 8 + q < 2 ^ 31 by omega), ((hW h (by omega)).2 q hq).2, nI_1]
    refine ⟨fun c => absurd c (nI_ge (by omega) (by omega)), fun _ => ⟨nI_in_ (by omega), fun c => ?_, fun c => ?_⟩⟩
    · have := ih (h + 1) (by omega)
      unfold zHours at this
      rw [if_pos (Decidable.not_not.mp (ab_b_0.mp c))] at this
      exact this
    · have := ih (h + 1) (by omega)
      unfold zHours at this
      rw [if_neg (fun z => c (ab_b_0.mpr (fun z2 => z2 z)))] at this
      exact this
theorem zE_X11_hoursLookedAt (as : List Value) (M : ab_M) (N : ab_N) (k : ab_R) (hT : zt_X11_hoursLookedAt as M N k) : ab_cs as ≤ 4 ∧ zr_X11_hoursLookedAt k 0 (ab_en as) [] M N := by
  obtain ⟨p, rfl, ⟨h0, hW, q, hq, rfl⟩, hk⟩ := ab_m1_e hT
  have hP := zPcs_lt M
  rw [nI_clamp (show q < 2 ^ 31 by omega)] at hk
  exact ⟨Nat.le_of_ble_eq_true rfl, zv_X11_hoursLookedAt_0 _ (zL_X11_hours h0 hW q hq (hk _ _ _ ⟨rfl, rfl, rfl⟩) (zHrs M) 0 (by omega))⟩
abbrev zR_X11_hoursLookedAt : Room := { frames := 1, cells := 0, slots := 0, locals := 22 }
set_option maxRecDepth 20000 in
theorem zM_X11_hoursLookedAt (l : Launch) : ab_Met l zw_C vwCl zZ_C yX11_hoursLookedAt cX11_hoursLookedAt 4 (some .int) zR_X11_hoursLookedAt zt_X11_hoursLookedAt := ab_ofRun (G := zg_X11_hoursLookedAt) (P := zp_X11_hoursLookedAt) rfl zo_X11_hoursLookedAt (by decide +kernel) zl_cl zl_lamC zf_X11_ok zs_tabOK zc_X11_ok zs_X11_ok (List.forall_mem_cons.mpr ⟨ab_callV zZ_C_ok (zM_X10_lookedAt l) (ab_in 662 (by decide +kernel) rfl) (ab_in 707 (by decide +kernel) rfl) (ab_in 660 (by decide +kernel) rfl) (ab_in 661 (by decide +kernel) rfl) (ab_in 7 (by decide +kernel) rfl) (by unfold ab_yok; decide +kernel) ⟨rfl, rfl⟩ (by decide) zV_X10_lookedAt, List.forall_mem_nil _⟩) (List.forall_mem_nil _) zE_X11_hoursLookedAt
def zp_X11_longestNotLookedAt : ab_P := [(0, .iconst 0, 1, [], [0]),
  (1, .istore_n 2, 2, [2], []),
  (2, .iconst 0, 3, [], [0]),
  (3, .istore_n 3, 4, [3], []),
  (4, .iconst 0, 5, [], [0]),
  (5, .istore 4, 7, [], []),
  (7, .iload 4, 9, [], []),
  (9, .aload_n 0, 10, [0], []),
  (10, .getfield 10, 13, [], []),
  (13, .getfield 150, 16, [], []),
  (16, .iconst 0, 17, [], [0]),
  (17, .iaload, 18, [], []),
  (18, .if_icmp .ge 36, 21, [54], []),
  (21, .aload_n 0, 22, [0], []),
  (22, .getfield 53, 25, [], []),
  (25, .iload_n 1, 26, [1], []),
  (26, .iload 4, 28, [], []),
  (28, .invokevirtual 204, 31, [], []),
  (31, .ifCond .eq 7, 34, [38], []),
  (34, .iconst 0, 35, [], [0]),
  (35, .goto 6, 38, [41], []),
  (38, .iload_n 3, 39, [3], []),
  (39, .iconst 1, 40, [], [1]),
  (40, .iadd, 41, [], []),
  (41, .istore_n 3, 42, [3], []),
  (42, .iload_n 2, 43, [2], []),
  (43, .iload_n 3, 44, [3], []),
  (44, .invokestatic 343, 47, [], []),
  (47, .istore_n 2, 48, [2], []),
  (48, .iinc 4 1, 51, [], [1]),
  (51, .goto (-44), 54, [7], []),
  (54, .iload_n 2, 55, [2], []),
  (55, .ireturn, 56, [], [])]
theorem zo_X11_longestNotLookedAt : ab_ok cX11_longestNotLookedAt zp_X11_longestNotLookedAt = true := by decide +kernel
def zg_X11_longestNotLookedAt : ab_G := (zw_C, zs_tab, zf_X11, zc_X11, [(144, 50), (147, 51)], [(204, 3, zt_X10_lookedAt)], [(343, 2, zt_max)])
theorem zm_X11_longestNotLookedAt : ab_MG zg_X11_longestNotLookedAt := ab_MGof (List.forall_mem_cons.mpr ⟨ab_pp_mono _, List.forall_mem_nil _⟩) (List.forall_mem_cons.mpr ⟨ab_pure_mono _, List.forall_mem_nil _⟩)
abbrev zr_X11_longestNotLookedAt (Q : ab_R) : ab_K := ab_Run zg_X11_longestNotLookedAt zp_X11_longestNotLookedAt (some .int) 5 Q
set_option maxRecDepth 20000 in
theorem zv_X11_longestNotLookedAt_0 {Q : ab_R} {M : ab_M} {N : ab_N} (l1 : Int32) (h : zr_X11_longestNotLookedAt Q 7 [some (.ref 0), some (.int l1), some (.int (0 : Int32)), some (.int (0 : Int32)), some (.int (0 : Int32))] [] M N) : zr_X11_longestNotLookedAt Q 0 [some (.ref 0), some (.int l1)] [] M N := ab_Run_s zm_X11_longestNotLookedAt (sp := [(7, [true, true, true, true, true])]) 35 h
set_option maxRecDepth 20000 in
theorem zv_X11_longestNotLookedAt_7 {Q : ab_R} {M : ab_M} {N : ab_N} (l1 : Int32) (l2 : Int32) (l3 : Int32) (l4 : Int32) (h : vp_in (0 : Int32) 5 ∧ (((M 17 0) ≤ l4 → Q (some (.int l2)) M N) ∧ (¬ ((M 17 0) ≤ l4) → (vp_in (l4 * 8 + l1) 96) ∧ (((ab_b (¬ (M 38) (l4 * 8 + l1).toNatClampNeg = 0)) = 0 → zr_X11_longestNotLookedAt Q 7 [some (.ref 0), some (.int l1), some (.int (if l2 < (l3 + (1 : Int32)) then (l3 + (1 : Int32)) else l2)), some (.int (l3 + (1 : Int32))), some (.int (l4 + (1 : Int32)))] [] M N) ∧ (¬ ((ab_b (¬ (M 38) (l4 * 8 + l1).toNatClampNeg = 0)) = 0) → zr_X11_longestNotLookedAt Q 7 [some (.ref 0), some (.int l1), some (.int (if l2 < (0 : Int32) then (0 : Int32) else l2)), some (.int (0 : Int32)), some (.int (l4 + (1 : Int32)))] [] M N))))) : zr_X11_longestNotLookedAt Q 7 [some (.ref 0), some (.int l1), some (.int l2), some (.int l3), some (.int l4)] [] M N := ab_Run_s zm_X11_longestNotLookedAt (sp := [(7, [true, true, true, true, true])]) 35 h
theorem zL_X11_long {Q : ab_R} {M : ab_M} {N : ab_N} (h0 : zI0 M) (hW : zWalked M) (q : Nat) (hq : q < zPcs M) (kk : Q (some (.int (zLong (fun h => (zWk M h).2.2.2 q) (zHrs M)).1)) M N) :
    ∀ (n h : Nat), h + n = zHrs M → zr_X11_longestNotLookedAt Q 7 [some (.ref 0), some (.int (nI q)), some (.int (zLong (fun h => (zWk M h).2.2.2 q) h).1), some (.int (zLong (fun h => (zWk M h).2.2.2 q) h).2), some (.int (nI h))] [] M N := by
  obtain ⟨hP, hP8⟩ := zP_eq h0
  obtain ⟨hHe, hH12⟩ := zH_eq h0
  intro n
  induction n with
  | zero =>
    intro h hh
    have eh : h = zHrs M := by omega
    subst eh
    refine zv_X11_longestNotLookedAt_7 _ _ _ _ ⟨ab_vpk (by decide), ?_⟩
    rw [hHe]
    exact ⟨fun _ => kk, fun c => absurd (nI_le (by omega) (by omega)) c⟩
  | succ n ih =>
    intro h hh
    refine zv_X11_longestNotLookedAt_7 _ _ _ _ ⟨ab_vpk (by decide), ?_⟩
    rw [hHe]
    have ei : nI h * 8 + nI q = nI (h * 8 + q) := by rw [zN_mul h 8 8, nI_add]
    rw [ei, nI_clamp (show h * 8 + q < 2 ^ 31 by omega), ((hW h (by omega)).2 q hq).2, nI_1]
    refine ⟨fun c => absurd c (nI_ge (by omega) (by omega)), fun _ => ⟨nI_in_ (by omega), fun c => ?_, fun c => ?_⟩⟩
    · have := ih (h + 1) (by omega)
      unfold zLong at this
      simp only [if_pos (Decidable.not_not.mp (ab_b_0.mp c))] at this
      exact this
    · have := ih (h + 1) (by omega)
      unfold zLong at this
      simp only [if_neg (show ¬ (zWk M h).2.2.2 q = 0 from fun z => c (ab_b_0.mpr (fun z2 => z2 z)))] at this
      exact this
theorem zE_X11_longestNotLookedAt (as : List Value) (M : ab_M) (N : ab_N) (k : ab_R) (hT : zt_X11_longestNotLookedAt as M N k) : ab_cs as ≤ 5 ∧ zr_X11_longestNotLookedAt k 0 (ab_en as) [] M N := by
  obtain ⟨p, rfl, ⟨h0, hW, q, hq, rfl⟩, hk⟩ := ab_m1_e hT
  have hP := zPcs_lt M
  rw [nI_clamp (show q < 2 ^ 31 by omega)] at hk
  exact ⟨Nat.le_of_ble_eq_true rfl, zv_X11_longestNotLookedAt_0 _ (zL_X11_long h0 hW q hq (hk _ _ _ ⟨rfl, rfl, rfl⟩) (zHrs M) 0 (by omega))⟩
abbrev zR_X11_longestNotLookedAt : Room := { frames := 1, cells := 0, slots := 0, locals := 22 }
set_option maxRecDepth 20000 in
theorem zM_X11_longestNotLookedAt (l : Launch) : ab_Met l zw_C vwCl zZ_C yX11_longestNotLookedAt cX11_longestNotLookedAt 5 (some .int) zR_X11_longestNotLookedAt zt_X11_longestNotLookedAt := ab_ofRun (G := zg_X11_longestNotLookedAt) (P := zp_X11_longestNotLookedAt) rfl zo_X11_longestNotLookedAt (by decide +kernel) zl_cl zl_lamC zf_X11_ok zs_tabOK zc_X11_ok zs_X11_ok (List.forall_mem_cons.mpr ⟨ab_callV zZ_C_ok (zM_X10_lookedAt l) (ab_in 662 (by decide +kernel) rfl) (ab_in 707 (by decide +kernel) rfl) (ab_in 660 (by decide +kernel) rfl) (ab_in 661 (by decide +kernel) rfl) (ab_in 7 (by decide +kernel) rfl) (by unfold ab_yok; decide +kernel) ⟨rfl, rfl⟩ (by decide) zV_X10_lookedAt, List.forall_mem_nil _⟩) (List.forall_mem_cons.mpr ⟨ab_callMax (ab_in 720 (by decide +kernel) rfl) (ab_in 593 (by decide +kernel) rfl) (ab_in 18 (by decide +kernel) rfl) (ab_in 594 (by decide +kernel) rfl) (by decide) (by decide), List.forall_mem_nil _⟩) zE_X11_longestNotLookedAt
def zp_X11_rowRefused : ab_P := [(0, .aload_n 0, 1, [0], []),
  (1, .getfield 76, 4, [], []),
  (4, .iload_n 1, 5, [1], []),
  (5, .invokevirtual 278, 8, [], []),
  (8, .ifCond .ne 6, 11, [14], []),
  (11, .bipush (-2), 13, [], [(-2)]),
  (13, .ireturn, 14, [], []),
  (14, .aload_n 0, 15, [0], []),
  (15, .getfield 76, 18, [], []),
  (18, .getfield 279, 21, [], []),
  (21, .iload_n 1, 22, [1], []),
  (22, .iaload, 23, [], []),
  (23, .iconst (-1), 24, [], [(-1)]),
  (24, .if_icmp .ne 6, 27, [30], []),
  (27, .bipush (-11), 29, [], [(-11)]),
  (29, .ireturn, 30, [], []),
  (30, .aload_n 0, 31, [0], []),
  (31, .getfield 76, 34, [], []),
  (34, .getfield 282, 37, [], []),
  (37, .iload_n 1, 38, [1], []),
  (38, .iaload, 39, [], []),
  (39, .iload_n 2, 40, [2], []),
  (40, .if_icmp .eq 6, 43, [46], []),
  (43, .bipush (-2), 45, [], [(-2)]),
  (45, .ireturn, 46, [], []),
  (46, .iconst 0, 47, [], [0]),
  (47, .istore 4, 49, [], []),
  (49, .iload 4, 51, [], []),
  (51, .iload_n 2, 52, [2], []),
  (52, .if_icmp .ge 30, 55, [82], []),
  (55, .aload_n 0, 56, [0], []),
  (56, .getfield 76, 59, [], []),
  (59, .iload_n 1, 60, [1], []),
  (60, .iload 4, 62, [], []),
  (62, .invokevirtual 176, 65, [], []),
  (65, .iconst 0, 66, [], [0]),
  (66, .iload_n 3, 67, [3], []),
  (67, .invokestatic 117, 70, [], []),
  (70, .ifCond .ne 6, 73, [76], []),
  (73, .bipush (-2), 75, [], [(-2)]),
  (75, .ireturn, 76, [], []),
  (76, .iinc 4 1, 79, [], [1]),
  (79, .goto (-30), 82, [49], []),
  (82, .iconst 0, 83, [], [0]),
  (83, .ireturn, 84, [], [])]
theorem zo_X11_rowRefused : ab_ok cX11_rowRefused zp_X11_rowRefused = true := by decide +kernel
def zg_X11_rowRefused : ab_G := (zw_C, zs_tab, zf_X11, zc_X11, [(144, 50), (147, 51)], [(176, 3, zt_X7_at), (278, 2, zt_X7_has)], [(117, 3, zt_X11_within)])
theorem zm_X11_rowRefused : ab_MG zg_X11_rowRefused := ab_MGof (List.forall_mem_cons.mpr ⟨ab_pp_mono _, List.forall_mem_cons.mpr ⟨ab_pure_mono _, List.forall_mem_nil _⟩⟩) (List.forall_mem_cons.mpr ⟨ab_pure_mono _, List.forall_mem_nil _⟩)
abbrev zr_X11_rowRefused (Q : ab_R) : ab_K := ab_Run zg_X11_rowRefused zp_X11_rowRefused (some .int) 5 Q
set_option maxRecDepth 20000 in
theorem zv_X11_rowRefused_0 {Q : ab_R} {M : ab_M} {N : ab_N} (l1 : Int32) (l2 : Int32) (l3 : Int32) (h : ((ab_b (0 ≤ l1 ∧ l1 < 4)) = 0 → Q (some (.int (-2 : Int32))) M N) ∧ (¬ ((ab_b (0 ≤ l1 ∧ l1 < 4)) = 0) → vp_in l1 4 ∧ (((M 43 l1.toNatClampNeg) = (-1 : Int32) → Q (some (.int (-11 : Int32))) M N) ∧ (¬ ((M 43 l1.toNatClampNeg) = (-1 : Int32)) → vp_in l1 4 ∧ (((M 44 l1.toNatClampNeg) = l2 → zr_X11_rowRefused Q 49 [some (.ref 0), some (.int l1), some (.int l2), some (.int l3), some (.int (0 : Int32))] [] M N) ∧ (¬ ((M 44 l1.toNatClampNeg) = l2) → Q (some (.int (-2 : Int32))) M N)))))) : zr_X11_rowRefused Q 0 [some (.ref 0), some (.int l1), some (.int l2), some (.int l3)] [] M N := ab_Run_s zm_X11_rowRefused (sp := [(49, [true, true, true, true, true])]) 47 h
set_option maxRecDepth 20000 in
theorem zv_X11_rowRefused_49 {Q : ab_R} {M : ab_M} {N : ab_N} (l1 : Int32) (l2 : Int32) (l3 : Int32) (l4 : Int32) (h : (l2 ≤ l4 → Q (some (.int (0 : Int32))) M N) ∧ (¬ (l2 ≤ l4) → ((0 ≤ l1 ∧ l1 < 4 → (M 44) l1.toNatClampNeg ≤ 40)) ∧ (((ab_b ((0 : Int32) ≤ (if 0 ≤ l1 ∧ l1 < 4 ∧ 0 ≤ l4 ∧ l4 < (M 44) l1.toNatClampNeg then (M 45) (l1 * 40 + l4).toNatClampNeg else 0) ∧ (if 0 ≤ l1 ∧ l1 < 4 ∧ 0 ≤ l4 ∧ l4 < (M 44) l1.toNatClampNeg then (M 45) (l1 * 40 + l4).toNatClampNeg else 0) ≤ l3)) = 0 → Q (some (.int (-2 : Int32))) M N) ∧ (¬ ((ab_b ((0 : Int32) ≤ (if 0 ≤ l1 ∧ l1 < 4 ∧ 0 ≤ l4 ∧ l4 < (M 44) l1.toNatClampNeg then (M 45) (l1 * 40 + l4).toNatClampNeg else 0) ∧ (if 0 ≤ l1 ∧ l1 < 4 ∧ 0 ≤ l4 ∧ l4 < (M 44) l1.toNatClampNeg then (M 45) (l1 * 40 + l4).toNatClampNeg else 0) ≤ l3)) = 0) → zr_X11_rowRefused Q 49 [some (.ref 0), some (.int l1), some (.int l2), some (.int l3), some (.int (l4 + (1 : Int32)))] [] M N)))) : zr_X11_rowRefused Q 49 [some (.ref 0), some (.int l1), some (.int l2), some (.int l3), some (.int l4)] [] M N := ab_Run_s zm_X11_rowRefused (sp := [(49, [true, true, true, true, true])]) 47 h
theorem zL_X11_rowRefused {Q : ab_R} {M : ab_M} {N : ab_N} (q n : Nat) (mx r : Int32) (hq : q < 4) (hn : n ≤ 40) (h44 : M 44 q = nI n) (kk : Q (some (.int r)) M N) :
    ∀ (m i : Nat), i + m = n → (r = if zAllS (fun i => M 45 (q * 40 + i)) mx i m = true then 0 else -2) → zr_X11_rowRefused Q 49 [some (.ref 0), some (.int (nI q)), some (.int (nI n)), some (.int mx), some (.int (nI i))] [] M N := by
  intro m
  induction m with
  | zero =>
    intro i hi hr
    have ei : i = n := by omega
    subst ei
    have hr2 : r = 0 := hr.trans (if_pos rfl)
    subst hr2
    exact zv_X11_rowRefused_49 _ _ _ _ ⟨fun _ => kk, fun c => absurd (nI_le (by omega) (by omega)) c⟩
  | succ m ih =>
    intro i hi hr
    have e45 : (if 0 ≤ nI q ∧ nI q < 4 ∧ 0 ≤ nI i ∧ nI i < (M 44) (nI q).toNatClampNeg then (M 45) (nI q * 40 + nI i).toNatClampNeg else 0) = M 45 (q * 40 + i) := by
      rw [nI_clamp (show q < 2 ^ 31 by omega), h44, if_pos ⟨nI_pos' (by omega), nI_lt (a := q) (b := 4) hq (by omega), nI_pos' (by omega), nI_lt (by omega) (by omega)⟩, zN_mul q 40 40, nI_add, nI_clamp (by omega)]
    unfold zAllS at hr
    refine zv_X11_rowRefused_49 _ _ _ _ ⟨fun c => absurd c (nI_ge (by omega) (by omega)), fun _ => ⟨fun _ => ?_, ?_⟩⟩
    · rw [nI_clamp (show q < 2 ^ 31 by omega), h44]
      exact nI_le (a := n) (b := 40) hn (by omega)
    · rw [e45, nI_1]
      refine ⟨fun c => ?_, fun c => ?_⟩
      · have c2 := ab_b_0.mp c
        rw [decide_eq_false c2, if_neg (by simp)] at hr
        subst hr
        exact kk
      · have c2 := Decidable.not_not.mp (fun z => c (ab_b_0.mpr z))
        refine ih (i + 1) (by omega) ?_
        rw [decide_eq_true c2, Bool.true_and] at hr
        exact hr
theorem zE_X11_rowRefused (as : List Value) (M : ab_M) (N : ab_N) (k : ab_R) (hT : zt_X11_rowRefused as M N k) : ab_cs as ≤ 5 ∧ zr_X11_rowRefused k 0 (ab_en as) [] M N := by
  obtain ⟨s, n, mx, rfl, hS, hk⟩ := ab_m3_e hT
  have hk2 := hk _ _ _ ⟨rfl, rfl, rfl⟩
  unfold zRefused at hk2
  refine ⟨Nat.le_of_ble_eq_true rfl, zv_X11_rowRefused_0 _ _ _ ⟨fun c => ?_, fun c => ?_⟩⟩
  · rw [if_pos (ab_b_0.mp c)] at hk2
    exact hk2
  · have c2 := Decidable.not_not.mp (fun z => c (ab_b_0.mpr z))
    rw [if_neg (fun z => z c2)] at hk2
    obtain ⟨q, hq, rfl⟩ := nI_of (Int32.not_lt.mpr c2.1)
    have hq4 : q < 4 := (nI_ltI hq (by omega)).mp (show nI q < nI 4 from c2.2)
    obtain ⟨sz, hs1, hs2⟩ := hS q hq4
    rw [nI_clamp hq, hs2] at hk2
    refine ⟨nI_in_ (by omega), ?_⟩
    rw [nI_clamp hq, hs2]
    refine ⟨fun c3 => ?_, fun c3 => ⟨nI_in_ (by omega), fun c4 => ?_, fun c4 => ?_⟩⟩
    · rw [if_pos c3] at hk2
      exact hk2
    · rw [if_neg c3, if_neg (fun z => z c4)] at hk2
      subst c4
      rw [nI_clamp (by omega)] at hk2
      exact zL_X11_rowRefused q sz mx _ hq4 hs1 hs2 hk2 sz 0 (by omega) rfl
    · rw [if_neg c3, if_pos c4] at hk2
      exact hk2
abbrev zR_X11_rowRefused : Room := { frames := 3, cells := 0, slots := 0, locals := 65 }
set_option maxRecDepth 20000 in
theorem zM_X11_rowRefused (l : Launch) : ab_Met l zw_C vwCl zZ_C yX11_rowRefused cX11_rowRefused 5 (some .int) zR_X11_rowRefused zt_X11_rowRefused := ab_ofRun (G := zg_X11_rowRefused) (P := zp_X11_rowRefused) rfl zo_X11_rowRefused (by decide +kernel) zl_cl zl_lamC zf_X11_ok zs_tabOK zc_X11_ok zs_X11_ok (List.forall_mem_cons.mpr ⟨ab_callV zZ_C_ok (zM_X7_at l) (ab_in 625 (by decide +kernel) rfl) (ab_in 622 (by decide +kernel) rfl) (ab_in 623 (by decide +kernel) rfl) (ab_in 624 (by decide +kernel) rfl) (ab_in 10 (by decide +kernel) rfl) (by unfold ab_yok; decide +kernel) ⟨rfl, rfl⟩ (by decide) zV_X7_at, List.forall_mem_cons.mpr ⟨ab_callV zZ_C_ok (zM_X7_has l) (ab_in 621 (by decide +kernel) rfl) (ab_in 618 (by decide +kernel) rfl) (ab_in 619 (by decide +kernel) rfl) (ab_in 620 (by decide +kernel) rfl) (ab_in 10 (by decide +kernel) rfl) (by unfold ab_yok; decide +kernel) ⟨rfl, rfl⟩ (by decide) zV_X7_has, List.forall_mem_nil _⟩⟩) (List.forall_mem_cons.mpr ⟨ab_callS zZ_C_ok (zM_X11_within l) (ab_in 538 (by decide +kernel) rfl) (ab_in 536 (by decide +kernel) rfl) (ab_in 537 (by decide +kernel) rfl) (ab_in 1 (by decide +kernel) rfl) (by unfold ab_yok; decide +kernel) ⟨rfl, rfl⟩ (by decide), List.forall_mem_nil _⟩) zE_X11_rowRefused
def zp_X11_holedOften : ab_P := [(0, .iconst 0, 1, [], [0]),
  (1, .istore_n 2, 2, [2], []),
  (2, .iconst 0, 3, [], [0]),
  (3, .istore_n 3, 4, [3], []),
  (4, .iload_n 3, 5, [3], []),
  (5, .aload_n 0, 6, [0], []),
  (6, .getfield 10, 9, [], []),
  (9, .getfield 121, 12, [], []),
  (12, .if_icmp .ge 21, 15, [33], []),
  (15, .iload_n 2, 16, [2], []),
  (16, .aload_n 0, 17, [0], []),
  (17, .getfield 76, 20, [], []),
  (20, .iload_n 1, 21, [1], []),
  (21, .iload_n 3, 22, [3], []),
  (22, .invokevirtual 176, 25, [], []),
  (25, .iadd, 26, [], []),
  (26, .istore_n 2, 27, [2], []),
  (27, .iinc 3 1, 30, [], [1]),
  (30, .goto (-26), 33, [4], []),
  (33, .iconst 0, 34, [], [0]),
  (34, .istore_n 3, 35, [3], []),
  (35, .iconst 0, 36, [], [0]),
  (36, .istore 4, 38, [], []),
  (38, .iload 4, 40, [], []),
  (40, .aload_n 0, 41, [0], []),
  (41, .getfield 10, 44, [], []),
  (44, .getfield 121, 47, [], []),
  (47, .if_icmp .ge 44, 50, [91], []),
  (50, .iload_n 3, 51, [3], []),
  (51, .aload_n 0, 52, [0], []),
  (52, .getfield 76, 55, [], []),
  (55, .iload_n 1, 56, [1], []),
  (56, .iload 4, 58, [], []),
  (58, .invokevirtual 176, 61, [], []),
  (61, .aload_n 0, 62, [0], []),
  (62, .getfield 10, 65, [], []),
  (65, .getfield 121, 68, [], []),
  (68, .imul, 69, [], []),
  (69, .iconst 2, 70, [], [2]),
  (70, .iload_n 2, 71, [2], []),
  (71, .imul, 72, [], []),
  (72, .if_icmp .le 10, 75, [82], []),
  (75, .iconst 1, 76, [], [1]),
  (76, .iload 4, 78, [], []),
  (78, .ishl, 79, [], []),
  (79, .goto 4, 82, [83], []),
  (82, .iconst 0, 83, [], [0]),
  (83, .ior, 84, [], []),
  (84, .istore_n 3, 85, [3], []),
  (85, .iinc 4 1, 88, [], [1]),
  (88, .goto (-50), 91, [38], []),
  (91, .iload_n 3, 92, [3], []),
  (92, .ireturn, 93, [], [])]
theorem zo_X11_holedOften : ab_ok cX11_holedOften zp_X11_holedOften = true := by decide +kernel
def zg_X11_holedOften : ab_G := (zw_C, zs_tab, zf_X11, zc_X11, [(144, 50), (147, 51)], [(176, 3, zt_X7_at)], [])
theorem zm_X11_holedOften : ab_MG zg_X11_holedOften := ab_MGof (List.forall_mem_cons.mpr ⟨ab_pp_mono _, List.forall_mem_nil _⟩) (List.forall_mem_nil _)
abbrev zr_X11_holedOften (Q : ab_R) : ab_K := ab_Run zg_X11_holedOften zp_X11_holedOften (some .int) 5 Q
set_option maxRecDepth 20000 in
theorem zv_X11_holedOften_0 {Q : ab_R} {M : ab_M} {N : ab_N} (l1 : Int32) (h : zr_X11_holedOften Q 4 [some (.ref 0), some (.int l1), some (.int (0 : Int32)), some (.int (0 : Int32)), none] [] M N) : zr_X11_holedOften Q 0 [some (.ref 0), some (.int l1)] [] M N := ab_Run_s zm_X11_holedOften (sp := [(4, [true, true, true, true, false]), (38, [true, true, true, true, true])]) 55 h
set_option maxRecDepth 20000 in
theorem zv_X11_holedOften_4 {Q : ab_R} {M : ab_M} {N : ab_N} (l1 : Int32) (l2 : Int32) (l3 : Int32) (h : ((M 1 4) ≤ l3 → zr_X11_holedOften Q 38 [some (.ref 0), some (.int l1), some (.int l2), some (.int (0 : Int32)), some (.int (0 : Int32))] [] M N) ∧ (¬ ((M 1 4) ≤ l3) → ((0 ≤ l1 ∧ l1 < 4 → (M 44) l1.toNatClampNeg ≤ 40)) ∧ (zr_X11_holedOften Q 4 [some (.ref 0), some (.int l1), some (.int (l2 + (if 0 ≤ l1 ∧ l1 < 4 ∧ 0 ≤ l3 ∧ l3 < (M 44) l1.toNatClampNeg then (M 45) (l1 * 40 + l3).toNatClampNeg else 0))), some (.int (l3 + (1 : Int32))), none] [] M N))) : zr_X11_holedOften Q 4 [some (.ref 0), some (.int l1), some (.int l2), some (.int l3), none] [] M N := ab_Run_s zm_X11_holedOften (sp := [(4, [true, true, true, true, false]), (38, [true, true, true, true, true])]) 55 h
set_option maxRecDepth 20000 in
theorem zv_X11_holedOften_38 {Q : ab_R} {M : ab_M} {N : ab_N} (l1 : Int32) (l2 : Int32) (l3 : Int32) (l4 : Int32) (h : ((M 1 4) ≤ l4 → Q (some (.int l3)) M N) ∧ (¬ ((M 1 4) ≤ l4) → ((0 ≤ l1 ∧ l1 < 4 → (M 44) l1.toNatClampNeg ≤ 40)) ∧ ((((if 0 ≤ l1 ∧ l1 < 4 ∧ 0 ≤ l4 ∧ l4 < (M 44) l1.toNatClampNeg then (M 45) (l1 * 40 + l4).toNatClampNeg else 0) * (M 1 4)) ≤ ((2 : Int32) * l2) → zr_X11_holedOften Q 38 [some (.ref 0), some (.int l1), some (.int l2), some (.int (l3 ||| (0 : Int32))), some (.int (l4 + (1 : Int32)))] [] M N) ∧ (¬ (((if 0 ≤ l1 ∧ l1 < 4 ∧ 0 ≤ l4 ∧ l4 < (M 44) l1.toNatClampNeg then (M 45) (l1 * 40 + l4).toNatClampNeg else 0) * (M 1 4)) ≤ ((2 : Int32) * l2)) → zr_X11_holedOften Q 38 [some (.ref 0), some (.int l1), some (.int l2), some (.int (l3 ||| ((1 : Int32) <<< (l4 &&& 31)))), some (.int (l4 + (1 : Int32)))] [] M N)))) : zr_X11_holedOften Q 38 [some (.ref 0), some (.int l1), some (.int l2), some (.int l3), some (.int l4)] [] M N := ab_Run_s zm_X11_holedOften (sp := [(4, [true, true, true, true, false]), (38, [true, true, true, true, true])]) 55 h
theorem zE_X11_holedOften (as : List Value) (M : ab_M) (N : ab_N) (k : ab_R) (hT : zt_X11_holedOften as M N k) : ab_cs as ≤ 5 ∧ zr_X11_holedOften k 0 (ab_en as) [] M N := by
  obtain ⟨s, rfl, ⟨h0, q, hq, rfl, h44⟩, hk⟩ := ab_m1_e hT
  obtain ⟨hP, hP8⟩ := zP_eq h0
  have hk2 := hk _ _ _ ⟨rfl, rfl, rfl⟩
  rw [nI_clamp (show q < 2 ^ 31 by omega)] at hk2
  have e45 : ∀ i, i < zPcs M → (if 0 ≤ nI q ∧ nI q < 4 ∧ 0 ≤ nI i ∧ nI i < (M 44) (nI q).toNatClampNeg then (M 45) (nI q * 40 + nI i).toNatClampNeg else 0) = M 45 (q * 40 + i) := by
    intro i hi
    rw [nI_clamp (show q < 2 ^ 31 by omega), h44, hP, if_pos ⟨nI_pos' (by omega), nI_lt (a := q) (b := 4) hq (by omega), nI_pos' (by omega), nI_lt (by omega) (by omega)⟩, zN_mul q 40 40, nI_add, nI_clamp (by omega)]
  have hs : (0 ≤ nI q ∧ nI q < 4 → (M 44) (nI q).toNatClampNeg ≤ 40) := fun _ => by
    rw [nI_clamp (show q < 2 ^ 31 by omega), h44, hP]
    exact nI_le (a := zPcs M) (b := 40) (by omega) (by omega)
  refine ⟨Nat.le_of_ble_eq_true rfl, zv_X11_holedOften_0 _ ?_⟩
  have l2 : ∀ (n i : Nat), i + n = zPcs M → zr_X11_holedOften k 38 [some (.ref 0), some (.int (nI q)), some (.int (zSumS M q (zPcs M))), some (.int (zHoled M q i)), some (.int (nI i))] [] M N := by
    intro n
    induction n with
    | zero =>
      intro i hi
      have ei : i = zPcs M := by omega
      subst ei
      refine zv_X11_holedOften_38 _ _ _ _ ⟨fun _ => hk2, fun c => absurd ?_ c⟩
      rw [hP]
      exact nI_le (by omega) (by omega)
    | succ n ih =>
      intro i hi
      have h1 := ih (i + 1) (by omega)
      unfold zHoled at h1
      refine zv_X11_holedOften_38 _ _ _ _ ⟨fun c => ?_, fun _ => ⟨hs, ?_⟩⟩
      · rw [hP] at c
        exact absurd c (nI_ge (by omega) (by omega))
      · rw [e45 i (by omega), nI_1]
        refine ⟨fun c => ?_, fun c => ?_⟩
        · rw [if_pos c] at h1
          exact h1
        · rw [if_neg c] at h1
          exact h1
  have l1 : ∀ (n i : Nat), i + n = zPcs M → zr_X11_holedOften k 4 [some (.ref 0), some (.int (nI q)), some (.int (zSumS M q i)), some (.int (nI i)), none] [] M N := by
    intro n
    induction n with
    | zero =>
      intro i hi
      have ei : i = zPcs M := by omega
      subst ei
      refine zv_X11_holedOften_4 _ _ _ ⟨fun _ => l2 (zPcs M) 0 (by omega), fun c => absurd ?_ c⟩
      rw [hP]
      exact nI_le (by omega) (by omega)
    | succ n ih =>
      intro i hi
      refine zv_X11_holedOften_4 _ _ _ ⟨fun c => ?_, fun _ => ⟨hs, ?_⟩⟩
      · rw [hP] at c
        exact absurd c (nI_ge (by omega) (by omega))
      · rw [e45 i (by omega), nI_1]
        exact ih (i + 1) (by omega)
  exact l1 (zPcs M) 0 (by omega)
abbrev zR_X11_holedOften : Room := { frames := 3, cells := 0, slots := 0, locals := 65 }
set_option maxRecDepth 20000 in
theorem zM_X11_holedOften (l : Launch) : ab_Met l zw_C vwCl zZ_C yX11_holedOften cX11_holedOften 5 (some .int) zR_X11_holedOften zt_X11_holedOften := ab_ofRun (G := zg_X11_holedOften) (P := zp_X11_holedOften) rfl zo_X11_holedOften (by decide +kernel) zl_cl zl_lamC zf_X11_ok zs_tabOK zc_X11_ok zs_X11_ok (List.forall_mem_cons.mpr ⟨ab_callV zZ_C_ok (zM_X7_at l) (ab_in 625 (by decide +kernel) rfl) (ab_in 622 (by decide +kernel) rfl) (ab_in 623 (by decide +kernel) rfl) (ab_in 624 (by decide +kernel) rfl) (ab_in 10 (by decide +kernel) rfl) (by unfold ab_yok; decide +kernel) ⟨rfl, rfl⟩ (by decide) zV_X7_at, List.forall_mem_nil _⟩) (List.forall_mem_nil _) zE_X11_holedOften
