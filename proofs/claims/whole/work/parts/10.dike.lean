/-! Dike, Men, Sheets: small methods *)
-/
def zt_X2_has : ab_T := ab_pure (fun as M N => match as with
  | [.ref r1, .int p] => (match Nat.beq r1 1 with | true => some (.int (ab_b (0 ≤ p ∧ p < (M 1) 4 ∧ p < 8))) | false => none)
  | _ => none)
theorem zI_X2_has {as : List Value} {M : ab_M} {N : ab_N} {k : ab_R} (hk : zt_X2_has as M N k) : ∃ (p : Int32), as = [.ref 1, .int p] ∧ k (some (.int (ab_b (0 ≤ p ∧ p < (M 1) 4 ∧ p < 8)))) M N := by
  unfold zt_X2_has ab_pure at hk
  dsimp only at hk
  split at hk
  · rename_i v hv
    split at hv
    · split at hv
      · rename_i hb0
        cases hv
        rw [Nat.eq_of_beq_eq_true hb0]
        exact ⟨_, rfl, hk⟩
      · cases hv
    · cases hv
  · exact hk.elim
def zp_X2_has : ab_P := [(0, .iload_n 1, 1, [1], []),
  (1, .ifCond .lt 21, 4, [22], []),
  (4, .iload_n 1, 5, [1], []),
  (5, .aload_n 0, 6, [0], []),
  (6, .getfield 24, 9, [], []),
  (9, .if_icmp .ge 13, 12, [22], []),
  (12, .iload_n 1, 13, [1], []),
  (13, .bipush 8, 15, [], [8]),
  (15, .if_icmp .ge 7, 18, [22], []),
  (18, .iconst 1, 19, [], [1]),
  (19, .goto 4, 22, [23], []),
  (22, .iconst 0, 23, [], [0]),
  (23, .ireturn, 24, [], [])]
theorem zo_X2_has : ab_ok cX2_has zp_X2_has = true := by decide +kernel
def zg_X2_has : ab_G := (zw_C, zs_tab, zf_X2, [], [], [], [])
theorem zm_X2_has : ab_MG zg_X2_has := ab_MGof (List.forall_mem_nil _) (List.forall_mem_nil _)
abbrev zr_X2_has (Q : ab_R) : ab_K := ab_Run zg_X2_has zp_X2_has (some .boolean) 2 Q
set_option maxRecDepth 20000 in
theorem zv_X2_has_0 {Q : ab_R} {M : ab_M} {N : ab_N} (l1 : Int32) (h : (l1 < 0 → narrow .boolean (.int (0 : Int32)) = .int (0 : Int32) ∧ Q (some (.int (0 : Int32))) M N) ∧ (¬ (l1 < 0) → ((M 1 4) ≤ l1 → narrow .boolean (.int (0 : Int32)) = .int (0 : Int32) ∧ Q (some (.int (0 : Int32))) M N) ∧ (¬ ((M 1 4) ≤ l1) → ((8 : Int32) ≤ l1 → narrow .boolean (.int (0 : Int32)) = .int (0 : Int32) ∧ Q (some (.int (0 : Int32))) M N) ∧ (¬ ((8 : Int32) ≤ l1) → narrow .boolean (.int (1 : Int32)) = .int (1 : Int32) ∧ Q (some (.int (1 : Int32))) M N)))) : zr_X2_has Q 0 [some (.ref 1), some (.int l1)] [] M N := ab_Run_s zm_X2_has (sp := []) 15 h
theorem zH_X2_has (p : Int32) {M : ab_M} {N : ab_N} {k : ab_R} (hk : k (some (.int (ab_b (0 ≤ p ∧ p < (M 1) 4 ∧ p < 8)))) M N) : zr_X2_has k 0 [some (.ref 1), some (.int p)] [] M N := by
  refine zv_X2_has_0 _ ?_
  (repeat' first | exact ab_vpk (by decide) | exact hp | refine And.intro ?_ ?_ | intro _)
  all_goals first | rfl | exact ab_b_n | (refine ab_qi hk ?_; (try unfold ab_b at *); grind) | grind
abbrev zR_X2_has : Room := { frames := 0, cells := 0, slots := 0, locals := 0 }
theorem zV_X2_has : ab_recv zw_C vwCl RX2 zt_X2_has := fun as M N k h => by
  obtain ⟨_, rfl, -⟩ := zI_X2_has h
  exact ⟨_, _, _, _, _, _, rfl, rfl, rfl⟩
theorem zE_X2_has (as : List Value) (M : ab_M) (N : ab_N) (k : ab_R) (hk : zt_X2_has as M N k) : ab_cs as ≤ 2 ∧ zr_X2_has k 0 (ab_en as) [] M N := by
  obtain ⟨p, rfl, hk2⟩ := zI_X2_has hk
  exact ⟨Nat.le_of_ble_eq_true rfl, zH_X2_has p hk2⟩
set_option maxRecDepth 20000 in
theorem zM_X2_has (l : Launch) : ab_Met l zw_C vwCl zZ_C yX2_has cX2_has 2 (some .boolean) zR_X2_has zt_X2_has := ab_ofRun (G := zg_X2_has) (P := zp_X2_has) rfl zo_X2_has (by decide +kernel) zl_cl zl_lamC zf_X2_ok zs_tabOK ab_Cst_nil ab_Sta_nil (List.forall_mem_nil _) (List.forall_mem_nil _) zE_X2_has
def zt_X5_has : ab_T := ab_pure (fun as M N => match as with
  | [.ref r1, .int p] => (match Nat.beq r1 2 with | true => some (.int (ab_b (0 ≤ p ∧ p < (M 2) 6 ∧ p < 5))) | false => none)
  | _ => none)
theorem zI_X5_has {as : List Value} {M : ab_M} {N : ab_N} {k : ab_R} (hk : zt_X5_has as M N k) : ∃ (p : Int32), as = [.ref 2, .int p] ∧ k (some (.int (ab_b (0 ≤ p ∧ p < (M 2) 6 ∧ p < 5)))) M N := by
  unfold zt_X5_has ab_pure at hk
  dsimp only at hk
  split at hk
  · rename_i v hv
    split at hv
    · split at hv
      · rename_i hb0
        cases hv
        rw [Nat.eq_of_beq_eq_true hb0]
        exact ⟨_, rfl, hk⟩
      · cases hv
    · cases hv
  · exact hk.elim
def zp_X5_has : ab_P := [(0, .iload_n 1, 1, [1], []),
  (1, .ifCond .lt 20, 4, [21], []),
  (4, .iload_n 1, 5, [1], []),
  (5, .aload_n 0, 6, [0], []),
  (6, .getfield 30, 9, [], []),
  (9, .if_icmp .ge 12, 12, [21], []),
  (12, .iload_n 1, 13, [1], []),
  (13, .iconst 5, 14, [], [5]),
  (14, .if_icmp .ge 7, 17, [21], []),
  (17, .iconst 1, 18, [], [1]),
  (18, .goto 4, 21, [22], []),
  (21, .iconst 0, 22, [], [0]),
  (22, .ireturn, 23, [], [])]
theorem zo_X5_has : ab_ok cX5_has zp_X5_has = true := by decide +kernel
def zg_X5_has : ab_G := (zw_C, zs_tab, zf_X5, [], [], [], [])
theorem zm_X5_has : ab_MG zg_X5_has := ab_MGof (List.forall_mem_nil _) (List.forall_mem_nil _)
abbrev zr_X5_has (Q : ab_R) : ab_K := ab_Run zg_X5_has zp_X5_has (some .boolean) 2 Q
set_option maxRecDepth 20000 in
theorem zv_X5_has_0 {Q : ab_R} {M : ab_M} {N : ab_N} (l1 : Int32) (h : (l1 < 0 → narrow .boolean (.int (0 : Int32)) = .int (0 : Int32) ∧ Q (some (.int (0 : Int32))) M N) ∧ (¬ (l1 < 0) → ((M 2 6) ≤ l1 → narrow .boolean (.int (0 : Int32)) = .int (0 : Int32) ∧ Q (some (.int (0 : Int32))) M N) ∧ (¬ ((M 2 6) ≤ l1) → ((5 : Int32) ≤ l1 → narrow .boolean (.int (0 : Int32)) = .int (0 : Int32) ∧ Q (some (.int (0 : Int32))) M N) ∧ (¬ ((5 : Int32) ≤ l1) → narrow .boolean (.int (1 : Int32)) = .int (1 : Int32) ∧ Q (some (.int (1 : Int32))) M N)))) : zr_X5_has Q 0 [some (.ref 2), some (.int l1)] [] M N := ab_Run_s zm_X5_has (sp := []) 15 h
theorem zH_X5_has (p : Int32) {M : ab_M} {N : ab_N} {k : ab_R} (hk : k (some (.int (ab_b (0 ≤ p ∧ p < (M 2) 6 ∧ p < 5)))) M N) : zr_X5_has k 0 [some (.ref 2), some (.int p)] [] M N := by
  refine zv_X5_has_0 _ ?_
  (repeat' first | exact ab_vpk (by decide) | exact hp | refine And.intro ?_ ?_ | intro _)
  all_goals first | rfl | exact ab_b_n | (refine ab_qi hk ?_; (try unfold ab_b at *); grind) | grind
abbrev zR_X5_has : Room := { frames := 0, cells := 0, slots := 0, locals := 0 }
theorem zV_X5_has : ab_recv zw_C vwCl RX5 zt_X5_has := fun as M N k h => by
  obtain ⟨_, rfl, -⟩ := zI_X5_has h
  exact ⟨_, _, _, _, _, _, rfl, rfl, rfl⟩
theorem zE_X5_has (as : List Value) (M : ab_M) (N : ab_N) (k : ab_R) (hk : zt_X5_has as M N k) : ab_cs as ≤ 2 ∧ zr_X5_has k 0 (ab_en as) [] M N := by
  obtain ⟨p, rfl, hk2⟩ := zI_X5_has hk
  exact ⟨Nat.le_of_ble_eq_true rfl, zH_X5_has p hk2⟩
set_option maxRecDepth 20000 in
theorem zM_X5_has (l : Launch) : ab_Met l zw_C vwCl zZ_C yX5_has cX5_has 2 (some .boolean) zR_X5_has zt_X5_has := ab_ofRun (G := zg_X5_has) (P := zp_X5_has) rfl zo_X5_has (by decide +kernel) zl_cl zl_lamC zf_X5_ok zs_tabOK ab_Cst_nil ab_Sta_nil (List.forall_mem_nil _) (List.forall_mem_nil _) zE_X5_has
def zt_X2_hasHour : ab_T := ab_pure (fun as M N => match as with
  | [.ref r1, .int h] => (match Nat.beq r1 1 with | true => some (.int (ab_b (0 ≤ h ∧ h < (M 17) 0 ∧ h < 12))) | false => none)
  | _ => none)
theorem zI_X2_hasHour {as : List Value} {M : ab_M} {N : ab_N} {k : ab_R} (hk : zt_X2_hasHour as M N k) : ∃ (h : Int32), as = [.ref 1, .int h] ∧ k (some (.int (ab_b (0 ≤ h ∧ h < (M 17) 0 ∧ h < 12)))) M N := by
  unfold zt_X2_hasHour ab_pure at hk
  dsimp only at hk
  split at hk
  · rename_i v hv
    split at hv
    · split at hv
      · rename_i hb0
        cases hv
        rw [Nat.eq_of_beq_eq_true hb0]
        exact ⟨_, rfl, hk⟩
      · cases hv
    · cases hv
  · exact hk.elim
def zp_X2_hasHour : ab_P := [(0, .iload_n 1, 1, [1], []),
  (1, .ifCond .lt 23, 4, [24], []),
  (4, .iload_n 1, 5, [1], []),
  (5, .aload_n 0, 6, [0], []),
  (6, .getfield 28, 9, [], []),
  (9, .iconst 0, 10, [], [0]),
  (10, .iaload, 11, [], []),
  (11, .if_icmp .ge 13, 14, [24], []),
  (14, .iload_n 1, 15, [1], []),
  (15, .bipush 12, 17, [], [12]),
  (17, .if_icmp .ge 7, 20, [24], []),
  (20, .iconst 1, 21, [], [1]),
  (21, .goto 4, 24, [25], []),
  (24, .iconst 0, 25, [], [0]),
  (25, .ireturn, 26, [], [])]
theorem zo_X2_hasHour : ab_ok cX2_hasHour zp_X2_hasHour = true := by decide +kernel
def zg_X2_hasHour : ab_G := (zw_C, zs_tab, zf_X2, [], [], [], [])
theorem zm_X2_hasHour : ab_MG zg_X2_hasHour := ab_MGof (List.forall_mem_nil _) (List.forall_mem_nil _)
abbrev zr_X2_hasHour (Q : ab_R) : ab_K := ab_Run zg_X2_hasHour zp_X2_hasHour (some .boolean) 2 Q
set_option maxRecDepth 20000 in
theorem zv_X2_hasHour_0 {Q : ab_R} {M : ab_M} {N : ab_N} (l1 : Int32) (h : (l1 < 0 → narrow .boolean (.int (0 : Int32)) = .int (0 : Int32) ∧ Q (some (.int (0 : Int32))) M N) ∧ (¬ (l1 < 0) → vp_in (0 : Int32) 5 ∧ (((M 17 0) ≤ l1 → narrow .boolean (.int (0 : Int32)) = .int (0 : Int32) ∧ Q (some (.int (0 : Int32))) M N) ∧ (¬ ((M 17 0) ≤ l1) → ((12 : Int32) ≤ l1 → narrow .boolean (.int (0 : Int32)) = .int (0 : Int32) ∧ Q (some (.int (0 : Int32))) M N) ∧ (¬ ((12 : Int32) ≤ l1) → narrow .boolean (.int (1 : Int32)) = .int (1 : Int32) ∧ Q (some (.int (1 : Int32))) M N))))) : zr_X2_hasHour Q 0 [some (.ref 1), some (.int l1)] [] M N := ab_Run_s zm_X2_hasHour (sp := []) 17 h
theorem zH_X2_hasHour (h : Int32) {M : ab_M} {N : ab_N} {k : ab_R} (hk : k (some (.int (ab_b (0 ≤ h ∧ h < (M 17) 0 ∧ h < 12)))) M N) : zr_X2_hasHour k 0 [some (.ref 1), some (.int h)] [] M N := by
  refine zv_X2_hasHour_0 _ ?_
  (repeat' first | exact ab_vpk (by decide) | exact hp | refine And.intro ?_ ?_ | intro _)
  all_goals first | rfl | exact ab_b_n | (refine ab_qi hk ?_; (try unfold ab_b at *); grind) | grind
abbrev zR_X2_hasHour : Room := { frames := 0, cells := 0, slots := 0, locals := 0 }
theorem zV_X2_hasHour : ab_recv zw_C vwCl RX2 zt_X2_hasHour := fun as M N k h => by
  obtain ⟨_, rfl, -⟩ := zI_X2_hasHour h
  exact ⟨_, _, _, _, _, _, rfl, rfl, rfl⟩
theorem zE_X2_hasHour (as : List Value) (M : ab_M) (N : ab_N) (k : ab_R) (hk : zt_X2_hasHour as M N k) : ab_cs as ≤ 2 ∧ zr_X2_hasHour k 0 (ab_en as) [] M N := by
  obtain ⟨h, rfl, hk2⟩ := zI_X2_hasHour hk
  exact ⟨Nat.le_of_ble_eq_true rfl, zH_X2_hasHour h hk2⟩
set_option maxRecDepth 20000 in
theorem zM_X2_hasHour (l : Launch) : ab_Met l zw_C vwCl zZ_C yX2_hasHour cX2_hasHour 2 (some .boolean) zR_X2_hasHour zt_X2_hasHour := ab_ofRun (G := zg_X2_hasHour) (P := zp_X2_hasHour) rfl zo_X2_hasHour (by decide +kernel) zl_cl zl_lamC zf_X2_ok zs_tabOK ab_Cst_nil ab_Sta_nil (List.forall_mem_nil _) (List.forall_mem_nil _) zE_X2_hasHour
def zt_X7_has : ab_T := ab_pure (fun as M N => match as with
  | [.ref r1, .int s] => (match Nat.beq r1 9 with | true => some (.int (ab_b (0 ≤ s ∧ s < 4))) | false => none)
  | _ => none)
theorem zI_X7_has {as : List Value} {M : ab_M} {N : ab_N} {k : ab_R} (hk : zt_X7_has as M N k) : ∃ (s : Int32), as = [.ref 9, .int s] ∧ k (some (.int (ab_b (0 ≤ s ∧ s < 4)))) M N := by
  unfold zt_X7_has ab_pure at hk
  dsimp only at hk
  split at hk
  · rename_i v hv
    split at hv
    · split at hv
      · rename_i hb0
        cases hv
        rw [Nat.eq_of_beq_eq_true hb0]
        exact ⟨_, rfl, hk⟩
      · cases hv
    · cases hv
  · exact hk.elim
def zp_X7_has : ab_P := [(0, .iload_n 1, 1, [1], []),
  (1, .ifCond .lt 12, 4, [13], []),
  (4, .iload_n 1, 5, [1], []),
  (5, .iconst 4, 6, [], [4]),
  (6, .if_icmp .ge 7, 9, [13], []),
  (9, .iconst 1, 10, [], [1]),
  (10, .goto 4, 13, [14], []),
  (13, .iconst 0, 14, [], [0]),
  (14, .ireturn, 15, [], [])]
theorem zo_X7_has : ab_ok cX7_has zp_X7_has = true := by decide +kernel
def zg_X7_has : ab_G := (zw_C, zs_tab, zf_X7, [], [], [], [])
theorem zm_X7_has : ab_MG zg_X7_has := ab_MGof (List.forall_mem_nil _) (List.forall_mem_nil _)
abbrev zr_X7_has (Q : ab_R) : ab_K := ab_Run zg_X7_has zp_X7_has (some .boolean) 2 Q
set_option maxRecDepth 20000 in
theorem zv_X7_has_0 {Q : ab_R} {M : ab_M} {N : ab_N} (l1 : Int32) (h : (l1 < 0 → narrow .boolean (.int (0 : Int32)) = .int (0 : Int32) ∧ Q (some (.int (0 : Int32))) M N) ∧ (¬ (l1 < 0) → ((4 : Int32) ≤ l1 → narrow .boolean (.int (0 : Int32)) = .int (0 : Int32) ∧ Q (some (.int (0 : Int32))) M N) ∧ (¬ ((4 : Int32) ≤ l1) → narrow .boolean (.int (1 : Int32)) = .int (1 : Int32) ∧ Q (some (.int (1 : Int32))) M N))) : zr_X7_has Q 0 [some (.ref 9), some (.int l1)] [] M N := ab_Run_s zm_X7_has (sp := []) 11 h
theorem zH_X7_has (s : Int32) {M : ab_M} {N : ab_N} {k : ab_R} (hk : k (some (.int (ab_b (0 ≤ s ∧ s < 4)))) M N) : zr_X7_has k 0 [some (.ref 9), some (.int s)] [] M N := by
  refine zv_X7_has_0 _ ?_
  (repeat' first | exact ab_vpk (by decide) | exact hp | refine And.intro ?_ ?_ | intro _)
  all_goals first | rfl | exact ab_b_n | (refine ab_qi hk ?_; (try unfold ab_b at *); grind) | grind
abbrev zR_X7_has : Room := { frames := 0, cells := 0, slots := 0, locals := 0 }
theorem zV_X7_has : ab_recv zw_C vwCl RX7 zt_X7_has := fun as M N k h => by
  obtain ⟨_, rfl, -⟩ := zI_X7_has h
  exact ⟨_, _, _, _, _, _, rfl, rfl, rfl⟩
theorem zE_X7_has (as : List Value) (M : ab_M) (N : ab_N) (k : ab_R) (hk : zt_X7_has as M N k) : ab_cs as ≤ 2 ∧ zr_X7_has k 0 (ab_en as) [] M N := by
  obtain ⟨s, rfl, hk2⟩ := zI_X7_has hk
  exact ⟨Nat.le_of_ble_eq_true rfl, zH_X7_has s hk2⟩
set_option maxRecDepth 20000 in
theorem zM_X7_has (l : Launch) : ab_Met l zw_C vwCl zZ_C yX7_has cX7_has 2 (some .boolean) zR_X7_has zt_X7_has := ab_ofRun (G := zg_X7_has) (P := zp_X7_has) rfl zo_X7_has (by decide +kernel) zl_cl zl_lamC zf_X7_ok zs_tabOK ab_Cst_nil ab_Sta_nil (List.forall_mem_nil _) (List.forall_mem_nil _) zE_X7_has
def zt_X11_within : ab_T := ab_pure (fun as M N => match as with
  | [.int v, .int a, .int b] => some (.int (ab_b (a ≤ v ∧ v ≤ b)))
  | _ => none)
theorem zI_X11_within {as : List Value} {M : ab_M} {N : ab_N} {k : ab_R} (hk : zt_X11_within as M N k) : ∃ (v : Int32) (a : Int32) (b : Int32), as = [.int v, .int a, .int b] ∧ k (some (.int (ab_b (a ≤ v ∧ v ≤ b)))) M N := by
  unfold zt_X11_within ab_pure at hk
  dsimp only at hk
  split at hk
  · rename_i v hv
    split at hv
    · cases hv
      exact ⟨_, _, _, rfl, hk⟩
    · cases hv
  · exact hk.elim
def zp_X11_within : ab_P := [(0, .iload_n 0, 1, [0], []),
  (1, .iload_n 1, 2, [1], []),
  (2, .if_icmp .lt 12, 5, [14], []),
  (5, .iload_n 0, 6, [0], []),
  (6, .iload_n 2, 7, [2], []),
  (7, .if_icmp .gt 7, 10, [14], []),
  (10, .iconst 1, 11, [], [1]),
  (11, .goto 4, 14, [15], []),
  (14, .iconst 0, 15, [], [0]),
  (15, .ireturn, 16, [], [])]
theorem zo_X11_within : ab_ok cX11_within zp_X11_within = true := by decide +kernel
def zg_X11_within : ab_G := (zw_C, zs_tab, zf_X11, zc_X11, [(144, 50), (147, 51)], [], [])
theorem zm_X11_within : ab_MG zg_X11_within := ab_MGof (List.forall_mem_nil _) (List.forall_mem_nil _)
abbrev zr_X11_within (Q : ab_R) : ab_K := ab_Run zg_X11_within zp_X11_within (some .boolean) 3 Q
set_option maxRecDepth 20000 in
theorem zv_X11_within_0 {Q : ab_R} {M : ab_M} {N : ab_N} (l0 : Int32) (l1 : Int32) (l2 : Int32) (h : (l0 < l1 → narrow .boolean (.int (0 : Int32)) = .int (0 : Int32) ∧ Q (some (.int (0 : Int32))) M N) ∧ (¬ (l0 < l1) → (l2 < l0 → narrow .boolean (.int (0 : Int32)) = .int (0 : Int32) ∧ Q (some (.int (0 : Int32))) M N) ∧ (¬ (l2 < l0) → narrow .boolean (.int (1 : Int32)) = .int (1 : Int32) ∧ Q (some (.int (1 : Int32))) M N))) : zr_X11_within Q 0 [some (.int l0), some (.int l1), some (.int l2)] [] M N := ab_Run_s zm_X11_within (sp := []) 12 h
theorem zH_X11_within (v : Int32) (a : Int32) (b : Int32) {M : ab_M} {N : ab_N} {k : ab_R} (hk : k (some (.int (ab_b (a ≤ v ∧ v ≤ b)))) M N) : zr_X11_within k 0 [some (.int v), some (.int a), some (.int b)] [] M N := by
  refine zv_X11_within_0 _ _ _ ?_
  (repeat' first | exact ab_vpk (by decide) | exact hp | refine And.intro ?_ ?_ | intro _)
  all_goals first | rfl | exact ab_b_n | (refine ab_qi hk ?_; (try unfold ab_b at *); grind) | grind
abbrev zR_X11_within : Room := { frames := 0, cells := 0, slots := 0, locals := 0 }
theorem zE_X11_within (as : List Value) (M : ab_M) (N : ab_N) (k : ab_R) (hk : zt_X11_within as M N k) : ab_cs as ≤ 3 ∧ zr_X11_within k 0 (ab_en as) [] M N := by
  obtain ⟨v, a, b, rfl, hk2⟩ := zI_X11_within hk
  exact ⟨Nat.le_of_ble_eq_true rfl, zH_X11_within v a b hk2⟩
set_option maxRecDepth 20000 in
theorem zM_X11_within (l : Launch) : ab_Met l zw_C vwCl zZ_C yX11_within cX11_within 3 (some .boolean) zR_X11_within zt_X11_within := ab_ofRun (G := zg_X11_within) (P := zp_X11_within) rfl zo_X11_within (by decide +kernel) zl_cl zl_lamC zf_X11_ok zs_tabOK zc_X11_ok zs_X11_ok (List.forall_mem_nil _) (List.forall_mem_nil _) zE_X11_within
