/-! small methods with a place to look at *)
-/
def zt_X2_villageAt : ab_T := ab_pure (fun as M N => match as with
  | [.ref r1, .int p, .int h] => (match Nat.beq r1 1 with | true => some (.int (ab_b (0 ≤ (M 1) 7 ∧ p < (M 17) 3 ∧ (M 1) 7 + (M 17) 4 ≤ h))) | false => none)
  | _ => none)
theorem zI_X2_villageAt {as : List Value} {M : ab_M} {N : ab_N} {k : ab_R} (hk : zt_X2_villageAt as M N k) : ∃ (p : Int32) (h : Int32), as = [.ref 1, .int p, .int h] ∧ k (some (.int (ab_b (0 ≤ (M 1) 7 ∧ p < (M 17) 3 ∧ (M 1) 7 + (M 17) 4 ≤ h)))) M N := by
  unfold zt_X2_villageAt ab_pure at hk
  dsimp only at hk
  split at hk
  · rename_i v hv
    split at hv
    · split at hv
      · rename_i hb0
        cases hv
        rw [Nat.eq_of_beq_eq_true hb0]
        exact ⟨_, _, rfl, hk⟩
      · cases hv
    · cases hv
  · exact hk.elim
def zp_X2_villageAt : ab_P := [(0, .aload_n 0, 1, [0], []),
  (1, .getfield 34, 4, [], []),
  (4, .ifCond .lt 32, 7, [36], []),
  (7, .iload_n 1, 8, [1], []),
  (8, .aload_n 0, 9, [0], []),
  (9, .getfield 28, 12, [], []),
  (12, .iconst 3, 13, [], [3]),
  (13, .iaload, 14, [], []),
  (14, .if_icmp .ge 22, 17, [36], []),
  (17, .iload_n 2, 18, [2], []),
  (18, .aload_n 0, 19, [0], []),
  (19, .getfield 34, 22, [], []),
  (22, .aload_n 0, 23, [0], []),
  (23, .getfield 28, 26, [], []),
  (26, .iconst 4, 27, [], [4]),
  (27, .iaload, 28, [], []),
  (28, .iadd, 29, [], []),
  (29, .if_icmp .lt 7, 32, [36], []),
  (32, .iconst 1, 33, [], [1]),
  (33, .goto 4, 36, [37], []),
  (36, .iconst 0, 37, [], [0]),
  (37, .ireturn, 38, [], [])]
theorem zo_X2_villageAt : ab_ok cX2_villageAt zp_X2_villageAt = true := by decide +kernel
def zg_X2_villageAt : ab_G := (zw_C, zs_tab, zf_X2, [], [], [], [])
theorem zm_X2_villageAt : ab_MG zg_X2_villageAt := ab_MGof (List.forall_mem_nil _) (List.forall_mem_nil _)
abbrev zr_X2_villageAt (Q : ab_R) : ab_K := ab_Run zg_X2_villageAt zp_X2_villageAt (some .boolean) 3 Q
set_option maxRecDepth 20000 in
theorem zv_X2_villageAt_0 {Q : ab_R} {M : ab_M} {N : ab_N} (l1 : Int32) (l2 : Int32) (h : ((M 1 7) < 0 → narrow .boolean (.int (0 : Int32)) = .int (0 : Int32) ∧ Q (some (.int (0 : Int32))) M N) ∧ (¬ ((M 1 7) < 0) → vp_in (3 : Int32) 5 ∧ (((M 17 3) ≤ l1 → narrow .boolean (.int (0 : Int32)) = .int (0 : Int32) ∧ Q (some (.int (0 : Int32))) M N) ∧ (¬ ((M 17 3) ≤ l1) → vp_in (4 : Int32) 5 ∧ ((l2 < ((M 1 7) + (M 17 4)) → narrow .boolean (.int (0 : Int32)) = .int (0 : Int32) ∧ Q (some (.int (0 : Int32))) M N) ∧ (¬ (l2 < ((M 1 7) + (M 17 4))) → narrow .boolean (.int (1 : Int32)) = .int (1 : Int32) ∧ Q (some (.int (1 : Int32))) M N)))))) : zr_X2_villageAt Q 0 [some (.ref 1), some (.int l1), some (.int l2)] [] M N := ab_Run_s zm_X2_villageAt (sp := []) 24 h
theorem zH_X2_villageAt (p : Int32) (h : Int32) {M : ab_M} {N : ab_N} {k : ab_R} (hk : k (some (.int (ab_b (0 ≤ (M 1) 7 ∧ p < (M 17) 3 ∧ (M 1) 7 + (M 17) 4 ≤ h)))) M N) : zr_X2_villageAt k 0 [some (.ref 1), some (.int p), some (.int h)] [] M N := by
  refine zv_X2_villageAt_0 _ _ ?_
  (repeat' first | exact ab_vpk (by decide) | exact hp | refine And.intro ?_ ?_ | intro _)
  all_goals first | rfl | exact ab_b_n | (refine ab_qi hk ?_; (try unfold ab_b at *); grind) | grind
abbrev zR_X2_villageAt : Room := { frames := 0, cells := 0, slots := 0, locals := 0 }
theorem zV_X2_villageAt : ab_recv zw_C vwCl RX2 zt_X2_villageAt := fun as M N k h => by
  obtain ⟨_, _, rfl, -⟩ := zI_X2_villageAt h
  exact ⟨_, _, _, _, _, _, rfl, rfl, rfl⟩
theorem zE_X2_villageAt (as : List Value) (M : ab_M) (N : ab_N) (k : ab_R) (hk : zt_X2_villageAt as M N k) : ab_cs as ≤ 3 ∧ zr_X2_villageAt k 0 (ab_en as) [] M N := by
  obtain ⟨p, h, rfl, hk2⟩ := zI_X2_villageAt hk
  exact ⟨Nat.le_of_ble_eq_true rfl, zH_X2_villageAt p h hk2⟩
set_option maxRecDepth 20000 in
theorem zM_X2_villageAt (l : Launch) : ab_Met l zw_C vwCl zZ_C yX2_villageAt cX2_villageAt 3 (some .boolean) zR_X2_villageAt zt_X2_villageAt := ab_ofRun (G := zg_X2_villageAt) (P := zp_X2_villageAt) rfl zo_X2_villageAt (by decide +kernel) zl_cl zl_lamC zf_X2_ok zs_tabOK ab_Cst_nil ab_Sta_nil (List.forall_mem_nil _) (List.forall_mem_nil _) zE_X2_villageAt
abbrev zAwk (kd mo h : Int32) : Prop := ¬ kd = 5 ∨ mo + 2 ≤ 0 ∨ ¬ h - h / (mo + 2) * (mo + 2) = mo + 1
def zt_X5_awake : ab_T := ab_pp (fun as M N => match as with
  | [.ref r1, .int m, .int h] => (match Nat.beq r1 2 with | true => some ((vp_in m 5), (.int (ab_b (zAwk ((M 25) m.toNatClampNeg) ((M 29) m.toNatClampNeg) h)))) | false => none)
  | _ => none)
theorem zI_X5_awake {as : List Value} {M : ab_M} {N : ab_N} {k : ab_R} (hk : zt_X5_awake as M N k) : ∃ (m : Int32) (h : Int32), as = [.ref 2, .int m, .int h] ∧ (vp_in m 5) ∧ k (some (.int (ab_b (zAwk ((M 25) m.toNatClampNeg) ((M 29) m.toNatClampNeg) h)))) M N := by
  unfold zt_X5_awake ab_pp at hk
  dsimp only at hk
  split at hk
  · rename_i v hv
    split at hv
    · split at hv
      · rename_i hb0
        cases hv
        rw [Nat.eq_of_beq_eq_true hb0]
        exact ⟨_, _, rfl, hk⟩
      · cases hv
    · cases hv
  · exact hk.elim
def zp_X5_awake : ab_P := [(0, .aload_n 0, 1, [0], []),
  (1, .getfield 24, 4, [], []),
  (4, .iload_n 1, 5, [1], []),
  (5, .iaload, 6, [], []),
  (6, .iconst 2, 7, [], [2]),
  (7, .iadd, 8, [], []),
  (8, .istore_n 3, 9, [3], []),
  (9, .aload_n 0, 10, [0], []),
  (10, .getfield 9, 13, [], []),
  (13, .iload_n 1, 14, [1], []),
  (14, .iaload, 15, [], []),
  (15, .iconst 5, 16, [], [5]),
  (16, .if_icmp .ne 21, 19, [37], []),
  (19, .iload_n 3, 20, [3], []),
  (20, .ifCond .le 17, 23, [37], []),
  (23, .iload_n 2, 24, [2], []),
  (24, .iload_n 3, 25, [3], []),
  (25, .irem, 26, [], []),
  (26, .aload_n 0, 27, [0], []),
  (27, .getfield 24, 30, [], []),
  (30, .iload_n 1, 31, [1], []),
  (31, .iaload, 32, [], []),
  (32, .iconst 1, 33, [], [1]),
  (33, .iadd, 34, [], []),
  (34, .if_icmp .eq 7, 37, [41], []),
  (37, .iconst 1, 38, [], [1]),
  (38, .goto 4, 41, [42], []),
  (41, .iconst 0, 42, [], [0]),
  (42, .ireturn, 43, [], [])]
theorem zo_X5_awake : ab_ok cX5_awake zp_X5_awake = true := by decide +kernel
def zg_X5_awake : ab_G := (zw_C, zs_tab, zf_X5, [], [], [], [])
theorem zm_X5_awake : ab_MG zg_X5_awake := ab_MGof (List.forall_mem_nil _) (List.forall_mem_nil _)
abbrev zr_X5_awake (Q : ab_R) : ab_K := ab_Run zg_X5_awake zp_X5_awake (some .boolean) 4 Q
set_option maxRecDepth 20000 in
theorem zv_X5_awake_0 {Q : ab_R} {M : ab_M} {N : ab_N} (l1 : Int32) (l2 : Int32) (h : vp_in l1 5 ∧ (vp_in l1 5 ∧ (((M 25 l1.toNatClampNeg) = (5 : Int32) → (((M 29 l1.toNatClampNeg) + (2 : Int32)) ≤ 0 → narrow .boolean (.int (1 : Int32)) = .int (1 : Int32) ∧ Q (some (.int (1 : Int32))) M N) ∧ (¬ (((M 29 l1.toNatClampNeg) + (2 : Int32)) ≤ 0) → ¬ ((M 29 l1.toNatClampNeg) + (2 : Int32)) = 0 ∧ (vp_in l1 5 ∧ (((l2 - l2 / ((M 29 l1.toNatClampNeg) + (2 : Int32)) * ((M 29 l1.toNatClampNeg) + (2 : Int32))) = ((M 29 l1.toNatClampNeg) + (1 : Int32)) → narrow .boolean (.int (0 : Int32)) = .int (0 : Int32) ∧ Q (some (.int (0 : Int32))) M N) ∧ (¬ ((l2 - l2 / ((M 29 l1.toNatClampNeg) + (2 : Int32)) * ((M 29 l1.toNatClampNeg) + (2 : Int32))) = ((M 29 l1.toNatClampNeg) + (1 : Int32))) → narrow .boolean (.int (1 : Int32)) = .int (1 : Int32) ∧ Q (some (.int (1 : Int32))) M N))))) ∧ (¬ ((M 25 l1.toNatClampNeg) = (5 : Int32)) → narrow .boolean (.int (1 : Int32)) = .int (1 : Int32) ∧ Q (some (.int (1 : Int32))) M N)))) : zr_X5_awake Q 0 [some (.ref 2), some (.int l1), some (.int l2)] [] M N := ab_Run_s zm_X5_awake (sp := []) 31 h
theorem zH_X5_awake (m : Int32) (h : Int32) {M : ab_M} {N : ab_N} {k : ab_R} (hp : vp_in m 5) (hk : k (some (.int (ab_b (zAwk ((M 25) m.toNatClampNeg) ((M 29) m.toNatClampNeg) h)))) M N) : zr_X5_awake k 0 [some (.ref 2), some (.int m), some (.int h)] [] M N := by
  refine zv_X5_awake_0 _ _ ?_
  (repeat' first | exact ab_vpk (by decide) | exact hp | refine And.intro ?_ ?_ | intro _)
  all_goals first | rfl | exact ab_b_n | (refine ab_qi hk ?_; (try unfold ab_b at *); grind) | grind
abbrev zR_X5_awake : Room := { frames := 0, cells := 0, slots := 0, locals := 0 }
theorem zV_X5_awake : ab_recv zw_C vwCl RX5 zt_X5_awake := fun as M N k h => by
  obtain ⟨_, _, rfl, -⟩ := zI_X5_awake h
  exact ⟨_, _, _, _, _, _, rfl, rfl, rfl⟩
theorem zE_X5_awake (as : List Value) (M : ab_M) (N : ab_N) (k : ab_R) (hk : zt_X5_awake as M N k) : ab_cs as ≤ 4 ∧ zr_X5_awake k 0 (ab_en as) [] M N := by
  obtain ⟨m, h, rfl, hp, hk2⟩ := zI_X5_awake hk
  exact ⟨Nat.le_of_ble_eq_true rfl, zH_X5_awake m h hp hk2⟩
set_option maxRecDepth 20000 in
theorem zM_X5_awake (l : Launch) : ab_Met l zw_C vwCl zZ_C yX5_awake cX5_awake 4 (some .boolean) zR_X5_awake zt_X5_awake := ab_ofRun (G := zg_X5_awake) (P := zp_X5_awake) rfl zo_X5_awake (by decide +kernel) zl_cl zl_lamC zf_X5_ok zs_tabOK ab_Cst_nil ab_Sta_nil (List.forall_mem_nil _) (List.forall_mem_nil _) zE_X5_awake
def zt_X5_hasOf : ab_T := ab_pp (fun as M N => match as with
  | [.ref r1, .int m, .int w] => (match Nat.beq r1 2 with | true => some ((vp_in m 5), (.int (ab_b (w = 0 ∨ w = (M 25) m.toNatClampNeg ∨ (w = 1 ∧ ((M 25) m.toNatClampNeg = 1 ∨ (M 25) m.toNatClampNeg = 4 ∨ (M 25) m.toNatClampNeg = 5)))))) | false => none)
  | _ => none)
theorem zI_X5_hasOf {as : List Value} {M : ab_M} {N : ab_N} {k : ab_R} (hk : zt_X5_hasOf as M N k) : ∃ (m : Int32) (w : Int32), as = [.ref 2, .int m, .int w] ∧ (vp_in m 5) ∧ k (some (.int (ab_b (w = 0 ∨ w = (M 25) m.toNatClampNeg ∨ (w = 1 ∧ ((M 25) m.toNatClampNeg = 1 ∨ (M 25) m.toNatClampNeg = 4 ∨ (M 25) m.toNatClampNeg = 5)))))) M N := by
  unfold zt_X5_hasOf ab_pp at hk
  dsimp only at hk
  split at hk
  · rename_i v hv
    split at hv
    · split at hv
      · rename_i hb0
        cases hv
        rw [Nat.eq_of_beq_eq_true hb0]
        exact ⟨_, _, rfl, hk⟩
      · cases hv
    · cases hv
  · exact hk.elim
def zp_X5_hasOf : ab_P := [(0, .aload_n 0, 1, [0], []),
  (1, .getfield 9, 4, [], []),
  (4, .iload_n 1, 5, [1], []),
  (5, .iaload, 6, [], []),
  (6, .iconst 1, 7, [], [1]),
  (7, .if_icmp .eq 23, 10, [30], []),
  (10, .aload_n 0, 11, [0], []),
  (11, .getfield 9, 14, [], []),
  (14, .iload_n 1, 15, [1], []),
  (15, .iaload, 16, [], []),
  (16, .iconst 4, 17, [], [4]),
  (17, .if_icmp .eq 13, 20, [30], []),
  (20, .aload_n 0, 21, [0], []),
  (21, .getfield 9, 24, [], []),
  (24, .iload_n 1, 25, [1], []),
  (25, .iaload, 26, [], []),
  (26, .iconst 5, 27, [], [5]),
  (27, .if_icmp .ne 7, 30, [34], []),
  (30, .iconst 1, 31, [], [1]),
  (31, .goto 4, 34, [35], []),
  (34, .iconst 0, 35, [], [0]),
  (35, .istore_n 3, 36, [3], []),
  (36, .iload_n 2, 37, [2], []),
  (37, .ifCond .eq 22, 40, [59], []),
  (40, .iload_n 2, 41, [2], []),
  (41, .aload_n 0, 42, [0], []),
  (42, .getfield 9, 45, [], []),
  (45, .iload_n 1, 46, [1], []),
  (46, .iaload, 47, [], []),
  (47, .if_icmp .eq 12, 50, [59], []),
  (50, .iload_n 2, 51, [2], []),
  (51, .iconst 1, 52, [], [1]),
  (52, .if_icmp .ne 11, 55, [63], []),
  (55, .iload_n 3, 56, [3], []),
  (56, .ifCond .eq 7, 59, [63], []),
  (59, .iconst 1, 60, [], [1]),
  (60, .goto 4, 63, [64], []),
  (63, .iconst 0, 64, [], [0]),
  (64, .ireturn, 65, [], [])]
theorem zo_X5_hasOf : ab_ok cX5_hasOf zp_X5_hasOf = true := by decide +kernel
def zg_X5_hasOf : ab_G := (zw_C, zs_tab, zf_X5, [], [], [], [])
theorem zm_X5_hasOf : ab_MG zg_X5_hasOf := ab_MGof (List.forall_mem_nil _) (List.forall_mem_nil _)
abbrev zr_X5_hasOf (Q : ab_R) : ab_K := ab_Run zg_X5_hasOf zp_X5_hasOf (some .boolean) 4 Q
set_option maxRecDepth 20000 in
theorem zv_X5_hasOf_0 {Q : ab_R} {M : ab_M} {N : ab_N} (l1 : Int32) (l2 : Int32) (h : vp_in l1 5 ∧ (((M 25 l1.toNatClampNeg) = (1 : Int32) → zr_X5_hasOf Q 35 [some (.ref 2), some (.int l1), some (.int l2), none] [.int (1 : Int32)] M N) ∧ (¬ ((M 25 l1.toNatClampNeg) = (1 : Int32)) → vp_in l1 5 ∧ (((M 25 l1.toNatClampNeg) = (4 : Int32) → zr_X5_hasOf Q 35 [some (.ref 2), some (.int l1), some (.int l2), none] [.int (1 : Int32)] M N) ∧ (¬ ((M 25 l1.toNatClampNeg) = (4 : Int32)) → vp_in l1 5 ∧ (((M 25 l1.toNatClampNeg) = (5 : Int32) → zr_X5_hasOf Q 35 [some (.ref 2), some (.int l1), some (.int l2), none] [.int (1 : Int32)] M N) ∧ (¬ ((M 25 l1.toNatClampNeg) = (5 : Int32)) → zr_X5_hasOf Q 35 [some (.ref 2), some (.int l1), some (.int l2), none] [.int (0 : Int32)] M N))))))) : zr_X5_hasOf Q 0 [some (.ref 2), some (.int l1), some (.int l2)] [] M N := ab_Run_s zm_X5_hasOf (sp := [(35, [true, true, true, false])]) 41 h
set_option maxRecDepth 20000 in
theorem zv_X5_hasOf_35 {Q : ab_R} {M : ab_M} {N : ab_N} (l1 : Int32) (l2 : Int32) (s0 : Int32) (h : (l2 = 0 → narrow .boolean (.int (1 : Int32)) = .int (1 : Int32) ∧ Q (some (.int (1 : Int32))) M N) ∧ (¬ (l2 = 0) → vp_in l1 5 ∧ ((l2 = (M 25 l1.toNatClampNeg) → narrow .boolean (.int (1 : Int32)) = .int (1 : Int32) ∧ Q (some (.int (1 : Int32))) M N) ∧ (¬ (l2 = (M 25 l1.toNatClampNeg)) → (l2 = (1 : Int32) → (s0 = 0 → narrow .boolean (.int (0 : Int32)) = .int (0 : Int32) ∧ Q (some (.int (0 : Int32))) M N) ∧ (¬ (s0 = 0) → narrow .boolean (.int (1 : Int32)) = .int (1 : Int32) ∧ Q (some (.int (1 : Int32))) M N)) ∧ (¬ (l2 = (1 : Int32)) → narrow .boolean (.int (0 : Int32)) = .int (0 : Int32) ∧ Q (some (.int (0 : Int32))) M N))))) : zr_X5_hasOf Q 35 [some (.ref 2), some (.int l1), some (.int l2), none] [.int s0] M N := ab_Run_s zm_X5_hasOf (sp := [(35, [true, true, true, false])]) 41 h
theorem zH_X5_hasOf (m : Int32) (w : Int32) {M : ab_M} {N : ab_N} {k : ab_R} (hp : vp_in m 5) (hk : k (some (.int (ab_b (w = 0 ∨ w = (M 25) m.toNatClampNeg ∨ (w = 1 ∧ ((M 25) m.toNatClampNeg = 1 ∨ (M 25) m.toNatClampNeg = 4 ∨ (M 25) m.toNatClampNeg = 5)))))) M N) : zr_X5_hasOf k 0 [some (.ref 2), some (.int m), some (.int w)] [] M N := by
  refine zv_X5_hasOf_0 _ _ ?_
  (repeat' first | exact ab_vpk (by decide) | exact hp | refine And.intro ?_ ?_ | apply zv_X5_hasOf_35 | intro _)
  all_goals first | rfl | exact ab_b_n | (refine ab_qi hk ?_; (try unfold ab_b at *); grind) | grind
abbrev zR_X5_hasOf : Room := { frames := 0, cells := 0, slots := 0, locals := 0 }
theorem zV_X5_hasOf : ab_recv zw_C vwCl RX5 zt_X5_hasOf := fun as M N k h => by
  obtain ⟨_, _, rfl, -⟩ := zI_X5_hasOf h
  exact ⟨_, _, _, _, _, _, rfl, rfl, rfl⟩
theorem zE_X5_hasOf (as : List Value) (M : ab_M) (N : ab_N) (k : ab_R) (hk : zt_X5_hasOf as M N k) : ab_cs as ≤ 4 ∧ zr_X5_hasOf k 0 (ab_en as) [] M N := by
  obtain ⟨m, w, rfl, hp, hk2⟩ := zI_X5_hasOf hk
  exact ⟨Nat.le_of_ble_eq_true rfl, zH_X5_hasOf m w hp hk2⟩
set_option maxRecDepth 20000 in
theorem zM_X5_hasOf (l : Launch) : ab_Met l zw_C vwCl zZ_C yX5_hasOf cX5_hasOf 4 (some .boolean) zR_X5_hasOf zt_X5_hasOf := ab_ofRun (G := zg_X5_hasOf) (P := zp_X5_hasOf) rfl zo_X5_hasOf (by decide +kernel) zl_cl zl_lamC zf_X5_ok zs_tabOK ab_Cst_nil ab_Sta_nil (List.forall_mem_nil _) (List.forall_mem_nil _) zE_X5_hasOf
def zt_X7_holds : ab_T := ab_pure (fun as M N => match as with
  | [.ref r1, .int s, .int i] => (match Nat.beq r1 9 with | true => some (.int (ab_b (0 ≤ s ∧ s < 4 ∧ 0 ≤ i ∧ i < (M 44) s.toNatClampNeg))) | false => none)
  | _ => none)
theorem zI_X7_holds {as : List Value} {M : ab_M} {N : ab_N} {k : ab_R} (hk : zt_X7_holds as M N k) : ∃ (s : Int32) (i : Int32), as = [.ref 9, .int s, .int i] ∧ k (some (.int (ab_b (0 ≤ s ∧ s < 4 ∧ 0 ≤ i ∧ i < (M 44) s.toNatClampNeg)))) M N := by
  unfold zt_X7_holds ab_pure at hk
  dsimp only at hk
  split at hk
  · rename_i v hv
    split at hv
    · split at hv
      · rename_i hb0
        cases hv
        rw [Nat.eq_of_beq_eq_true hb0]
        exact ⟨_, _, rfl, hk⟩
      · cases hv
    · cases hv
  · exact hk.elim
def zp_X7_holds : ab_P := [(0, .aload_n 0, 1, [0], []),
  (1, .iload_n 1, 2, [1], []),
  (2, .invokevirtual 21, 5, [], []),
  (5, .ifCond .eq 21, 8, [26], []),
  (8, .iload_n 2, 9, [2], []),
  (9, .ifCond .lt 17, 12, [26], []),
  (12, .iload_n 2, 13, [2], []),
  (13, .aload_n 0, 14, [0], []),
  (14, .getfield 15, 17, [], []),
  (17, .iload_n 1, 18, [1], []),
  (18, .iaload, 19, [], []),
  (19, .if_icmp .ge 7, 22, [26], []),
  (22, .iconst 1, 23, [], [1]),
  (23, .goto 4, 26, [27], []),
  (26, .iconst 0, 27, [], [0]),
  (27, .ireturn, 28, [], [])]
theorem zo_X7_holds : ab_ok cX7_holds zp_X7_holds = true := by decide +kernel
def zg_X7_holds : ab_G := (zw_C, zs_tab, zf_X7, [], [], [(21, 2, zt_X7_has)], [])
theorem zm_X7_holds : ab_MG zg_X7_holds := ab_MGof (List.forall_mem_cons.mpr ⟨ab_pure_mono _, List.forall_mem_nil _⟩) (List.forall_mem_nil _)
abbrev zr_X7_holds (Q : ab_R) : ab_K := ab_Run zg_X7_holds zp_X7_holds (some .boolean) 3 Q
set_option maxRecDepth 20000 in
theorem zv_X7_holds_0 {Q : ab_R} {M : ab_M} {N : ab_N} (l1 : Int32) (l2 : Int32) (h : ((ab_b (0 ≤ l1 ∧ l1 < 4)) = 0 → narrow .boolean (.int (0 : Int32)) = .int (0 : Int32) ∧ Q (some (.int (0 : Int32))) M N) ∧ (¬ ((ab_b (0 ≤ l1 ∧ l1 < 4)) = 0) → (l2 < 0 → narrow .boolean (.int (0 : Int32)) = .int (0 : Int32) ∧ Q (some (.int (0 : Int32))) M N) ∧ (¬ (l2 < 0) → vp_in l1 4 ∧ (((M 44 l1.toNatClampNeg) ≤ l2 → narrow .boolean (.int (0 : Int32)) = .int (0 : Int32) ∧ Q (some (.int (0 : Int32))) M N) ∧ (¬ ((M 44 l1.toNatClampNeg) ≤ l2) → narrow .boolean (.int (1 : Int32)) = .int (1 : Int32) ∧ Q (some (.int (1 : Int32))) M N))))) : zr_X7_holds Q 0 [some (.ref 9), some (.int l1), some (.int l2)] [] M N := ab_Run_s zm_X7_holds (sp := []) 18 h
theorem zH_X7_holds (s : Int32) (i : Int32) {M : ab_M} {N : ab_N} {k : ab_R} (hk : k (some (.int (ab_b (0 ≤ s ∧ s < 4 ∧ 0 ≤ i ∧ i < (M 44) s.toNatClampNeg)))) M N) : zr_X7_holds k 0 [some (.ref 9), some (.int s), some (.int i)] [] M N := by
  refine zv_X7_holds_0 _ _ ?_
  refine ⟨fun c => ⟨ab_n0, ab_qi hk ?_⟩, fun c => ⟨fun c2 => ⟨ab_n0, ab_qi hk ?_⟩, fun c2 => ⟨ab_vp 4 rfl ?_ ?_, fun c3 => ⟨ab_n0, ab_qi hk ?_⟩, fun c3 => ⟨ab_n1, ab_qi hk ?_⟩⟩⟩⟩ <;> (try unfold ab_b at *) <;> grind
abbrev zR_X7_holds : Room := { frames := 1, cells := 0, slots := 0, locals := 21 }
theorem zV_X7_holds : ab_recv zw_C vwCl RX7 zt_X7_holds := fun as M N k h => by
  obtain ⟨_, _, rfl, -⟩ := zI_X7_holds h
  exact ⟨_, _, _, _, _, _, rfl, rfl, rfl⟩
theorem zE_X7_holds (as : List Value) (M : ab_M) (N : ab_N) (k : ab_R) (hk : zt_X7_holds as M N k) : ab_cs as ≤ 3 ∧ zr_X7_holds k 0 (ab_en as) [] M N := by
  obtain ⟨s, i, rfl, hk2⟩ := zI_X7_holds hk
  exact ⟨Nat.le_of_ble_eq_true rfl, zH_X7_holds s i hk2⟩
set_option maxRecDepth 20000 in
theorem zM_X7_holds (l : Launch) : ab_Met l zw_C vwCl zZ_C yX7_holds cX7_holds 3 (some .boolean) zR_X7_holds zt_X7_holds := ab_ofRun (G := zg_X7_holds) (P := zp_X7_holds) rfl zo_X7_holds (by decide +kernel) zl_cl zl_lamC zf_X7_ok zs_tabOK ab_Cst_nil ab_Sta_nil (List.forall_mem_cons.mpr ⟨ab_callV zZ_C_ok (zM_X7_has l) (ab_in 621 (by decide +kernel) rfl) (ab_in 630 (by decide +kernel) rfl) (ab_in 619 (by decide +kernel) rfl) (ab_in 620 (by decide +kernel) rfl) (ab_in 10 (by decide +kernel) rfl) (by unfold ab_yok; decide +kernel) ⟨rfl, rfl⟩ (by decide) zV_X7_has, List.forall_mem_nil _⟩) (List.forall_mem_nil _) zE_X7_holds
def zt_X7_at : ab_T := ab_pp (fun as M N => match as with
  | [.ref r1, .int s, .int i] => (match Nat.beq r1 9 with | true => some (((0 ≤ s ∧ s < 4 → (M 44) s.toNatClampNeg ≤ 40)), (.int (if 0 ≤ s ∧ s < 4 ∧ 0 ≤ i ∧ i < (M 44) s.toNatClampNeg then (M 45) (s * 40 + i).toNatClampNeg else 0))) | false => none)
  | _ => none)
theorem zI_X7_at {as : List Value} {M : ab_M} {N : ab_N} {k : ab_R} (hk : zt_X7_at as M N k) : ∃ (s : Int32) (i : Int32), as = [.ref 9, .int s, .int i] ∧ ((0 ≤ s ∧ s < 4 → (M 44) s.toNatClampNeg ≤ 40)) ∧ k (some (.int (if 0 ≤ s ∧ s < 4 ∧ 0 ≤ i ∧ i < (M 44) s.toNatClampNeg then (M 45) (s * 40 + i).toNatClampNeg else 0))) M N := by
  unfold zt_X7_at ab_pp at hk
  dsimp only at hk
  split at hk
  · rename_i v hv
    split at hv
    · split at hv
      · rename_i hb0
        cases hv
        rw [Nat.eq_of_beq_eq_true hb0]
        exact ⟨_, _, rfl, hk⟩
      · cases hv
    · cases hv
  · exact hk.elim
def zp_X7_at : ab_P := [(0, .aload_n 0, 1, [0], []),
  (1, .iload_n 1, 2, [1], []),
  (2, .iload_n 2, 3, [2], []),
  (3, .invokevirtual 25, 6, [], []),
  (6, .ifCond .eq 17, 9, [23], []),
  (9, .aload_n 0, 10, [0], []),
  (10, .getfield 18, 13, [], []),
  (13, .iload_n 1, 14, [1], []),
  (14, .bipush 40, 16, [], [40]),
  (16, .imul, 17, [], []),
  (17, .iload_n 2, 18, [2], []),
  (18, .iadd, 19, [], []),
  (19, .iaload, 20, [], []),
  (20, .goto 4, 23, [24], []),
  (23, .iconst 0, 24, [], [0]),
  (24, .ireturn, 25, [], [])]
theorem zo_X7_at : ab_ok cX7_at zp_X7_at = true := by decide +kernel
def zg_X7_at : ab_G := (zw_C, zs_tab, zf_X7, [], [], [(25, 3, zt_X7_holds)], [])
theorem zm_X7_at : ab_MG zg_X7_at := ab_MGof (List.forall_mem_cons.mpr ⟨ab_pure_mono _, List.forall_mem_nil _⟩) (List.forall_mem_nil _)
abbrev zr_X7_at (Q : ab_R) : ab_K := ab_Run zg_X7_at zp_X7_at (some .int) 3 Q
set_option maxRecDepth 20000 in
theorem zv_X7_at_0 {Q : ab_R} {M : ab_M} {N : ab_N} (l1 : Int32) (l2 : Int32) (h : ((ab_b (0 ≤ l1 ∧ l1 < 4 ∧ 0 ≤ l2 ∧ l2 < (M 44) l1.toNatClampNeg)) = 0 → Q (some (.int (0 : Int32))) M N) ∧ (¬ ((ab_b (0 ≤ l1 ∧ l1 < 4 ∧ 0 ≤ l2 ∧ l2 < (M 44) l1.toNatClampNeg)) = 0) → vp_in ((l1 * (40 : Int32)) + l2) 160 ∧ (Q (some (.int (M 45 ((l1 * (40 : Int32)) + l2).toNatClampNeg))) M N))) : zr_X7_at Q 0 [some (.ref 9), some (.int l1), some (.int l2)] [] M N := ab_Run_s zm_X7_at (sp := []) 18 h
theorem zH_X7_at (s : Int32) (i : Int32) {M : ab_M} {N : ab_N} {k : ab_R} (hp : (0 ≤ s ∧ s < 4 → (M 44) s.toNatClampNeg ≤ 40)) (hk : k (some (.int (if 0 ≤ s ∧ s < 4 ∧ 0 ≤ i ∧ i < (M 44) s.toNatClampNeg then (M 45) (s * 40 + i).toNatClampNeg else 0))) M N) : zr_X7_at k 0 [some (.ref 9), some (.int s), some (.int i)] [] M N := by
  refine zv_X7_at_0 _ _ ?_
  refine ⟨fun c => ab_qi hk ?_, fun c => ⟨ab_vp 160 rfl ?_ ?_, ab_qi hk ?_⟩⟩ <;> (try unfold ab_b at *) <;> grind
abbrev zR_X7_at : Room := { frames := 2, cells := 0, slots := 0, locals := 43 }
theorem zV_X7_at : ab_recv zw_C vwCl RX7 zt_X7_at := fun as M N k h => by
  obtain ⟨_, _, rfl, -⟩ := zI_X7_at h
  exact ⟨_, _, _, _, _, _, rfl, rfl, rfl⟩
theorem zE_X7_at (as : List Value) (M : ab_M) (N : ab_N) (k : ab_R) (hk : zt_X7_at as M N k) : ab_cs as ≤ 3 ∧ zr_X7_at k 0 (ab_en as) [] M N := by
  obtain ⟨s, i, rfl, hp, hk2⟩ := zI_X7_at hk
  exact ⟨Nat.le_of_ble_eq_true rfl, zH_X7_at s i hp hk2⟩
set_option maxRecDepth 20000 in
theorem zM_X7_at (l : Launch) : ab_Met l zw_C vwCl zZ_C yX7_at cX7_at 3 (some .int) zR_X7_at zt_X7_at := ab_ofRun (G := zg_X7_at) (P := zp_X7_at) rfl zo_X7_at (by decide +kernel) zl_cl zl_lamC zf_X7_ok zs_tabOK ab_Cst_nil ab_Sta_nil (List.forall_mem_cons.mpr ⟨ab_callV zZ_C_ok (zM_X7_holds l) (ab_in 629 (by decide +kernel) rfl) (ab_in 626 (by decide +kernel) rfl) (ab_in 627 (by decide +kernel) rfl) (ab_in 628 (by decide +kernel) rfl) (ab_in 10 (by decide +kernel) rfl) (by unfold ab_yok; decide +kernel) ⟨rfl, rfl⟩ (by decide) zV_X7_holds, List.forall_mem_nil _⟩) (List.forall_mem_nil _) zE_X7_at
def zt_X9_truth : ab_T := ab_pure (fun as M N => match as with
  | [.int z] => some (.int (if z = 0 then 0 else 1))
  | _ => none)
theorem zI_X9_truth {as : List Value} {M : ab_M} {N : ab_N} {k : ab_R} (hk : zt_X9_truth as M N k) : ∃ (z : Int32), as = [.int z] ∧ k (some (.int (if z = 0 then 0 else 1))) M N := by
  unfold zt_X9_truth ab_pure at hk
  dsimp only at hk
  split at hk
  · rename_i v hv
    split at hv
    · cases hv
      exact ⟨_, rfl, hk⟩
    · cases hv
  · exact hk.elim
def zp_X9_truth : ab_P := [(0, .iload_n 0, 1, [0], []),
  (1, .ifCond .eq 7, 4, [8], []),
  (4, .iconst 1, 5, [], [1]),
  (5, .goto 4, 8, [9], []),
  (8, .iconst 0, 9, [], [0]),
  (9, .ireturn, 10, [], [])]
theorem zo_X9_truth : ab_ok cX9_truth zp_X9_truth = true := by decide +kernel
def zg_X9_truth : ab_G := (zw_C, zs_tab, zf_X9, [], [], [], [])
theorem zm_X9_truth : ab_MG zg_X9_truth := ab_MGof (List.forall_mem_nil _) (List.forall_mem_nil _)
abbrev zr_X9_truth (Q : ab_R) : ab_K := ab_Run zg_X9_truth zp_X9_truth (some .int) 1 Q
set_option maxRecDepth 20000 in
theorem zv_X9_truth_0 {Q : ab_R} {M : ab_M} {N : ab_N} (l0 : Int32) (h : (l0 = 0 → Q (some (.int (0 : Int32))) M N) ∧ (¬ (l0 = 0) → Q (some (.int (1 : Int32))) M N)) : zr_X9_truth Q 0 [some (.int l0)] [] M N := ab_Run_s zm_X9_truth (sp := []) 8 h
theorem zH_X9_truth (z : Int32) {M : ab_M} {N : ab_N} {k : ab_R} (hk : k (some (.int (if z = 0 then 0 else 1))) M N) : zr_X9_truth k 0 [some (.int z)] [] M N := by
  refine zv_X9_truth_0 _ ?_
  (repeat' first | exact ab_vpk (by decide) | exact hp | refine And.intro ?_ ?_ | intro _)
  all_goals first | rfl | exact ab_b_n | (refine ab_qi hk ?_; (try unfold ab_b at *); grind) | grind
abbrev zR_X9_truth : Room := { frames := 0, cells := 0, slots := 0, locals := 0 }
theorem zE_X9_truth (as : List Value) (M : ab_M) (N : ab_N) (k : ab_R) (hk : zt_X9_truth as M N k) : ab_cs as ≤ 1 ∧ zr_X9_truth k 0 (ab_en as) [] M N := by
  obtain ⟨z, rfl, hk2⟩ := zI_X9_truth hk
  exact ⟨Nat.le_of_ble_eq_true rfl, zH_X9_truth z hk2⟩
set_option maxRecDepth 20000 in
theorem zM_X9_truth (l : Launch) : ab_Met l zw_C vwCl zZ_C yX9_truth cX9_truth 1 (some .int) zR_X9_truth zt_X9_truth := ab_ofRun (G := zg_X9_truth) (P := zp_X9_truth) rfl zo_X9_truth (by decide +kernel) zl_cl zl_lamC zf_X9_ok zs_tabOK ab_Cst_nil ab_Sta_nil (List.forall_mem_nil _) (List.forall_mem_nil _) zE_X9_truth
def zj (c a b : Int32) : Int32 := if c = -9 then ab_b (¬ a = 0 ∨ ¬ b = 0) else if c = -10 then ab_b (¬ a = 0 ∧ ¬ b = 0) else if c = -11 then ab_b (a < b) else if c = -12 then ab_b (a = b) else if c = -13 then a + b else if c = -14 then a - b else a * b
def zt_X9_joined : ab_T := ab_pure (fun as M N => match as with
  | [.int c, .int a, .int b] => some (.int (zj c a b))
  | _ => none)
theorem zI_X9_joined {as : List Value} {M : ab_M} {N : ab_N} {k : ab_R} (hk : zt_X9_joined as M N k) : ∃ (c : Int32) (a : Int32) (b : Int32), as = [.int c, .int a, .int b] ∧ k (some (.int (zj c a b))) M N := by
  unfold zt_X9_joined ab_pure at hk
  dsimp only at hk
  split at hk
  · rename_i v hv
    split at hv
    · cases hv
      exact ⟨_, _, _, rfl, hk⟩
    · cases hv
  · exact hk.elim
def zp_X9_joined : ab_P := [(0, .iload_n 0, 1, [0], []),
  (1, .tableswitch 97 (-14) (-9) #[93, 89, 78, 67, 53, 39], 40, [98, 94, 90, 79, 68, 54, 40], [(-14), (-13), (-12), (-11), (-10), (-9)]),
  (40, .iload_n 1, 41, [1], []),
  (41, .ifCond .ne 7, 44, [48], []),
  (44, .iload_n 2, 45, [2], []),
  (45, .ifCond .eq 7, 48, [52], []),
  (48, .iconst 1, 49, [], [1]),
  (49, .goto 4, 52, [53], []),
  (52, .iconst 0, 53, [], [0]),
  (53, .ireturn, 54, [], []),
  (54, .iload_n 1, 55, [1], []),
  (55, .ifCond .eq 11, 58, [66], []),
  (58, .iload_n 2, 59, [2], []),
  (59, .ifCond .eq 7, 62, [66], []),
  (62, .iconst 1, 63, [], [1]),
  (63, .goto 4, 66, [67], []),
  (66, .iconst 0, 67, [], [0]),
  (67, .ireturn, 68, [], []),
  (68, .iload_n 1, 69, [1], []),
  (69, .iload_n 2, 70, [2], []),
  (70, .if_icmp .ge 7, 73, [77], []),
  (73, .iconst 1, 74, [], [1]),
  (74, .goto 4, 77, [78], []),
  (77, .iconst 0, 78, [], [0]),
  (78, .ireturn, 79, [], []),
  (79, .iload_n 1, 80, [1], []),
  (80, .iload_n 2, 81, [2], []),
  (81, .if_icmp .ne 7, 84, [88], []),
  (84, .iconst 1, 85, [], [1]),
  (85, .goto 4, 88, [89], []),
  (88, .iconst 0, 89, [], [0]),
  (89, .ireturn, 90, [], []),
  (90, .iload_n 1, 91, [1], []),
  (91, .iload_n 2, 92, [2], []),
  (92, .iadd, 93, [], []),
  (93, .ireturn, 94, [], []),
  (94, .iload_n 1, 95, [1], []),
  (95, .iload_n 2, 96, [2], []),
  (96, .isub, 97, [], []),
  (97, .ireturn, 98, [], []),
  (98, .iload_n 1, 99, [1], []),
  (99, .iload_n 2, 100, [2], []),
  (100, .imul, 101, [], []),
  (101, .ireturn, 102, [], [])]
theorem zo_X9_joined : ab_ok cX9_joined zp_X9_joined = true := by decide +kernel
def zg_X9_joined : ab_G := (zw_C, zs_tab, zf_X9, [], [], [], [])
theorem zm_X9_joined : ab_MG zg_X9_joined := ab_MGof (List.forall_mem_nil _) (List.forall_mem_nil _)
abbrev zr_X9_joined (Q : ab_R) : ab_K := ab_Run zg_X9_joined zp_X9_joined (some .int) 3 Q
set_option maxRecDepth 20000 in
theorem zv_X9_joined_0 {Q : ab_R} {M : ab_M} {N : ab_N} (l0 : Int32) (l1 : Int32) (l2 : Int32) (h : (l0 = (-14) → Q (some (.int (l1 - l2))) M N) ∧ (¬ l0 = (-14) → (l0 = (-13) → Q (some (.int (l1 + l2))) M N) ∧ (¬ l0 = (-13) → (l0 = (-12) → (l1 = l2 → Q (some (.int (1 : Int32))) M N) ∧ (¬ (l1 = l2) → Q (some (.int (0 : Int32))) M N)) ∧ (¬ l0 = (-12) → (l0 = (-11) → (l2 ≤ l1 → Q (some (.int (0 : Int32))) M N) ∧ (¬ (l2 ≤ l1) → Q (some (.int (1 : Int32))) M N)) ∧ (¬ l0 = (-11) → (l0 = (-10) → (l1 = 0 → Q (some (.int (0 : Int32))) M N) ∧ (¬ (l1 = 0) → (l2 = 0 → Q (some (.int (0 : Int32))) M N) ∧ (¬ (l2 = 0) → Q (some (.int (1 : Int32))) M N))) ∧ (¬ l0 = (-10) → (l0 = (-9) → (l1 = 0 → (l2 = 0 → Q (some (.int (0 : Int32))) M N) ∧ (¬ (l2 = 0) → Q (some (.int (1 : Int32))) M N)) ∧ (¬ (l1 = 0) → Q (some (.int (1 : Int32))) M N)) ∧ (¬ l0 = (-9) → Q (some (.int (l1 * l2))) M N))))))) : zr_X9_joined Q 0 [some (.int l0), some (.int l1), some (.int l2)] [] M N := ab_Run_s zm_X9_joined (sp := []) 46 h
theorem zH_X9_joined (c : Int32) (a : Int32) (b : Int32) {M : ab_M} {N : ab_N} {k : ab_R} (hk : k (some (.int (zj c a b))) M N) : zr_X9_joined k 0 [some (.int c), some (.int a), some (.int b)] [] M N := by
  refine zv_X9_joined_0 _ _ _ ?_
  (repeat' first | exact ab_vpk (by decide) | exact hp | refine And.intro ?_ ?_ | intro _)
  all_goals first | rfl | exact ab_b_n | (refine ab_qi hk ?_; (try unfold ab_b at *); grind [ab_b, zj]) | grind
abbrev zR_X9_joined : Room := { frames := 0, cells := 0, slots := 0, locals := 0 }
theorem zE_X9_joined (as : List Value) (M : ab_M) (N : ab_N) (k : ab_R) (hk : zt_X9_joined as M N k) : ab_cs as ≤ 3 ∧ zr_X9_joined k 0 (ab_en as) [] M N := by
  obtain ⟨c, a, b, rfl, hk2⟩ := zI_X9_joined hk
  exact ⟨Nat.le_of_ble_eq_true rfl, zH_X9_joined c a b hk2⟩
set_option maxRecDepth 20000 in
theorem zM_X9_joined (l : Launch) : ab_Met l zw_C vwCl zZ_C yX9_joined cX9_joined 3 (some .int) zR_X9_joined zt_X9_joined := ab_ofRun (G := zg_X9_joined) (P := zp_X9_joined) rfl zo_X9_joined (by decide +kernel) zl_cl zl_lamC zf_X9_ok zs_tabOK ab_Cst_nil ab_Sta_nil (List.forall_mem_nil _) (List.forall_mem_nil _) zE_X9_joined
def zt_X10_lookedAt : ab_T := ab_pp (fun as M N => match as with
  | [.ref r1, .int p, .int h] => (match Nat.beq r1 6 with | true => some ((vp_in (h * 8 + p) 96), (.int (ab_b (¬ (M 38) (h * 8 + p).toNatClampNeg = 0)))) | false => none)
  | _ => none)
theorem zI_X10_lookedAt {as : List Value} {M : ab_M} {N : ab_N} {k : ab_R} (hk : zt_X10_lookedAt as M N k) : ∃ (p : Int32) (h : Int32), as = [.ref 6, .int p, .int h] ∧ (vp_in (h * 8 + p) 96) ∧ k (some (.int (ab_b (¬ (M 38) (h * 8 + p).toNatClampNeg = 0)))) M N := by
  unfold zt_X10_lookedAt ab_pp at hk
  dsimp only at hk
  split at hk
  · rename_i v hv
    split at hv
    · split at hv
      · rename_i hb0
        cases hv
        rw [Nat.eq_of_beq_eq_true hb0]
        exact ⟨_, _, rfl, hk⟩
      · cases hv
    · cases hv
  · exact hk.elim
def zp_X10_lookedAt : ab_P := [(0, .aload_n 0, 1, [0], []),
  (1, .getfield 15, 4, [], []),
  (4, .iload_n 2, 5, [2], []),
  (5, .bipush 8, 7, [], [8]),
  (7, .imul, 8, [], []),
  (8, .iload_n 1, 9, [1], []),
  (9, .iadd, 10, [], []),
  (10, .iaload, 11, [], []),
  (11, .ifCond .eq 7, 14, [18], []),
  (14, .iconst 1, 15, [], [1]),
  (15, .goto 4, 18, [19], []),
  (18, .iconst 0, 19, [], [0]),
  (19, .ireturn, 20, [], [])]
theorem zo_X10_lookedAt : ab_ok cX10_lookedAt zp_X10_lookedAt = true := by decide +kernel
def zg_X10_lookedAt : ab_G := (zw_C, zs_tab, zf_X10, [], [], [], [])
theorem zm_X10_lookedAt : ab_MG zg_X10_lookedAt := ab_MGof (List.forall_mem_nil _) (List.forall_mem_nil _)
abbrev zr_X10_lookedAt (Q : ab_R) : ab_K := ab_Run zg_X10_lookedAt zp_X10_lookedAt (some .boolean) 3 Q
set_option maxRecDepth 20000 in
theorem zv_X10_lookedAt_0 {Q : ab_R} {M : ab_M} {N : ab_N} (l1 : Int32) (l2 : Int32) (h : vp_in ((l2 * (8 : Int32)) + l1) 96 ∧ (((M 38 ((l2 * (8 : Int32)) + l1).toNatClampNeg) = 0 → narrow .boolean (.int (0 : Int32)) = .int (0 : Int32) ∧ Q (some (.int (0 : Int32))) M N) ∧ (¬ ((M 38 ((l2 * (8 : Int32)) + l1).toNatClampNeg) = 0) → narrow .boolean (.int (1 : Int32)) = .int (1 : Int32) ∧ Q (some (.int (1 : Int32))) M N))) : zr_X10_lookedAt Q 0 [some (.ref 6), some (.int l1), some (.int l2)] [] M N := ab_Run_s zm_X10_lookedAt (sp := []) 15 h
theorem zH_X10_lookedAt (p : Int32) (h : Int32) {M : ab_M} {N : ab_N} {k : ab_R} (hp : vp_in (h * 8 + p) 96) (hk : k (some (.int (ab_b (¬ (M 38) (h * 8 + p).toNatClampNeg = 0)))) M N) : zr_X10_lookedAt k 0 [some (.ref 6), some (.int p), some (.int h)] [] M N := by
  refine zv_X10_lookedAt_0 _ _ ?_
  (repeat' first | exact ab_vpk (by decide) | exact hp | refine And.intro ?_ ?_ | intro _)
  all_goals first | rfl | exact ab_b_n | (refine ab_qi hk ?_; (try unfold ab_b at *); grind) | grind
abbrev zR_X10_lookedAt : Room := { frames := 0, cells := 0, slots := 0, locals := 0 }
theorem zV_X10_lookedAt : ab_recv zw_C vwCl RX10 zt_X10_lookedAt := fun as M N k h => by
  obtain ⟨_, _, rfl, -⟩ := zI_X10_lookedAt h
  exact ⟨_, _, _, _, _, _, rfl, rfl, rfl⟩
theorem zE_X10_lookedAt (as : List Value) (M : ab_M) (N : ab_N) (k : ab_R) (hk : zt_X10_lookedAt as M N k) : ab_cs as ≤ 3 ∧ zr_X10_lookedAt k 0 (ab_en as) [] M N := by
  obtain ⟨p, h, rfl, hp, hk2⟩ := zI_X10_lookedAt hk
  exact ⟨Nat.le_of_ble_eq_true rfl, zH_X10_lookedAt p h hp hk2⟩
set_option maxRecDepth 20000 in
theorem zM_X10_lookedAt (l : Launch) : ab_Met l zw_C vwCl zZ_C yX10_lookedAt cX10_lookedAt 3 (some .boolean) zR_X10_lookedAt zt_X10_lookedAt := ab_ofRun (G := zg_X10_lookedAt) (P := zp_X10_lookedAt) rfl zo_X10_lookedAt (by decide +kernel) zl_cl zl_lamC zf_X10_ok zs_tabOK ab_Cst_nil ab_Sta_nil (List.forall_mem_nil _) (List.forall_mem_nil _) zE_X10_lookedAt
def zt_X10_looksAt : ab_T := ab_pp (fun as M N => match as with
  | [.ref r1, .int w, .int p, .int h] => (match Nat.beq r1 6 with | true => some ((vp_in (h * 8 + p) 96), (.int (ab_b (¬ ((M 38) (h * 8 + p).toNatClampNeg >>> (w &&& 31)) &&& 1 = 0)))) | false => none)
  | _ => none)
theorem zI_X10_looksAt {as : List Value} {M : ab_M} {N : ab_N} {k : ab_R} (hk : zt_X10_looksAt as M N k) : ∃ (w : Int32) (p : Int32) (h : Int32), as = [.ref 6, .int w, .int p, .int h] ∧ (vp_in (h * 8 + p) 96) ∧ k (some (.int (ab_b (¬ ((M 38) (h * 8 + p).toNatClampNeg >>> (w &&& 31)) &&& 1 = 0)))) M N := by
  unfold zt_X10_looksAt ab_pp at hk
  dsimp only at hk
  split at hk
  · rename_i v hv
    split at hv
    · split at hv
      · rename_i hb0
        cases hv
        rw [Nat.eq_of_beq_eq_true hb0]
        exact ⟨_, _, _, rfl, hk⟩
      · cases hv
    · cases hv
  · exact hk.elim
def zp_X10_looksAt : ab_P := [(0, .aload_n 0, 1, [0], []),
  (1, .getfield 15, 4, [], []),
  (4, .iload_n 3, 5, [3], []),
  (5, .bipush 8, 7, [], [8]),
  (7, .imul, 8, [], []),
  (8, .iload_n 2, 9, [2], []),
  (9, .iadd, 10, [], []),
  (10, .iaload, 11, [], []),
  (11, .iload_n 1, 12, [1], []),
  (12, .ishr, 13, [], []),
  (13, .iconst 1, 14, [], [1]),
  (14, .iand, 15, [], []),
  (15, .ifCond .eq 7, 18, [22], []),
  (18, .iconst 1, 19, [], [1]),
  (19, .goto 4, 22, [23], []),
  (22, .iconst 0, 23, [], [0]),
  (23, .ireturn, 24, [], [])]
theorem zo_X10_looksAt : ab_ok cX10_looksAt zp_X10_looksAt = true := by decide +kernel
def zg_X10_looksAt : ab_G := (zw_C, zs_tab, zf_X10, [], [], [], [])
theorem zm_X10_looksAt : ab_MG zg_X10_looksAt := ab_MGof (List.forall_mem_nil _) (List.forall_mem_nil _)
abbrev zr_X10_looksAt (Q : ab_R) : ab_K := ab_Run zg_X10_looksAt zp_X10_looksAt (some .boolean) 4 Q
set_option maxRecDepth 20000 in
theorem zv_X10_looksAt_0 {Q : ab_R} {M : ab_M} {N : ab_N} (l1 : Int32) (l2 : Int32) (l3 : Int32) (h : vp_in ((l3 * (8 : Int32)) + l2) 96 ∧ (((((M 38 ((l3 * (8 : Int32)) + l2).toNatClampNeg) >>> (l1 &&& 31)) &&& (1 : Int32)) = 0 → narrow .boolean (.int (0 : Int32)) = .int (0 : Int32) ∧ Q (some (.int (0 : Int32))) M N) ∧ (¬ ((((M 38 ((l3 * (8 : Int32)) + l2).toNatClampNeg) >>> (l1 &&& 31)) &&& (1 : Int32)) = 0) → narrow .boolean (.int (1 : Int32)) = .int (1 : Int32) ∧ Q (some (.int (1 : Int32))) M N))) : zr_X10_looksAt Q 0 [some (.ref 6), some (.int l1), some (.int l2), some (.int l3)] [] M N := ab_Run_s zm_X10_looksAt (sp := []) 19 h
theorem zH_X10_looksAt (w : Int32) (p : Int32) (h : Int32) {M : ab_M} {N : ab_N} {k : ab_R} (hp : vp_in (h * 8 + p) 96) (hk : k (some (.int (ab_b (¬ ((M 38) (h * 8 + p).toNatClampNeg >>> (w &&& 31)) &&& 1 = 0)))) M N) : zr_X10_looksAt k 0 [some (.ref 6), some (.int w), some (.int p), some (.int h)] [] M N := by
  refine zv_X10_looksAt_0 _ _ _ ?_
  (repeat' first | exact ab_vpk (by decide) | exact hp | refine And.intro ?_ ?_ | intro _)
  all_goals first | rfl | exact ab_b_n | (refine ab_qi hk ?_; (try unfold ab_b at *); grind) | grind
abbrev zR_X10_looksAt : Room := { frames := 0, cells := 0, slots := 0, locals := 0 }
theorem zV_X10_looksAt : ab_recv zw_C vwCl RX10 zt_X10_looksAt := fun as M N k h => by
  obtain ⟨_, _, _, rfl, -⟩ := zI_X10_looksAt h
  exact ⟨_, _, _, _, _, _, rfl, rfl, rfl⟩
theorem zE_X10_looksAt (as : List Value) (M : ab_M) (N : ab_N) (k : ab_R) (hk : zt_X10_looksAt as M N k) : ab_cs as ≤ 4 ∧ zr_X10_looksAt k 0 (ab_en as) [] M N := by
  obtain ⟨w, p, h, rfl, hp, hk2⟩ := zI_X10_looksAt hk
  exact ⟨Nat.le_of_ble_eq_true rfl, zH_X10_looksAt w p h hp hk2⟩
set_option maxRecDepth 20000 in
theorem zM_X10_looksAt (l : Launch) : ab_Met l zw_C vwCl zZ_C yX10_looksAt cX10_looksAt 4 (some .boolean) zR_X10_looksAt zt_X10_looksAt := ab_ofRun (G := zg_X10_looksAt) (P := zp_X10_looksAt) rfl zo_X10_looksAt (by decide +kernel) zl_cl zl_lamC zf_X10_ok zs_tabOK ab_Cst_nil ab_Sta_nil (List.forall_mem_nil _) (List.forall_mem_nil _) zE_X10_looksAt
def zt_X10_paceOf : ab_T := ab_pure (fun as M N => match as with
  | [.ref r1, .int w] => (match Nat.beq r1 6 with | true => some (.int (if 0 ≤ w ∧ w < (M 2) 6 ∧ w < 5 then (M 28) w.toNatClampNeg else if w = 7 then 1 else 0)) | false => none)
  | _ => none)
theorem zI_X10_paceOf {as : List Value} {M : ab_M} {N : ab_N} {k : ab_R} (hk : zt_X10_paceOf as M N k) : ∃ (w : Int32), as = [.ref 6, .int w] ∧ k (some (.int (if 0 ≤ w ∧ w < (M 2) 6 ∧ w < 5 then (M 28) w.toNatClampNeg else if w = 7 then 1 else 0))) M N := by
  unfold zt_X10_paceOf ab_pure at hk
  dsimp only at hk
  split at hk
  · rename_i v hv
    split at hv
    · split at hv
      · rename_i hb0
        cases hv
        rw [Nat.eq_of_beq_eq_true hb0]
        exact ⟨_, rfl, hk⟩
      · cases hv
    · cases hv
  · exact hk.elim
def zp_X10_paceOf : ab_P := [(0, .aload_n 0, 1, [0], []),
  (1, .getfield 48, 4, [], []),
  (4, .iload_n 1, 5, [1], []),
  (5, .invokevirtual 56, 8, [], []),
  (8, .ifCond .eq 15, 11, [23], []),
  (11, .aload_n 0, 12, [0], []),
  (12, .getfield 48, 15, [], []),
  (15, .getfield 62, 18, [], []),
  (18, .iload_n 1, 19, [1], []),
  (19, .iaload, 20, [], []),
  (20, .goto 14, 23, [34], []),
  (23, .iload_n 1, 24, [1], []),
  (24, .bipush 7, 26, [], [7]),
  (26, .if_icmp .ne 7, 29, [33], []),
  (29, .iconst 1, 30, [], [1]),
  (30, .goto 4, 33, [34], []),
  (33, .iconst 0, 34, [], [0]),
  (34, .ireturn, 35, [], [])]
theorem zo_X10_paceOf : ab_ok cX10_paceOf zp_X10_paceOf = true := by decide +kernel
def zg_X10_paceOf : ab_G := (zw_C, zs_tab, zf_X10, [], [], [(56, 2, zt_X5_has)], [])
theorem zm_X10_paceOf : ab_MG zg_X10_paceOf := ab_MGof (List.forall_mem_cons.mpr ⟨ab_pure_mono _, List.forall_mem_nil _⟩) (List.forall_mem_nil _)
abbrev zr_X10_paceOf (Q : ab_R) : ab_K := ab_Run zg_X10_paceOf zp_X10_paceOf (some .int) 2 Q
set_option maxRecDepth 20000 in
theorem zv_X10_paceOf_0 {Q : ab_R} {M : ab_M} {N : ab_N} (l1 : Int32) (h : ((ab_b (0 ≤ l1 ∧ l1 < (M 2) 6 ∧ l1 < 5)) = 0 → (l1 = (7 : Int32) → Q (some (.int (1 : Int32))) M N) ∧ (¬ (l1 = (7 : Int32)) → Q (some (.int (0 : Int32))) M N)) ∧ (¬ ((ab_b (0 ≤ l1 ∧ l1 < (M 2) 6 ∧ l1 < 5)) = 0) → vp_in l1 5 ∧ (Q (some (.int (M 28 l1.toNatClampNeg))) M N))) : zr_X10_paceOf Q 0 [some (.ref 6), some (.int l1)] [] M N := ab_Run_s zm_X10_paceOf (sp := []) 20 h
theorem zH_X10_paceOf (w : Int32) {M : ab_M} {N : ab_N} {k : ab_R} (hk : k (some (.int (if 0 ≤ w ∧ w < (M 2) 6 ∧ w < 5 then (M 28) w.toNatClampNeg else if w = 7 then 1 else 0))) M N) : zr_X10_paceOf k 0 [some (.ref 6), some (.int w)] [] M N := by
  refine zv_X10_paceOf_0 _ ?_
  refine ⟨fun c => ⟨fun c2 => ab_qi hk ?_, fun c2 => ab_qi hk ?_⟩, fun c => ⟨ab_vp 5 rfl ?_ ?_, ab_qi hk ?_⟩⟩ <;> (try unfold ab_b at *) <;> grind
abbrev zR_X10_paceOf : Room := { frames := 1, cells := 0, slots := 0, locals := 21 }
theorem zV_X10_paceOf : ab_recv zw_C vwCl RX10 zt_X10_paceOf := fun as M N k h => by
  obtain ⟨_, rfl, -⟩ := zI_X10_paceOf h
  exact ⟨_, _, _, _, _, _, rfl, rfl, rfl⟩
theorem zE_X10_paceOf (as : List Value) (M : ab_M) (N : ab_N) (k : ab_R) (hk : zt_X10_paceOf as M N k) : ab_cs as ≤ 2 ∧ zr_X10_paceOf k 0 (ab_en as) [] M N := by
  obtain ⟨w, rfl, hk2⟩ := zI_X10_paceOf hk
  exact ⟨Nat.le_of_ble_eq_true rfl, zH_X10_paceOf w hk2⟩
set_option maxRecDepth 20000 in
theorem zM_X10_paceOf (l : Launch) : ab_Met l zw_C vwCl zZ_C yX10_paceOf cX10_paceOf 2 (some .int) zR_X10_paceOf zt_X10_paceOf := ab_ofRun (G := zg_X10_paceOf) (P := zp_X10_paceOf) rfl zo_X10_paceOf (by decide +kernel) zl_cl zl_lamC zf_X10_ok zs_tabOK ab_Cst_nil ab_Sta_nil (List.forall_mem_cons.mpr ⟨ab_callV zZ_C_ok (zM_X5_has l) (ab_in 642 (by decide +kernel) rfl) (ab_in 758 (by decide +kernel) rfl) (ab_in 640 (by decide +kernel) rfl) (ab_in 641 (by decide +kernel) rfl) (ab_in 3 (by decide +kernel) rfl) (by unfold ab_yok; decide +kernel) ⟨rfl, rfl⟩ (by decide) zV_X5_has, List.forall_mem_nil _⟩) (List.forall_mem_nil _) zE_X10_paceOf
def zt_X10_sinceOf : ab_T := ab_pp (fun as M N => match as with
  | [.ref r1, .int p, .int h] => (match Nat.beq r1 6 with | true => some ((vp_in (h * 8 + p) 96), (.int ((M 39) (h * 8 + p).toNatClampNeg))) | false => none)
  | _ => none)
theorem zI_X10_sinceOf {as : List Value} {M : ab_M} {N : ab_N} {k : ab_R} (hk : zt_X10_sinceOf as M N k) : ∃ (p : Int32) (h : Int32), as = [.ref 6, .int p, .int h] ∧ (vp_in (h * 8 + p) 96) ∧ k (some (.int ((M 39) (h * 8 + p).toNatClampNeg))) M N := by
  unfold zt_X10_sinceOf ab_pp at hk
  dsimp only at hk
  split at hk
  · rename_i v hv
    split at hv
    · split at hv
      · rename_i hb0
        cases hv
        rw [Nat.eq_of_beq_eq_true hb0]
        exact ⟨_, _, rfl, hk⟩
      · cases hv
    · cases hv
  · exact hk.elim
def zp_X10_sinceOf : ab_P := [(0, .aload_n 0, 1, [0], []),
  (1, .getfield 18, 4, [], []),
  (4, .iload_n 2, 5, [2], []),
  (5, .bipush 8, 7, [], [8]),
  (7, .imul, 8, [], []),
  (8, .iload_n 1, 9, [1], []),
  (9, .iadd, 10, [], []),
  (10, .iaload, 11, [], []),
  (11, .ireturn, 12, [], [])]
theorem zo_X10_sinceOf : ab_ok cX10_sinceOf zp_X10_sinceOf = true := by decide +kernel
def zg_X10_sinceOf : ab_G := (zw_C, zs_tab, zf_X10, [], [], [], [])
theorem zm_X10_sinceOf : ab_MG zg_X10_sinceOf := ab_MGof (List.forall_mem_nil _) (List.forall_mem_nil _)
abbrev zr_X10_sinceOf (Q : ab_R) : ab_K := ab_Run zg_X10_sinceOf zp_X10_sinceOf (some .int) 3 Q
set_option maxRecDepth 20000 in
theorem zv_X10_sinceOf_0 {Q : ab_R} {M : ab_M} {N : ab_N} (l1 : Int32) (l2 : Int32) (h : vp_in ((l2 * (8 : Int32)) + l1) 96 ∧ (Q (some (.int (M 39 ((l2 * (8 : Int32)) + l1).toNatClampNeg))) M N)) : zr_X10_sinceOf Q 0 [some (.ref 6), some (.int l1), some (.int l2)] [] M N := ab_Run_s zm_X10_sinceOf (sp := []) 11 h
theorem zH_X10_sinceOf (p : Int32) (h : Int32) {M : ab_M} {N : ab_N} {k : ab_R} (hp : vp_in (h * 8 + p) 96) (hk : k (some (.int ((M 39) (h * 8 + p).toNatClampNeg))) M N) : zr_X10_sinceOf k 0 [some (.ref 6), some (.int p), some (.int h)] [] M N := by
  refine zv_X10_sinceOf_0 _ _ ?_
  (repeat' first | exact ab_vpk (by decide) | exact hp | refine And.intro ?_ ?_ | intro _)
  all_goals first | rfl | exact ab_b_n | (refine ab_qi hk ?_; (try unfold ab_b at *); grind) | grind
abbrev zR_X10_sinceOf : Room := { frames := 0, cells := 0, slots := 0, locals := 0 }
theorem zV_X10_sinceOf : ab_recv zw_C vwCl RX10 zt_X10_sinceOf := fun as M N k h => by
  obtain ⟨_, _, rfl, -⟩ := zI_X10_sinceOf h
  exact ⟨_, _, _, _, _, _, rfl, rfl, rfl⟩
theorem zE_X10_sinceOf (as : List Value) (M : ab_M) (N : ab_N) (k : ab_R) (hk : zt_X10_sinceOf as M N k) : ab_cs as ≤ 3 ∧ zr_X10_sinceOf k 0 (ab_en as) [] M N := by
  obtain ⟨p, h, rfl, hp, hk2⟩ := zI_X10_sinceOf hk
  exact ⟨Nat.le_of_ble_eq_true rfl, zH_X10_sinceOf p h hp hk2⟩
set_option maxRecDepth 20000 in
theorem zM_X10_sinceOf (l : Launch) : ab_Met l zw_C vwCl zZ_C yX10_sinceOf cX10_sinceOf 3 (some .int) zR_X10_sinceOf zt_X10_sinceOf := ab_ofRun (G := zg_X10_sinceOf) (P := zp_X10_sinceOf) rfl zo_X10_sinceOf (by decide +kernel) zl_cl zl_lamC zf_X10_ok zs_tabOK ab_Cst_nil ab_Sta_nil (List.forall_mem_nil _) (List.forall_mem_nil _) zE_X10_sinceOf
def zt_X10_placeOf : ab_T := ab_pp (fun as M N => match as with
  | [.ref r1, .int m, .int h] => (match Nat.beq r1 6 with | true => some ((vp_in (h * 5 + m) 60), (.int ((M 37) (h * 5 + m).toNatClampNeg))) | false => none)
  | _ => none)
theorem zI_X10_placeOf {as : List Value} {M : ab_M} {N : ab_N} {k : ab_R} (hk : zt_X10_placeOf as M N k) : ∃ (m : Int32) (h : Int32), as = [.ref 6, .int m, .int h] ∧ (vp_in (h * 5 + m) 60) ∧ k (some (.int ((M 37) (h * 5 + m).toNatClampNeg))) M N := by
  unfold zt_X10_placeOf ab_pp at hk
  dsimp only at hk
  split at hk
  · rename_i v hv
    split at hv
    · split at hv
      · rename_i hb0
        cases hv
        rw [Nat.eq_of_beq_eq_true hb0]
        exact ⟨_, _, rfl, hk⟩
      · cases hv
    · cases hv
  · exact hk.elim
def zp_X10_placeOf : ab_P := [(0, .aload_n 0, 1, [0], []),
  (1, .getfield 9, 4, [], []),
  (4, .iload_n 2, 5, [2], []),
  (5, .iconst 5, 6, [], [5]),
  (6, .imul, 7, [], []),
  (7, .iload_n 1, 8, [1], []),
  (8, .iadd, 9, [], []),
  (9, .iaload, 10, [], []),
  (10, .ireturn, 11, [], [])]
theorem zo_X10_placeOf : ab_ok cX10_placeOf zp_X10_placeOf = true := by decide +kernel
def zg_X10_placeOf : ab_G := (zw_C, zs_tab, zf_X10, [], [], [], [])
theorem zm_X10_placeOf : ab_MG zg_X10_placeOf := ab_MGof (List.forall_mem_nil _) (List.forall_mem_nil _)
abbrev zr_X10_placeOf (Q : ab_R) : ab_K := ab_Run zg_X10_placeOf zp_X10_placeOf (some .int) 3 Q
set_option maxRecDepth 20000 in
theorem zv_X10_placeOf_0 {Q : ab_R} {M : ab_M} {N : ab_N} (l1 : Int32) (l2 : Int32) (h : vp_in ((l2 * (5 : Int32)) + l1) 60 ∧ (Q (some (.int (M 37 ((l2 * (5 : Int32)) + l1).toNatClampNeg))) M N)) : zr_X10_placeOf Q 0 [some (.ref 6), some (.int l1), some (.int l2)] [] M N := ab_Run_s zm_X10_placeOf (sp := []) 11 h
theorem zH_X10_placeOf (m : Int32) (h : Int32) {M : ab_M} {N : ab_N} {k : ab_R} (hp : vp_in (h * 5 + m) 60) (hk : k (some (.int ((M 37) (h * 5 + m).toNatClampNeg))) M N) : zr_X10_placeOf k 0 [some (.ref 6), some (.int m), some (.int h)] [] M N := by
  refine zv_X10_placeOf_0 _ _ ?_
  (repeat' first | exact ab_vpk (by decide) | exact hp | refine And.intro ?_ ?_ | intro _)
  all_goals first | rfl | exact ab_b_n | (refine ab_qi hk ?_; (try unfold ab_b at *); grind) | grind
abbrev zR_X10_placeOf : Room := { frames := 0, cells := 0, slots := 0, locals := 0 }
theorem zV_X10_placeOf : ab_recv zw_C vwCl RX10 zt_X10_placeOf := fun as M N k h => by
  obtain ⟨_, _, rfl, -⟩ := zI_X10_placeOf h
  exact ⟨_, _, _, _, _, _, rfl, rfl, rfl⟩
theorem zE_X10_placeOf (as : List Value) (M : ab_M) (N : ab_N) (k : ab_R) (hk : zt_X10_placeOf as M N k) : ab_cs as ≤ 3 ∧ zr_X10_placeOf k 0 (ab_en as) [] M N := by
  obtain ⟨m, h, rfl, hp, hk2⟩ := zI_X10_placeOf hk
  exact ⟨Nat.le_of_ble_eq_true rfl, zH_X10_placeOf m h hp hk2⟩
set_option maxRecDepth 20000 in
theorem zM_X10_placeOf (l : Launch) : ab_Met l zw_C vwCl zZ_C yX10_placeOf cX10_placeOf 3 (some .int) zR_X10_placeOf zt_X10_placeOf := ab_ofRun (G := zg_X10_placeOf) (P := zp_X10_placeOf) rfl zo_X10_placeOf (by decide +kernel) zl_cl zl_lamC zf_X10_ok zs_tabOK ab_Cst_nil ab_Sta_nil (List.forall_mem_nil _) (List.forall_mem_nil _) zE_X10_placeOf
def zt_X10_together : ab_T := ab_pp (fun as M N => match as with
  | [.ref r1, .int a, .int b, .int h] => (match Nat.beq r1 6 with | true => some ((vp_in (h * 5 + a) 60 ∧ vp_in (h * 5 + b) 60), (.int (ab_b ((M 37) (h * 5 + a).toNatClampNeg = (M 37) (h * 5 + b).toNatClampNeg)))) | false => none)
  | _ => none)
theorem zI_X10_together {as : List Value} {M : ab_M} {N : ab_N} {k : ab_R} (hk : zt_X10_together as M N k) : ∃ (a : Int32) (b : Int32) (h : Int32), as = [.ref 6, .int a, .int b, .int h] ∧ (vp_in (h * 5 + a) 60 ∧ vp_in (h * 5 + b) 60) ∧ k (some (.int (ab_b ((M 37) (h * 5 + a).toNatClampNeg = (M 37) (h * 5 + b).toNatClampNeg)))) M N := by
  unfold zt_X10_together ab_pp at hk
  dsimp only at hk
  split at hk
  · rename_i v hv
    split at hv
    · split at hv
      · rename_i hb0
        cases hv
        rw [Nat.eq_of_beq_eq_true hb0]
        exact ⟨_, _, _, rfl, hk⟩
      · cases hv
    · cases hv
  · exact hk.elim
def zp_X10_together : ab_P := [(0, .aload_n 0, 1, [0], []),
  (1, .iload_n 1, 2, [1], []),
  (2, .iload_n 3, 3, [3], []),
  (3, .invokevirtual 65, 6, [], []),
  (6, .aload_n 0, 7, [0], []),
  (7, .iload_n 2, 8, [2], []),
  (8, .iload_n 3, 9, [3], []),
  (9, .invokevirtual 65, 12, [], []),
  (12, .if_icmp .ne 7, 15, [19], []),
  (15, .iconst 1, 16, [], [1]),
  (16, .goto 4, 19, [20], []),
  (19, .iconst 0, 20, [], [0]),
  (20, .ireturn, 21, [], [])]
theorem zo_X10_together : ab_ok cX10_together zp_X10_together = true := by decide +kernel
def zg_X10_together : ab_G := (zw_C, zs_tab, zf_X10, [], [], [(65, 3, zt_X10_placeOf)], [])
theorem zm_X10_together : ab_MG zg_X10_together := ab_MGof (List.forall_mem_cons.mpr ⟨ab_pp_mono _, List.forall_mem_nil _⟩) (List.forall_mem_nil _)
abbrev zr_X10_together (Q : ab_R) : ab_K := ab_Run zg_X10_together zp_X10_together (some .boolean) 4 Q
set_option maxRecDepth 20000 in
theorem zv_X10_together_0 {Q : ab_R} {M : ab_M} {N : ab_N} (l1 : Int32) (l2 : Int32) (l3 : Int32) (h : (vp_in (l3 * 5 + l1) 60) ∧ ((vp_in (l3 * 5 + l2) 60) ∧ ((((M 37) (l3 * 5 + l1).toNatClampNeg) = ((M 37) (l3 * 5 + l2).toNatClampNeg) → narrow .boolean (.int (1 : Int32)) = .int (1 : Int32) ∧ Q (some (.int (1 : Int32))) M N) ∧ (¬ (((M 37) (l3 * 5 + l1).toNatClampNeg) = ((M 37) (l3 * 5 + l2).toNatClampNeg)) → narrow .boolean (.int (0 : Int32)) = .int (0 : Int32) ∧ Q (some (.int (0 : Int32))) M N)))) : zr_X10_together Q 0 [some (.ref 6), some (.int l1), some (.int l2), some (.int l3)] [] M N := ab_Run_s zm_X10_together (sp := []) 15 h
theorem zH_X10_together (a : Int32) (b : Int32) (h : Int32) {M : ab_M} {N : ab_N} {k : ab_R} (hp : vp_in (h * 5 + a) 60 ∧ vp_in (h * 5 + b) 60) (hk : k (some (.int (ab_b ((M 37) (h * 5 + a).toNatClampNeg = (M 37) (h * 5 + b).toNatClampNeg)))) M N) : zr_X10_together k 0 [some (.ref 6), some (.int a), some (.int b), some (.int h)] [] M N := by
  refine zv_X10_together_0 _ _ _ ?_
  refine ⟨hp.1, hp.2, fun c => ⟨ab_n1, ab_qi hk ?_⟩, fun c => ⟨ab_n0, ab_qi hk ?_⟩⟩ <;> (try unfold ab_b at *) <;> grind
abbrev zR_X10_together : Room := { frames := 1, cells := 0, slots := 0, locals := 22 }
theorem zV_X10_together : ab_recv zw_C vwCl RX10 zt_X10_together := fun as M N k h => by
  obtain ⟨_, _, _, rfl, -⟩ := zI_X10_together h
  exact ⟨_, _, _, _, _, _, rfl, rfl, rfl⟩
theorem zE_X10_together (as : List Value) (M : ab_M) (N : ab_N) (k : ab_R) (hk : zt_X10_together as M N k) : ab_cs as ≤ 4 ∧ zr_X10_together k 0 (ab_en as) [] M N := by
  obtain ⟨a, b, h, rfl, hp, hk2⟩ := zI_X10_together hk
  exact ⟨Nat.le_of_ble_eq_true rfl, zH_X10_together a b h hp hk2⟩
set_option maxRecDepth 20000 in
theorem zM_X10_together (l : Launch) : ab_Met l zw_C vwCl zZ_C yX10_together cX10_together 4 (some .boolean) zR_X10_together zt_X10_together := ab_ofRun (G := zg_X10_together) (P := zp_X10_together) rfl zo_X10_together (by decide +kernel) zl_cl zl_lamC zf_X10_ok zs_tabOK ab_Cst_nil ab_Sta_nil (List.forall_mem_cons.mpr ⟨ab_callV zZ_C_ok (zM_X10_placeOf l) (ab_in 678 (by decide +kernel) rfl) (ab_in 675 (by decide +kernel) rfl) (ab_in 676 (by decide +kernel) rfl) (ab_in 677 (by decide +kernel) rfl) (ab_in 7 (by decide +kernel) rfl) (by unfold ab_yok; decide +kernel) ⟨rfl, rfl⟩ (by decide) zV_X10_placeOf, List.forall_mem_nil _⟩) (List.forall_mem_nil _) zE_X10_together
def zTow (v f t : Int32) : Int32 := if f < t then (if f + v < t then f + v else t) else (if t < f - v then f - v else t)
def zt_X10_towards : ab_T := ab_pp (fun as M N => match as with
  | [.ref r1, .int m, .int f, .int t] => (match Nat.beq r1 6 with | true => some ((vp_in m 5), (.int (zTow ((M 28) m.toNatClampNeg) f t))) | false => none)
  | _ => none)
theorem zI_X10_towards {as : List Value} {M : ab_M} {N : ab_N} {k : ab_R} (hk : zt_X10_towards as M N k) : ∃ (m : Int32) (f : Int32) (t : Int32), as = [.ref 6, .int m, .int f, .int t] ∧ (vp_in m 5) ∧ k (some (.int (zTow ((M 28) m.toNatClampNeg) f t))) M N := by
  unfold zt_X10_towards ab_pp at hk
  dsimp only at hk
  split at hk
  · rename_i v hv
    split at hv
    · split at hv
      · rename_i hb0
        cases hv
        rw [Nat.eq_of_beq_eq_true hb0]
        exact ⟨_, _, _, rfl, hk⟩
      · cases hv
    · cases hv
  · exact hk.elim
def zp_X10_towards : ab_P := [(0, .iload_n 2, 1, [2], []),
  (1, .iload_n 3, 2, [3], []),
  (2, .if_icmp .ge 21, 5, [23], []),
  (5, .iload_n 3, 6, [3], []),
  (6, .iload_n 2, 7, [2], []),
  (7, .aload_n 0, 8, [0], []),
  (8, .getfield 48, 11, [], []),
  (11, .getfield 62, 14, [], []),
  (14, .iload_n 1, 15, [1], []),
  (15, .iaload, 16, [], []),
  (16, .iadd, 17, [], []),
  (17, .invokestatic 119, 20, [], []),
  (20, .goto 18, 23, [38], []),
  (23, .iload_n 3, 24, [3], []),
  (24, .iload_n 2, 25, [2], []),
  (25, .aload_n 0, 26, [0], []),
  (26, .getfield 48, 29, [], []),
  (29, .getfield 62, 32, [], []),
  (32, .iload_n 1, 33, [1], []),
  (33, .iaload, 34, [], []),
  (34, .isub, 35, [], []),
  (35, .invokestatic 124, 38, [], []),
  (38, .ireturn, 39, [], [])]
theorem zo_X10_towards : ab_ok cX10_towards zp_X10_towards = true := by decide +kernel
def zg_X10_towards : ab_G := (zw_C, zs_tab, zf_X10, [], [], [], [(119, 2, zt_min), (124, 2, zt_max)])
theorem zm_X10_towards : ab_MG zg_X10_towards := ab_MGof (List.forall_mem_nil _) (List.forall_mem_cons.mpr ⟨ab_pure_mono _, List.forall_mem_cons.mpr ⟨ab_pure_mono _, List.forall_mem_nil _⟩⟩)
abbrev zr_X10_towards (Q : ab_R) : ab_K := ab_Run zg_X10_towards zp_X10_towards (some .int) 4 Q
set_option maxRecDepth 20000 in
theorem zv_X10_towards_0 {Q : ab_R} {M : ab_M} {N : ab_N} (l1 : Int32) (l2 : Int32) (l3 : Int32) (h : (l3 ≤ l2 → vp_in l1 5 ∧ (Q (some (.int (if l3 < (l2 - (M 28 l1.toNatClampNeg)) then (l2 - (M 28 l1.toNatClampNeg)) else l3))) M N)) ∧ (¬ (l3 ≤ l2) → vp_in l1 5 ∧ (Q (some (.int (if (l2 + (M 28 l1.toNatClampNeg)) < l3 then (l2 + (M 28 l1.toNatClampNeg)) else l3))) M N))) : zr_X10_towards Q 0 [some (.ref 6), some (.int l1), some (.int l2), some (.int l3)] [] M N := ab_Run_s zm_X10_towards (sp := []) 25 h
theorem zH_X10_towards (m : Int32) (f : Int32) (t : Int32) {M : ab_M} {N : ab_N} {k : ab_R} (hp : vp_in m 5) (hk : k (some (.int (zTow ((M 28) m.toNatClampNeg) f t))) M N) : zr_X10_towards k 0 [some (.ref 6), some (.int m), some (.int f), some (.int t)] [] M N := by
  refine zv_X10_towards_0 _ _ _ ?_
  (repeat' first | exact ab_vpk (by decide) | exact hp | refine And.intro ?_ ?_ | intro _)
  all_goals first | rfl | exact ab_b_n | (refine ab_qi hk ?_; (try unfold ab_b at *); grind [ab_b, zTow]) | grind
abbrev zR_X10_towards : Room := { frames := 1, cells := 0, slots := 0, locals := 21 }
theorem zV_X10_towards : ab_recv zw_C vwCl RX10 zt_X10_towards := fun as M N k h => by
  obtain ⟨_, _, _, rfl, -⟩ := zI_X10_towards h
  exact ⟨_, _, _, _, _, _, rfl, rfl, rfl⟩
theorem zE_X10_towards (as : List Value) (M : ab_M) (N : ab_N) (k : ab_R) (hk : zt_X10_towards as M N k) : ab_cs as ≤ 4 ∧ zr_X10_towards k 0 (ab_en as) [] M N := by
  obtain ⟨m, f, t, rfl, hp, hk2⟩ := zI_X10_towards hk
  exact ⟨Nat.le_of_ble_eq_true rfl, zH_X10_towards m f t hp hk2⟩
set_option maxRecDepth 20000 in
theorem zM_X10_towards (l : Launch) : ab_Met l zw_C vwCl zZ_C yX10_towards cX10_towards 4 (some .int) zR_X10_towards zt_X10_towards := ab_ofRun (G := zg_X10_towards) (P := zp_X10_towards) rfl zo_X10_towards (by decide +kernel) zl_cl zl_lamC zf_X10_ok zs_tabOK ab_Cst_nil ab_Sta_nil (List.forall_mem_nil _) (List.forall_mem_cons.mpr ⟨ab_callMin (ab_in 683 (by decide +kernel) rfl) (ab_in 608 (by decide +kernel) rfl) (ab_in 18 (by decide +kernel) rfl) (ab_in 609 (by decide +kernel) rfl) (by decide) (by decide), List.forall_mem_cons.mpr ⟨ab_callMax (ab_in 684 (by decide +kernel) rfl) (ab_in 593 (by decide +kernel) rfl) (ab_in 18 (by decide +kernel) rfl) (ab_in 594 (by decide +kernel) rfl) (by decide) (by decide), List.forall_mem_nil _⟩⟩) zE_X10_towards
def zOth (ca tr co la mp mh p h : Int32) : Int32 := if p = mp ∧ h = mh then ((if 0 ≤ ca ∧ p < tr ∧ ca + co ≤ h then (32 : Int32) else 0) ||| (if la = 0 then 0 else 64)) ||| 128 else ((if 0 ≤ ca ∧ p < tr ∧ ca + co ≤ h then (32 : Int32) else 0) ||| (if la = 0 then 0 else 64))
def zt_X10_othersAt : ab_T := ab_pp (fun as M N => match as with
  | [.ref r1, .int p, .int h] => (match Nat.beq r1 6 with | true => some ((vp_in p 8), (.int (zOth ((M 1) 7) ((M 17) 3) ((M 17) 4) ((M 16) p.toNatClampNeg) ((M 6) 11) ((M 6) 12) p h))) | false => none)
  | _ => none)
theorem zI_X10_othersAt {as : List Value} {M : ab_M} {N : ab_N} {k : ab_R} (hk : zt_X10_othersAt as M N k) : ∃ (p : Int32) (h : Int32), as = [.ref 6, .int p, .int h] ∧ (vp_in p 8) ∧ k (some (.int (zOth ((M 1) 7) ((M 17) 3) ((M 17) 4) ((M 16) p.toNatClampNeg) ((M 6) 11) ((M 6) 12) p h))) M N := by
  unfold zt_X10_othersAt ab_pp at hk
  dsimp only at hk
  split at hk
  · rename_i v hv
    split at hv
    · split at hv
      · rename_i hb0
        cases hv
        rw [Nat.eq_of_beq_eq_true hb0]
        exact ⟨_, _, rfl, hk⟩
      · cases hv
    · cases hv
  · exact hk.elim
def zp_X10_othersAt : ab_P := [(0, .aload_n 0, 1, [0], []),
  (1, .getfield 44, 4, [], []),
  (4, .iload_n 1, 5, [1], []),
  (5, .iload_n 2, 6, [2], []),
  (6, .invokevirtual 99, 9, [], []),
  (9, .ifCond .eq 8, 12, [17], []),
  (12, .bipush 32, 14, [], [32]),
  (14, .goto 4, 17, [18], []),
  (17, .iconst 0, 18, [], [0]),
  (18, .istore_n 3, 19, [3], []),
  (19, .iload_n 3, 20, [3], []),
  (20, .aload_n 0, 21, [0], []),
  (21, .getfield 44, 24, [], []),
  (24, .getfield 102, 27, [], []),
  (27, .iload_n 1, 28, [1], []),
  (28, .iaload, 29, [], []),
  (29, .ifCond .eq 8, 32, [37], []),
  (32, .bipush 64, 34, [], [64]),
  (34, .goto 4, 37, [38], []),
  (37, .iconst 0, 38, [], [0]),
  (38, .ior, 39, [], []),
  (39, .istore_n 3, 40, [3], []),
  (40, .iload_n 1, 41, [1], []),
  (41, .aload_n 0, 42, [0], []),
  (42, .getfield 38, 45, [], []),
  (45, .if_icmp .ne 19, 48, [64], []),
  (48, .iload_n 2, 49, [2], []),
  (49, .aload_n 0, 50, [0], []),
  (50, .getfield 41, 53, [], []),
  (53, .if_icmp .ne 11, 56, [64], []),
  (56, .iload_n 3, 57, [3], []),
  (57, .sipush 128, 60, [], [128]),
  (60, .ior, 61, [], []),
  (61, .goto 4, 64, [65], []),
  (64, .iload_n 3, 65, [3], []),
  (65, .ireturn, 66, [], [])]
theorem zo_X10_othersAt : ab_ok cX10_othersAt zp_X10_othersAt = true := by decide +kernel
def zg_X10_othersAt : ab_G := (zw_C, zs_tab, zf_X10, [], [], [(99, 3, zt_X2_villageAt)], [])
theorem zm_X10_othersAt : ab_MG zg_X10_othersAt := ab_MGof (List.forall_mem_cons.mpr ⟨ab_pure_mono _, List.forall_mem_nil _⟩) (List.forall_mem_nil _)
abbrev zr_X10_othersAt (Q : ab_R) : ab_K := ab_Run zg_X10_othersAt zp_X10_othersAt (some .int) 4 Q
set_option maxRecDepth 20000 in
theorem zv_X10_othersAt_0 {Q : ab_R} {M : ab_M} {N : ab_N} (l1 : Int32) (l2 : Int32) (h : ((ab_b (0 ≤ (M 1) 7 ∧ l1 < (M 17) 3 ∧ (M 1) 7 + (M 17) 4 ≤ l2)) = 0 → zr_X10_othersAt Q 18 [some (.ref 6), some (.int l1), some (.int l2), none] [.int (0 : Int32)] M N) ∧ (¬ ((ab_b (0 ≤ (M 1) 7 ∧ l1 < (M 17) 3 ∧ (M 1) 7 + (M 17) 4 ≤ l2)) = 0) → zr_X10_othersAt Q 18 [some (.ref 6), some (.int l1), some (.int l2), none] [.int (32 : Int32)] M N)) : zr_X10_othersAt Q 0 [some (.ref 6), some (.int l1), some (.int l2)] [] M N := ab_Run_s zm_X10_othersAt (sp := [(18, [true, true, true, false]), (38, [true, true, true, false])]) 38 h
set_option maxRecDepth 20000 in
theorem zv_X10_othersAt_18 {Q : ab_R} {M : ab_M} {N : ab_N} (l1 : Int32) (l2 : Int32) (s0 : Int32) (h : vp_in l1 8 ∧ (((M 16 l1.toNatClampNeg) = 0 → zr_X10_othersAt Q 38 [some (.ref 6), some (.int l1), some (.int l2), none] [.int (0 : Int32), .int s0] M N) ∧ (¬ ((M 16 l1.toNatClampNeg) = 0) → zr_X10_othersAt Q 38 [some (.ref 6), some (.int l1), some (.int l2), none] [.int (64 : Int32), .int s0] M N))) : zr_X10_othersAt Q 18 [some (.ref 6), some (.int l1), some (.int l2), none] [.int s0] M N := ab_Run_s zm_X10_othersAt (sp := [(18, [true, true, true, false]), (38, [true, true, true, false])]) 38 h
set_option maxRecDepth 20000 in
theorem zv_X10_othersAt_38 {Q : ab_R} {M : ab_M} {N : ab_N} (l1 : Int32) (l2 : Int32) (s0 : Int32) (s1 : Int32) (h : (l1 = (M 6 11) → (l2 = (M 6 12) → Q (some (.int ((s0 ||| s1) ||| (128 : Int32)))) M N) ∧ (¬ (l2 = (M 6 12)) → Q (some (.int (s0 ||| s1))) M N)) ∧ (¬ (l1 = (M 6 11)) → Q (some (.int (s0 ||| s1))) M N)) : zr_X10_othersAt Q 38 [some (.ref 6), some (.int l1), some (.int l2), none] [.int s1, .int s0] M N := ab_Run_s zm_X10_othersAt (sp := [(18, [true, true, true, false]), (38, [true, true, true, false])]) 38 h
theorem zH_X10_othersAt (p : Int32) (h : Int32) {M : ab_M} {N : ab_N} {k : ab_R} (hp : vp_in p 8) (hk : k (some (.int (zOth ((M 1) 7) ((M 17) 3) ((M 17) 4) ((M 16) p.toNatClampNeg) ((M 6) 11) ((M 6) 12) p h))) M N) : zr_X10_othersAt k 0 [some (.ref 6), some (.int p), some (.int h)] [] M N := by
  refine zv_X10_othersAt_0 _ _ ?_
  (repeat' first | exact ab_vpk (by decide) | exact hp | refine And.intro ?_ ?_ | apply zv_X10_othersAt_18 | apply zv_X10_othersAt_38 | intro _)
  all_goals first | rfl | exact ab_b_n | (refine ab_qi hk ?_; (try unfold ab_b at *); grind [ab_b, zOth]) | grind
abbrev zR_X10_othersAt : Room := { frames := 1, cells := 0, slots := 0, locals := 22 }
theorem zV_X10_othersAt : ab_recv zw_C vwCl RX10 zt_X10_othersAt := fun as M N k h => by
  obtain ⟨_, _, rfl, -⟩ := zI_X10_othersAt h
  exact ⟨_, _, _, _, _, _, rfl, rfl, rfl⟩
theorem zE_X10_othersAt (as : List Value) (M : ab_M) (N : ab_N) (k : ab_R) (hk : zt_X10_othersAt as M N k) : ab_cs as ≤ 4 ∧ zr_X10_othersAt k 0 (ab_en as) [] M N := by
  obtain ⟨p, h, rfl, hp, hk2⟩ := zI_X10_othersAt hk
  exact ⟨Nat.le_of_ble_eq_true rfl, zH_X10_othersAt p h hp hk2⟩
set_option maxRecDepth 20000 in
theorem zM_X10_othersAt (l : Launch) : ab_Met l zw_C vwCl zZ_C yX10_othersAt cX10_othersAt 4 (some .int) zR_X10_othersAt zt_X10_othersAt := ab_ofRun (G := zg_X10_othersAt) (P := zp_X10_othersAt) rfl zo_X10_othersAt (by decide +kernel) zl_cl zl_lamC zf_X10_ok zs_tabOK ab_Cst_nil ab_Sta_nil (List.forall_mem_cons.mpr ⟨ab_callV zZ_C_ok (zM_X2_villageAt l) (ab_in 670 (by decide +kernel) rfl) (ab_in 667 (by decide +kernel) rfl) (ab_in 668 (by decide +kernel) rfl) (ab_in 669 (by decide +kernel) rfl) (ab_in 2 (by decide +kernel) rfl) (by unfold ab_yok; decide +kernel) ⟨rfl, rfl⟩ (by decide) zV_X2_villageAt, List.forall_mem_nil _⟩) (List.forall_mem_nil _) zE_X10_othersAt
