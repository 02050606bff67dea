/-! the reference: small methods that only look *)
-/
def zt_X12_in : ab_T := ab_pure (fun as M N => match as with
  | [.int v, .int a, .int b] => some (.int (ab_b (a ≤ v ∧ v ≤ b)))
  | _ => none)
theorem zI_X12_in {as : List Value} {M : ab_M} {N : ab_N} {k : ab_R} (hk : zt_X12_in as M N k) : ∃ (v : Int32) (a : Int32) (b : Int32), as = [.int v, .int a, .int b] ∧ k (some (.int (ab_b (a ≤ v ∧ v ≤ b)))) M N := by
  unfold zt_X12_in ab_pure at hk
  dsimp only at hk
  split at hk
  · rename_i v hv
    split at hv
    · cases hv
      exact ⟨_, _, _, rfl, hk⟩
    · cases hv
  · exact hk.elim
def zp_X12_in : ab_P := [(0, .iload_n 0, 1, [0], []),
  (1, .iload_n 1, 2, [1], []),
  (2, .if_icmp .lt 12, 5, [14], []),
  (5, .iload_n 0, 6, [0], []),
  (6, .iload_n 2, 7, [2], []),
  (7, .if_icmp .gt 7, 10, [14], []),
  (10, .iconst 1, 11, [], [1]),
  (11, .goto 4, 14, [15], []),
  (14, .iconst 0, 15, [], [0]),
  (15, .ireturn, 16, [], [])]
theorem zo_X12_in : ab_ok cX12_in zp_X12_in = true := by decide +kernel
def zg_X12_in : ab_G := (zw_M, [], zf_X12, zc_X12, [], [], [])
theorem zm_X12_in : ab_MG zg_X12_in := ab_MGof (List.forall_mem_nil _) (List.forall_mem_nil _)
abbrev zr_X12_in (Q : ab_R) : ab_K := ab_Run zg_X12_in zp_X12_in (some .boolean) 3 Q
set_option maxRecDepth 20000 in
theorem zv_X12_in_0 {Q : ab_R} {M : ab_M} {N : ab_N} (l0 : Int32) (l1 : Int32) (l2 : Int32) (h : (l0 < l1 → narrow .boolean (.int (0 : Int32)) = .int (0 : Int32) ∧ Q (some (.int (0 : Int32))) M N) ∧ (¬ (l0 < l1) → (l2 < l0 → narrow .boolean (.int (0 : Int32)) = .int (0 : Int32) ∧ Q (some (.int (0 : Int32))) M N) ∧ (¬ (l2 < l0) → narrow .boolean (.int (1 : Int32)) = .int (1 : Int32) ∧ Q (some (.int (1 : Int32))) M N))) : zr_X12_in Q 0 [some (.int l0), some (.int l1), some (.int l2)] [] M N := ab_Run_s zm_X12_in (sp := []) 12 h
theorem zH_X12_in (v : Int32) (a : Int32) (b : Int32) {M : ab_M} {N : ab_N} {k : ab_R} (hk : k (some (.int (ab_b (a ≤ v ∧ v ≤ b)))) M N) : zr_X12_in k 0 [some (.int v), some (.int a), some (.int b)] [] M N := by
  refine zv_X12_in_0 _ _ _ ?_
  (repeat' first | exact ab_vpk (by decide) | exact hp | refine And.intro ?_ ?_ | intro _)
  all_goals first | rfl | exact ab_b_n | (refine ab_qi hk ?_; (try unfold ab_b at *); grind) | grind
abbrev zR_X12_in : Room := { frames := 0, cells := 0, slots := 0, locals := 0 }
theorem zE_X12_in (as : List Value) (M : ab_M) (N : ab_N) (k : ab_R) (hk : zt_X12_in as M N k) : ab_cs as ≤ 3 ∧ zr_X12_in k 0 (ab_en as) [] M N := by
  obtain ⟨v, a, b, rfl, hk2⟩ := zI_X12_in hk
  exact ⟨Nat.le_of_ble_eq_true rfl, zH_X12_in v a b hk2⟩
set_option maxRecDepth 20000 in
theorem zM_X12_in (l : Launch) : ab_Met l zw_M vwCl zZ_M yX12_in cX12_in 3 (some .boolean) zR_X12_in zt_X12_in := ab_ofRun (G := zg_X12_in) (P := zp_X12_in) rfl zo_X12_in (by decide +kernel) zl_cl zl_lamM zf_X12_ok ab_Tab_nil zc_X12_ok ab_Sta_nil (List.forall_mem_nil _) (List.forall_mem_nil _) zE_X12_in
def zt_X12_isPiece : ab_T := ab_pure (fun as M N => match as with
  | [.ref r1, .int p] => (match Nat.beq r1 0 with | true => some (.int (ab_b (0 ≤ p ∧ p ≤ (M 0) 7 - 1))) | false => none)
  | _ => none)
theorem zI_X12_isPiece {as : List Value} {M : ab_M} {N : ab_N} {k : ab_R} (hk : zt_X12_isPiece as M N k) : ∃ (p : Int32), as = [.ref 0, .int p] ∧ k (some (.int (ab_b (0 ≤ p ∧ p ≤ (M 0) 7 - 1)))) M N := by
  unfold zt_X12_isPiece ab_pure at hk
  dsimp only at hk
  split at hk
  · rename_i v hv
    split at hv
    · split at hv
      · rename_i hb0
        cases hv
        rw [Nat.eq_of_beq_eq_true hb0]
        exact ⟨_, rfl, hk⟩
      · cases hv
    · cases hv
  · exact hk.elim
def zp_X12_isPiece : ab_P := [(0, .iload_n 1, 1, [1], []),
  (1, .iconst 0, 2, [], [0]),
  (2, .aload_n 0, 3, [0], []),
  (3, .getfield 172, 6, [], []),
  (6, .iconst 1, 7, [], [1]),
  (7, .isub, 8, [], []),
  (8, .invokestatic 175, 11, [], []),
  (11, .ireturn, 12, [], [])]
theorem zo_X12_isPiece : ab_ok cX12_isPiece zp_X12_isPiece = true := by decide +kernel
def zg_X12_isPiece : ab_G := (zw_M, [], zf_X12, zc_X12, [], [], [(175, 3, zt_X12_in)])
theorem zm_X12_isPiece : ab_MG zg_X12_isPiece := ab_MGof (List.forall_mem_nil _) (List.forall_mem_cons.mpr ⟨ab_pure_mono _, List.forall_mem_nil _⟩)
abbrev zr_X12_isPiece (Q : ab_R) : ab_K := ab_Run zg_X12_isPiece zp_X12_isPiece (some .boolean) 2 Q
set_option maxRecDepth 20000 in
theorem zv_X12_isPiece_0 {Q : ab_R} {M : ab_M} {N : ab_N} (l1 : Int32) (h : narrow .boolean (.int (ab_b ((0 : Int32) ≤ l1 ∧ l1 ≤ ((M 0 7) - (1 : Int32))))) = .int (ab_b ((0 : Int32) ≤ l1 ∧ l1 ≤ ((M 0 7) - (1 : Int32)))) ∧ Q (some (.int (ab_b ((0 : Int32) ≤ l1 ∧ l1 ≤ ((M 0 7) - (1 : Int32)))))) M N) : zr_X12_isPiece Q 0 [some (.ref 0), some (.int l1)] [] M N := ab_Run_s zm_X12_isPiece (sp := []) 10 h
theorem zH_X12_isPiece (p : Int32) {M : ab_M} {N : ab_N} {k : ab_R} (hk : k (some (.int (ab_b (0 ≤ p ∧ p ≤ (M 0) 7 - 1)))) M N) : zr_X12_isPiece k 0 [some (.ref 0), some (.int p)] [] M N := by
  refine zv_X12_isPiece_0 _ ?_
  (repeat' first | exact ab_vpk (by decide) | exact hp | refine And.intro ?_ ?_ | intro _)
  all_goals first | rfl | exact ab_b_n | (refine ab_qi hk ?_; (try unfold ab_b at *); grind) | grind
abbrev zR_X12_isPiece : Room := { frames := 1, cells := 0, slots := 0, locals := 22 }
theorem zV_X12_isPiece : ab_recv zw_M vwCl RX12 zt_X12_isPiece := fun as M N k h => by
  obtain ⟨_, rfl, -⟩ := zI_X12_isPiece h
  exact ⟨_, _, _, _, _, _, rfl, rfl, rfl⟩
theorem zE_X12_isPiece (as : List Value) (M : ab_M) (N : ab_N) (k : ab_R) (hk : zt_X12_isPiece as M N k) : ab_cs as ≤ 2 ∧ zr_X12_isPiece k 0 (ab_en as) [] M N := by
  obtain ⟨p, rfl, hk2⟩ := zI_X12_isPiece hk
  exact ⟨Nat.le_of_ble_eq_true rfl, zH_X12_isPiece p hk2⟩
set_option maxRecDepth 20000 in
theorem zM_X12_isPiece (l : Launch) : ab_Met l zw_M vwCl zZ_M yX12_isPiece cX12_isPiece 2 (some .boolean) zR_X12_isPiece zt_X12_isPiece := ab_ofRun (G := zg_X12_isPiece) (P := zp_X12_isPiece) rfl zo_X12_isPiece (by decide +kernel) zl_cl zl_lamM zf_X12_ok ab_Tab_nil zc_X12_ok ab_Sta_nil (List.forall_mem_nil _) (List.forall_mem_cons.mpr ⟨ab_callS zZ_M_ok (zM_X12_in l) (ab_in 1200 (by decide +kernel) rfl) (ab_in 1198 (by decide +kernel) rfl) (ab_in 1199 (by decide +kernel) rfl) (ab_in 17 (by decide +kernel) rfl) (by unfold ab_yok; decide +kernel) ⟨rfl, rfl⟩ (by decide), List.forall_mem_nil _⟩) zE_X12_isPiece
def zt_X12_isMan : ab_T := ab_pure (fun as M N => match as with
  | [.ref r1, .int p] => (match Nat.beq r1 0 with | true => some (.int (ab_b (0 ≤ p ∧ p ≤ (M 0) 12 - 1))) | false => none)
  | _ => none)
theorem zI_X12_isMan {as : List Value} {M : ab_M} {N : ab_N} {k : ab_R} (hk : zt_X12_isMan as M N k) : ∃ (p : Int32), as = [.ref 0, .int p] ∧ k (some (.int (ab_b (0 ≤ p ∧ p ≤ (M 0) 12 - 1)))) M N := by
  unfold zt_X12_isMan ab_pure at hk
  dsimp only at hk
  split at hk
  · rename_i v hv
    split at hv
    · split at hv
      · rename_i hb0
        cases hv
        rw [Nat.eq_of_beq_eq_true hb0]
        exact ⟨_, rfl, hk⟩
      · cases hv
    · cases hv
  · exact hk.elim
def zp_X12_isMan : ab_P := [(0, .iload_n 1, 1, [1], []),
  (1, .iconst 0, 2, [], [0]),
  (2, .aload_n 0, 3, [0], []),
  (3, .getfield 179, 6, [], []),
  (6, .iconst 1, 7, [], [1]),
  (7, .isub, 8, [], []),
  (8, .invokestatic 175, 11, [], []),
  (11, .ireturn, 12, [], [])]
theorem zo_X12_isMan : ab_ok cX12_isMan zp_X12_isMan = true := by decide +kernel
def zg_X12_isMan : ab_G := (zw_M, [], zf_X12, zc_X12, [], [], [(175, 3, zt_X12_in)])
theorem zm_X12_isMan : ab_MG zg_X12_isMan := ab_MGof (List.forall_mem_nil _) (List.forall_mem_cons.mpr ⟨ab_pure_mono _, List.forall_mem_nil _⟩)
abbrev zr_X12_isMan (Q : ab_R) : ab_K := ab_Run zg_X12_isMan zp_X12_isMan (some .boolean) 2 Q
set_option maxRecDepth 20000 in
theorem zv_X12_isMan_0 {Q : ab_R} {M : ab_M} {N : ab_N} (l1 : Int32) (h : narrow .boolean (.int (ab_b ((0 : Int32) ≤ l1 ∧ l1 ≤ ((M 0 12) - (1 : Int32))))) = .int (ab_b ((0 : Int32) ≤ l1 ∧ l1 ≤ ((M 0 12) - (1 : Int32)))) ∧ Q (some (.int (ab_b ((0 : Int32) ≤ l1 ∧ l1 ≤ ((M 0 12) - (1 : Int32)))))) M N) : zr_X12_isMan Q 0 [some (.ref 0), some (.int l1)] [] M N := ab_Run_s zm_X12_isMan (sp := []) 10 h
theorem zH_X12_isMan (p : Int32) {M : ab_M} {N : ab_N} {k : ab_R} (hk : k (some (.int (ab_b (0 ≤ p ∧ p ≤ (M 0) 12 - 1)))) M N) : zr_X12_isMan k 0 [some (.ref 0), some (.int p)] [] M N := by
  refine zv_X12_isMan_0 _ ?_
  (repeat' first | exact ab_vpk (by decide) | exact hp | refine And.intro ?_ ?_ | intro _)
  all_goals first | rfl | exact ab_b_n | (refine ab_qi hk ?_; (try unfold ab_b at *); grind) | grind
abbrev zR_X12_isMan : Room := { frames := 1, cells := 0, slots := 0, locals := 22 }
theorem zV_X12_isMan : ab_recv zw_M vwCl RX12 zt_X12_isMan := fun as M N k h => by
  obtain ⟨_, rfl, -⟩ := zI_X12_isMan h
  exact ⟨_, _, _, _, _, _, rfl, rfl, rfl⟩
theorem zE_X12_isMan (as : List Value) (M : ab_M) (N : ab_N) (k : ab_R) (hk : zt_X12_isMan as M N k) : ab_cs as ≤ 2 ∧ zr_X12_isMan k 0 (ab_en as) [] M N := by
  obtain ⟨p, rfl, hk2⟩ := zI_X12_isMan hk
  exact ⟨Nat.le_of_ble_eq_true rfl, zH_X12_isMan p hk2⟩
set_option maxRecDepth 20000 in
theorem zM_X12_isMan (l : Launch) : ab_Met l zw_M vwCl zZ_M yX12_isMan cX12_isMan 2 (some .boolean) zR_X12_isMan zt_X12_isMan := ab_ofRun (G := zg_X12_isMan) (P := zp_X12_isMan) rfl zo_X12_isMan (by decide +kernel) zl_cl zl_lamM zf_X12_ok ab_Tab_nil zc_X12_ok ab_Sta_nil (List.forall_mem_nil _) (List.forall_mem_cons.mpr ⟨ab_callS zZ_M_ok (zM_X12_in l) (ab_in 1200 (by decide +kernel) rfl) (ab_in 1198 (by decide +kernel) rfl) (ab_in 1199 (by decide +kernel) rfl) (ab_in 17 (by decide +kernel) rfl) (by unfold ab_yok; decide +kernel) ⟨rfl, rfl⟩ (by decide), List.forall_mem_nil _⟩) zE_X12_isMan
def zt_X12_isHour : ab_T := ab_pure (fun as M N => match as with
  | [.ref r1, .int p] => (match Nat.beq r1 0 with | true => some (.int (ab_b (0 ≤ p ∧ p ≤ (M 0) 0 - 1))) | false => none)
  | _ => none)
theorem zI_X12_isHour {as : List Value} {M : ab_M} {N : ab_N} {k : ab_R} (hk : zt_X12_isHour as M N k) : ∃ (p : Int32), as = [.ref 0, .int p] ∧ k (some (.int (ab_b (0 ≤ p ∧ p ≤ (M 0) 0 - 1)))) M N := by
  unfold zt_X12_isHour ab_pure at hk
  dsimp only at hk
  split at hk
  · rename_i v hv
    split at hv
    · split at hv
      · rename_i hb0
        cases hv
        rw [Nat.eq_of_beq_eq_true hb0]
        exact ⟨_, rfl, hk⟩
      · cases hv
    · cases hv
  · exact hk.elim
def zp_X12_isHour : ab_P := [(0, .iload_n 1, 1, [1], []),
  (1, .iconst 0, 2, [], [0]),
  (2, .aload_n 0, 3, [0], []),
  (3, .getfield 7, 6, [], []),
  (6, .iconst 1, 7, [], [1]),
  (7, .isub, 8, [], []),
  (8, .invokestatic 175, 11, [], []),
  (11, .ireturn, 12, [], [])]
theorem zo_X12_isHour : ab_ok cX12_isHour zp_X12_isHour = true := by decide +kernel
def zg_X12_isHour : ab_G := (zw_M, [], zf_X12, zc_X12, [], [], [(175, 3, zt_X12_in)])
theorem zm_X12_isHour : ab_MG zg_X12_isHour := ab_MGof (List.forall_mem_nil _) (List.forall_mem_cons.mpr ⟨ab_pure_mono _, List.forall_mem_nil _⟩)
abbrev zr_X12_isHour (Q : ab_R) : ab_K := ab_Run zg_X12_isHour zp_X12_isHour (some .boolean) 2 Q
set_option maxRecDepth 20000 in
theorem zv_X12_isHour_0 {Q : ab_R} {M : ab_M} {N : ab_N} (l1 : Int32) (h : narrow .boolean (.int (ab_b ((0 : Int32) ≤ l1 ∧ l1 ≤ ((M 0 0) - (1 : Int32))))) = .int (ab_b ((0 : Int32) ≤ l1 ∧ l1 ≤ ((M 0 0) - (1 : Int32)))) ∧ Q (some (.int (ab_b ((0 : Int32) ≤ l1 ∧ l1 ≤ ((M 0 0) - (1 : Int32)))))) M N) : zr_X12_isHour Q 0 [some (.ref 0), some (.int l1)] [] M N := ab_Run_s zm_X12_isHour (sp := []) 10 h
theorem zH_X12_isHour (p : Int32) {M : ab_M} {N : ab_N} {k : ab_R} (hk : k (some (.int (ab_b (0 ≤ p ∧ p ≤ (M 0) 0 - 1)))) M N) : zr_X12_isHour k 0 [some (.ref 0), some (.int p)] [] M N := by
  refine zv_X12_isHour_0 _ ?_
  (repeat' first | exact ab_vpk (by decide) | exact hp | refine And.intro ?_ ?_ | intro _)
  all_goals first | rfl | exact ab_b_n | (refine ab_qi hk ?_; (try unfold ab_b at *); grind) | grind
abbrev zR_X12_isHour : Room := { frames := 1, cells := 0, slots := 0, locals := 22 }
theorem zV_X12_isHour : ab_recv zw_M vwCl RX12 zt_X12_isHour := fun as M N k h => by
  obtain ⟨_, rfl, -⟩ := zI_X12_isHour h
  exact ⟨_, _, _, _, _, _, rfl, rfl, rfl⟩
theorem zE_X12_isHour (as : List Value) (M : ab_M) (N : ab_N) (k : ab_R) (hk : zt_X12_isHour as M N k) : ab_cs as ≤ 2 ∧ zr_X12_isHour k 0 (ab_en as) [] M N := by
  obtain ⟨p, rfl, hk2⟩ := zI_X12_isHour hk
  exact ⟨Nat.le_of_ble_eq_true rfl, zH_X12_isHour p hk2⟩
set_option maxRecDepth 20000 in
theorem zM_X12_isHour (l : Launch) : ab_Met l zw_M vwCl zZ_M yX12_isHour cX12_isHour 2 (some .boolean) zR_X12_isHour zt_X12_isHour := ab_ofRun (G := zg_X12_isHour) (P := zp_X12_isHour) rfl zo_X12_isHour (by decide +kernel) zl_cl zl_lamM zf_X12_ok ab_Tab_nil zc_X12_ok ab_Sta_nil (List.forall_mem_nil _) (List.forall_mem_cons.mpr ⟨ab_callS zZ_M_ok (zM_X12_in l) (ab_in 1200 (by decide +kernel) rfl) (ab_in 1198 (by decide +kernel) rfl) (ab_in 1199 (by decide +kernel) rfl) (ab_in 17 (by decide +kernel) rfl) (by unfold ab_yok; decide +kernel) ⟨rfl, rfl⟩ (by decide), List.forall_mem_nil _⟩) zE_X12_isHour
def zrk (s : Int32) : Int32 := if s = 0 then 0 else if s = 11 then 1 else if s = 12 then 2 else if s = 13 then 3 else if s ≤ 15 then 4 else if s ≤ 17 then 5 else if s = 18 then 6 else 7
def zt_X12_rank : ab_T := ab_pure (fun as M N => match as with
  | [.int s] => some (.int (zrk s))
  | _ => none)
theorem zI_X12_rank {as : List Value} {M : ab_M} {N : ab_N} {k : ab_R} (hk : zt_X12_rank as M N k) : ∃ (s : Int32), as = [.int s] ∧ k (some (.int (zrk s))) M N := by
  unfold zt_X12_rank ab_pure at hk
  dsimp only at hk
  split at hk
  · rename_i v hv
    split at hv
    · cases hv
      exact ⟨_, rfl, hk⟩
    · cases hv
  · exact hk.elim
def zp_X12_rank : ab_P := [(0, .iload_n 0, 1, [0], []),
  (1, .ifCond .ne 7, 4, [8], []),
  (4, .iconst 0, 5, [], [0]),
  (5, .goto 66, 8, [71], []),
  (8, .iload_n 0, 9, [0], []),
  (9, .bipush 11, 11, [], [11]),
  (11, .if_icmp .ne 7, 14, [18], []),
  (14, .iconst 1, 15, [], [1]),
  (15, .goto 56, 18, [71], []),
  (18, .iload_n 0, 19, [0], []),
  (19, .bipush 12, 21, [], [12]),
  (21, .if_icmp .ne 7, 24, [28], []),
  (24, .iconst 2, 25, [], [2]),
  (25, .goto 46, 28, [71], []),
  (28, .iload_n 0, 29, [0], []),
  (29, .bipush 13, 31, [], [13]),
  (31, .if_icmp .ne 7, 34, [38], []),
  (34, .iconst 3, 35, [], [3]),
  (35, .goto 36, 38, [71], []),
  (38, .iload_n 0, 39, [0], []),
  (39, .bipush 15, 41, [], [15]),
  (41, .if_icmp .gt 7, 44, [48], []),
  (44, .iconst 4, 45, [], [4]),
  (45, .goto 26, 48, [71], []),
  (48, .iload_n 0, 49, [0], []),
  (49, .bipush 17, 51, [], [17]),
  (51, .if_icmp .gt 7, 54, [58], []),
  (54, .iconst 5, 55, [], [5]),
  (55, .goto 16, 58, [71], []),
  (58, .iload_n 0, 59, [0], []),
  (59, .bipush 18, 61, [], [18]),
  (61, .if_icmp .ne 8, 64, [69], []),
  (64, .bipush 6, 66, [], [6]),
  (66, .goto 5, 69, [71], []),
  (69, .bipush 7, 71, [], [7]),
  (71, .ireturn, 72, [], [])]
theorem zo_X12_rank : ab_ok cX12_rank zp_X12_rank = true := by decide +kernel
def zg_X12_rank : ab_G := (zw_M, [], zf_X12, zc_X12, [], [], [])
theorem zm_X12_rank : ab_MG zg_X12_rank := ab_MGof (List.forall_mem_nil _) (List.forall_mem_nil _)
abbrev zr_X12_rank (Q : ab_R) : ab_K := ab_Run zg_X12_rank zp_X12_rank (some .int) 1 Q
set_option maxRecDepth 20000 in
theorem zv_X12_rank_0 {Q : ab_R} {M : ab_M} {N : ab_N} (l0 : Int32) (h : (l0 = 0 → Q (some (.int (0 : Int32))) M N) ∧ (¬ (l0 = 0) → (l0 = (11 : Int32) → Q (some (.int (1 : Int32))) M N) ∧ (¬ (l0 = (11 : Int32)) → (l0 = (12 : Int32) → Q (some (.int (2 : Int32))) M N) ∧ (¬ (l0 = (12 : Int32)) → (l0 = (13 : Int32) → Q (some (.int (3 : Int32))) M N) ∧ (¬ (l0 = (13 : Int32)) → ((15 : Int32) < l0 → ((17 : Int32) < l0 → (l0 = (18 : Int32) → Q (some (.int (6 : Int32))) M N) ∧ (¬ (l0 = (18 : Int32)) → Q (some (.int (7 : Int32))) M N)) ∧ (¬ ((17 : Int32) < l0) → Q (some (.int (5 : Int32))) M N)) ∧ (¬ ((15 : Int32) < l0) → Q (some (.int (4 : Int32))) M N)))))) : zr_X12_rank Q 0 [some (.int l0)] [] M N := ab_Run_s zm_X12_rank (sp := []) 38 h
theorem zH_X12_rank (s : Int32) {M : ab_M} {N : ab_N} {k : ab_R} (hk : k (some (.int (zrk s))) M N) : zr_X12_rank k 0 [some (.int s)] [] M N := by
  refine zv_X12_rank_0 _ ?_
  (repeat' first | exact ab_vpk (by decide) | exact hp | refine And.intro ?_ ?_ | intro _)
  all_goals first | rfl | exact ab_b_n | (refine ab_qi hk ?_; (try unfold ab_b at *); grind [ab_b, zrk]) | grind
abbrev zR_X12_rank : Room := { frames := 0, cells := 0, slots := 0, locals := 0 }
theorem zE_X12_rank (as : List Value) (M : ab_M) (N : ab_N) (k : ab_R) (hk : zt_X12_rank as M N k) : ab_cs as ≤ 1 ∧ zr_X12_rank k 0 (ab_en as) [] M N := by
  obtain ⟨s, rfl, hk2⟩ := zI_X12_rank hk
  exact ⟨Nat.le_of_ble_eq_true rfl, zH_X12_rank s hk2⟩
set_option maxRecDepth 20000 in
theorem zM_X12_rank (l : Launch) : ab_Met l zw_M vwCl zZ_M yX12_rank cX12_rank 1 (some .int) zR_X12_rank zt_X12_rank := ab_ofRun (G := zg_X12_rank) (P := zp_X12_rank) rfl zo_X12_rank (by decide +kernel) zl_cl zl_lamM zf_X12_ok ab_Tab_nil zc_X12_ok ab_Sta_nil (List.forall_mem_nil _) (List.forall_mem_nil _) zE_X12_rank
def zj2 (c a b : Int32) : Int32 := if c = 11 then ab_b (¬ a = 0 ∨ ¬ b = 0) else if c = 12 then ab_b (¬ a = 0 ∧ ¬ b = 0) else if c = 14 then ab_b (a < b) else if c = 15 then ab_b (a = b) else if c = 16 then a + b else if c = 17 then a - b else a * b
def zt_X12_two : ab_T := ab_pure (fun as M N => match as with
  | [.int c, .int a, .int b] => some (.int (zj2 c a b))
  | _ => none)
theorem zI_X12_two {as : List Value} {M : ab_M} {N : ab_N} {k : ab_R} (hk : zt_X12_two as M N k) : ∃ (c : Int32) (a : Int32) (b : Int32), as = [.int c, .int a, .int b] ∧ k (some (.int (zj2 c a b))) M N := by
  unfold zt_X12_two ab_pure at hk
  dsimp only at hk
  split at hk
  · rename_i v hv
    split at hv
    · cases hv
      exact ⟨_, _, _, rfl, hk⟩
    · cases hv
  · exact hk.elim
def zp_X12_two : ab_P := [(0, .iload_n 0, 1, [0], []),
  (1, .tableswitch 101 11 17 #[43, 57, 101, 71, 82, 93, 97], 44, [102, 44, 58, 102, 72, 83, 94, 98], [11, 12, 13, 14, 15, 16, 17]),
  (44, .iload_n 1, 45, [1], []),
  (45, .ifCond .ne 7, 48, [52], []),
  (48, .iload_n 2, 49, [2], []),
  (49, .ifCond .eq 7, 52, [56], []),
  (52, .iconst 1, 53, [], [1]),
  (53, .goto 4, 56, [57], []),
  (56, .iconst 0, 57, [], [0]),
  (57, .ireturn, 58, [], []),
  (58, .iload_n 1, 59, [1], []),
  (59, .ifCond .eq 11, 62, [70], []),
  (62, .iload_n 2, 63, [2], []),
  (63, .ifCond .eq 7, 66, [70], []),
  (66, .iconst 1, 67, [], [1]),
  (67, .goto 4, 70, [71], []),
  (70, .iconst 0, 71, [], [0]),
  (71, .ireturn, 72, [], []),
  (72, .iload_n 1, 73, [1], []),
  (73, .iload_n 2, 74, [2], []),
  (74, .if_icmp .ge 7, 77, [81], []),
  (77, .iconst 1, 78, [], [1]),
  (78, .goto 4, 81, [82], []),
  (81, .iconst 0, 82, [], [0]),
  (82, .ireturn, 83, [], []),
  (83, .iload_n 1, 84, [1], []),
  (84, .iload_n 2, 85, [2], []),
  (85, .if_icmp .ne 7, 88, [92], []),
  (88, .iconst 1, 89, [], [1]),
  (89, .goto 4, 92, [93], []),
  (92, .iconst 0, 93, [], [0]),
  (93, .ireturn, 94, [], []),
  (94, .iload_n 1, 95, [1], []),
  (95, .iload_n 2, 96, [2], []),
  (96, .iadd, 97, [], []),
  (97, .ireturn, 98, [], []),
  (98, .iload_n 1, 99, [1], []),
  (99, .iload_n 2, 100, [2], []),
  (100, .isub, 101, [], []),
  (101, .ireturn, 102, [], []),
  (102, .iload_n 1, 103, [1], []),
  (103, .iload_n 2, 104, [2], []),
  (104, .imul, 105, [], []),
  (105, .ireturn, 106, [], [])]
theorem zo_X12_two : ab_ok cX12_two zp_X12_two = true := by decide +kernel
def zg_X12_two : ab_G := (zw_M, [], zf_X12, zc_X12, [], [], [])
theorem zm_X12_two : ab_MG zg_X12_two := ab_MGof (List.forall_mem_nil _) (List.forall_mem_nil _)
abbrev zr_X12_two (Q : ab_R) : ab_K := ab_Run zg_X12_two zp_X12_two (some .int) 3 Q
set_option maxRecDepth 20000 in
theorem zv_X12_two_0 {Q : ab_R} {M : ab_M} {N : ab_N} (l0 : Int32) (l1 : Int32) (l2 : Int32) (h : (l0 = 11 → (l1 = 0 → (l2 = 0 → Q (some (.int (0 : Int32))) M N) ∧ (¬ (l2 = 0) → Q (some (.int (1 : Int32))) M N)) ∧ (¬ (l1 = 0) → Q (some (.int (1 : Int32))) M N)) ∧ (¬ l0 = 11 → (l0 = 12 → (l1 = 0 → Q (some (.int (0 : Int32))) M N) ∧ (¬ (l1 = 0) → (l2 = 0 → Q (some (.int (0 : Int32))) M N) ∧ (¬ (l2 = 0) → Q (some (.int (1 : Int32))) M N))) ∧ (¬ l0 = 12 → (l0 = 13 → Q (some (.int (l1 * l2))) M N) ∧ (¬ l0 = 13 → (l0 = 14 → (l2 ≤ l1 → Q (some (.int (0 : Int32))) M N) ∧ (¬ (l2 ≤ l1) → Q (some (.int (1 : Int32))) M N)) ∧ (¬ l0 = 14 → (l0 = 15 → (l1 = l2 → Q (some (.int (1 : Int32))) M N) ∧ (¬ (l1 = l2) → Q (some (.int (0 : Int32))) M N)) ∧ (¬ l0 = 15 → (l0 = 16 → Q (some (.int (l1 + l2))) M N) ∧ (¬ l0 = 16 → (l0 = 17 → Q (some (.int (l1 - l2))) M N) ∧ (¬ l0 = 17 → Q (some (.int (l1 * l2))) M N)))))))) : zr_X12_two Q 0 [some (.int l0), some (.int l1), some (.int l2)] [] M N := ab_Run_s zm_X12_two (sp := []) 46 h
theorem zH_X12_two (c : Int32) (a : Int32) (b : Int32) {M : ab_M} {N : ab_N} {k : ab_R} (hk : k (some (.int (zj2 c a b))) M N) : zr_X12_two k 0 [some (.int c), some (.int a), some (.int b)] [] M N := by
  refine zv_X12_two_0 _ _ _ ?_
  (repeat' first | exact ab_vpk (by decide) | exact hp | refine And.intro ?_ ?_ | intro _)
  all_goals first | rfl | exact ab_b_n | (refine ab_qi hk ?_; (try unfold ab_b at *); grind [ab_b, zj2]) | grind
abbrev zR_X12_two : Room := { frames := 0, cells := 0, slots := 0, locals := 0 }
theorem zE_X12_two (as : List Value) (M : ab_M) (N : ab_N) (k : ab_R) (hk : zt_X12_two as M N k) : ab_cs as ≤ 3 ∧ zr_X12_two k 0 (ab_en as) [] M N := by
  obtain ⟨c, a, b, rfl, hk2⟩ := zI_X12_two hk
  exact ⟨Nat.le_of_ble_eq_true rfl, zH_X12_two c a b hk2⟩
set_option maxRecDepth 20000 in
theorem zM_X12_two (l : Launch) : ab_Met l zw_M vwCl zZ_M yX12_two cX12_two 3 (some .int) zR_X12_two zt_X12_two := ab_ofRun (G := zg_X12_two) (P := zp_X12_two) rfl zo_X12_two (by decide +kernel) zl_cl zl_lamM zf_X12_ok ab_Tab_nil zc_X12_ok ab_Sta_nil (List.forall_mem_nil _) (List.forall_mem_nil _) zE_X12_two
def zTow2 (f t v : Int32) : Int32 := if f < t then f + (if t - f < v then t - f else v) else f - (if f - t < v then f - t else v)
def zt_X12_towards : ab_T := ab_pure (fun as M N => match as with
  | [.int f, .int t, .int v] => some (.int (zTow2 f t v))
  | _ => none)
theorem zI_X12_towards {as : List Value} {M : ab_M} {N : ab_N} {k : ab_R} (hk : zt_X12_towards as M N k) : ∃ (f : Int32) (t : Int32) (v : Int32), as = [.int f, .int t, .int v] ∧ k (some (.int (zTow2 f t v))) M N := by
  unfold zt_X12_towards ab_pure at hk
  dsimp only at hk
  split at hk
  · rename_i v hv
    split at hv
    · cases hv
      exact ⟨_, _, _, rfl, hk⟩
    · cases hv
  · exact hk.elim
def zp_X12_towards : ab_P := [(0, .iload_n 0, 1, [0], []),
  (1, .iload_n 1, 2, [1], []),
  (2, .if_icmp .ge 22, 5, [24], []),
  (5, .iload_n 0, 6, [0], []),
  (6, .iload_n 1, 7, [1], []),
  (7, .iload_n 0, 8, [0], []),
  (8, .isub, 9, [], []),
  (9, .iload_n 2, 10, [2], []),
  (10, .if_icmp .ge 9, 13, [19], []),
  (13, .iload_n 1, 14, [1], []),
  (14, .iload_n 0, 15, [0], []),
  (15, .isub, 16, [], []),
  (16, .goto 4, 19, [20], []),
  (19, .iload_n 2, 20, [2], []),
  (20, .iadd, 21, [], []),
  (21, .goto 19, 24, [40], []),
  (24, .iload_n 0, 25, [0], []),
  (25, .iload_n 0, 26, [0], []),
  (26, .iload_n 1, 27, [1], []),
  (27, .isub, 28, [], []),
  (28, .iload_n 2, 29, [2], []),
  (29, .if_icmp .ge 9, 32, [38], []),
  (32, .iload_n 0, 33, [0], []),
  (33, .iload_n 1, 34, [1], []),
  (34, .isub, 35, [], []),
  (35, .goto 4, 38, [39], []),
  (38, .iload_n 2, 39, [2], []),
  (39, .isub, 40, [], []),
  (40, .ireturn, 41, [], [])]
theorem zo_X12_towards : ab_ok cX12_towards zp_X12_towards = true := by decide +kernel
def zg_X12_towards : ab_G := (zw_M, [], zf_X12, zc_X12, [], [], [])
theorem zm_X12_towards : ab_MG zg_X12_towards := ab_MGof (List.forall_mem_nil _) (List.forall_mem_nil _)
abbrev zr_X12_towards (Q : ab_R) : ab_K := ab_Run zg_X12_towards zp_X12_towards (some .int) 3 Q
set_option maxRecDepth 20000 in
theorem zv_X12_towards_0 {Q : ab_R} {M : ab_M} {N : ab_N} (l0 : Int32) (l1 : Int32) (l2 : Int32) (h : (l1 ≤ l0 → (l2 ≤ (l0 - l1) → Q (some (.int (l0 - l2))) M N) ∧ (¬ (l2 ≤ (l0 - l1)) → Q (some (.int (l0 - (l0 - l1)))) M N)) ∧ (¬ (l1 ≤ l0) → (l2 ≤ (l1 - l0) → Q (some (.int (l0 + l2))) M N) ∧ (¬ (l2 ≤ (l1 - l0)) → Q (some (.int (l0 + (l1 - l0)))) M N))) : zr_X12_towards Q 0 [some (.int l0), some (.int l1), some (.int l2)] [] M N := ab_Run_s zm_X12_towards (sp := []) 31 h
theorem zH_X12_towards (f : Int32) (t : Int32) (v : Int32) {M : ab_M} {N : ab_N} {k : ab_R} (hk : k (some (.int (zTow2 f t v))) M N) : zr_X12_towards k 0 [some (.int f), some (.int t), some (.int v)] [] M N := by
  refine zv_X12_towards_0 _ _ _ ?_
  (repeat' first | exact ab_vpk (by decide) | exact hp | refine And.intro ?_ ?_ | intro _)
  all_goals first | rfl | exact ab_b_n | (refine ab_qi hk ?_; (try unfold ab_b at *); grind [ab_b, zTow2]) | grind
abbrev zR_X12_towards : Room := { frames := 0, cells := 0, slots := 0, locals := 0 }
theorem zE_X12_towards (as : List Value) (M : ab_M) (N : ab_N) (k : ab_R) (hk : zt_X12_towards as M N k) : ab_cs as ≤ 3 ∧ zr_X12_towards k 0 (ab_en as) [] M N := by
  obtain ⟨f, t, v, rfl, hk2⟩ := zI_X12_towards hk
  exact ⟨Nat.le_of_ble_eq_true rfl, zH_X12_towards f t v hk2⟩
set_option maxRecDepth 20000 in
theorem zM_X12_towards (l : Launch) : ab_Met l zw_M vwCl zZ_M yX12_towards cX12_towards 3 (some .int) zR_X12_towards zt_X12_towards := ab_ofRun (G := zg_X12_towards) (P := zp_X12_towards) rfl zo_X12_towards (by decide +kernel) zl_cl zl_lamM zf_X12_ok ab_Tab_nil zc_X12_ok ab_Sta_nil (List.forall_mem_nil _) (List.forall_mem_nil _) zE_X12_towards
def zt_X12_isUnder : ab_T := ab_pure (fun as M N => match as with
  | [.int x, .int o] => some (.int (ab_b (o = 0 ∨ x = o ∨ (o = 1 ∧ (x = 4 ∨ x = 5)))))
  | _ => none)
theorem zI_X12_isUnder {as : List Value} {M : ab_M} {N : ab_N} {k : ab_R} (hk : zt_X12_isUnder as M N k) : ∃ (x : Int32) (o : Int32), as = [.int x, .int o] ∧ k (some (.int (ab_b (o = 0 ∨ x = o ∨ (o = 1 ∧ (x = 4 ∨ x = 5)))))) M N := by
  unfold zt_X12_isUnder ab_pure at hk
  dsimp only at hk
  split at hk
  · rename_i v hv
    split at hv
    · cases hv
      exact ⟨_, _, rfl, hk⟩
    · cases hv
  · exact hk.elim
def zp_X12_isUnder : ab_P := [(0, .iload_n 1, 1, [1], []),
  (1, .ifCond .eq 23, 4, [24], []),
  (4, .iload_n 0, 5, [0], []),
  (5, .iload_n 1, 6, [1], []),
  (6, .if_icmp .eq 18, 9, [24], []),
  (9, .iload_n 1, 10, [1], []),
  (10, .iconst 1, 11, [], [1]),
  (11, .if_icmp .ne 17, 14, [28], []),
  (14, .iload_n 0, 15, [0], []),
  (15, .iconst 4, 16, [], [4]),
  (16, .if_icmp .eq 8, 19, [24], []),
  (19, .iload_n 0, 20, [0], []),
  (20, .iconst 5, 21, [], [5]),
  (21, .if_icmp .ne 7, 24, [28], []),
  (24, .iconst 1, 25, [], [1]),
  (25, .goto 4, 28, [29], []),
  (28, .iconst 0, 29, [], [0]),
  (29, .ireturn, 30, [], [])]
theorem zo_X12_isUnder : ab_ok cX12_isUnder zp_X12_isUnder = true := by decide +kernel
def zg_X12_isUnder : ab_G := (zw_M, [], zf_X12, zc_X12, [], [], [])
theorem zm_X12_isUnder : ab_MG zg_X12_isUnder := ab_MGof (List.forall_mem_nil _) (List.forall_mem_nil _)
abbrev zr_X12_isUnder (Q : ab_R) : ab_K := ab_Run zg_X12_isUnder zp_X12_isUnder (some .boolean) 2 Q
set_option maxRecDepth 20000 in
theorem zv_X12_isUnder_0 {Q : ab_R} {M : ab_M} {N : ab_N} (l0 : Int32) (l1 : Int32) (h : (l1 = 0 → narrow .boolean (.int (1 : Int32)) = .int (1 : Int32) ∧ Q (some (.int (1 : Int32))) M N) ∧ (¬ (l1 = 0) → (l0 = l1 → narrow .boolean (.int (1 : Int32)) = .int (1 : Int32) ∧ Q (some (.int (1 : Int32))) M N) ∧ (¬ (l0 = l1) → (l1 = (1 : Int32) → (l0 = (4 : Int32) → narrow .boolean (.int (1 : Int32)) = .int (1 : Int32) ∧ Q (some (.int (1 : Int32))) M N) ∧ (¬ (l0 = (4 : Int32)) → (l0 = (5 : Int32) → narrow .boolean (.int (1 : Int32)) = .int (1 : Int32) ∧ Q (some (.int (1 : Int32))) M N) ∧ (¬ (l0 = (5 : Int32)) → narrow .boolean (.int (0 : Int32)) = .int (0 : Int32) ∧ Q (some (.int (0 : Int32))) M N))) ∧ (¬ (l1 = (1 : Int32)) → narrow .boolean (.int (0 : Int32)) = .int (0 : Int32) ∧ Q (some (.int (0 : Int32))) M N)))) : zr_X12_isUnder Q 0 [some (.int l0), some (.int l1)] [] M N := ab_Run_s zm_X12_isUnder (sp := []) 20 h
theorem zH_X12_isUnder (x : Int32) (o : Int32) {M : ab_M} {N : ab_N} {k : ab_R} (hk : k (some (.int (ab_b (o = 0 ∨ x = o ∨ (o = 1 ∧ (x = 4 ∨ x = 5)))))) M N) : zr_X12_isUnder k 0 [some (.int x), some (.int o)] [] M N := by
  refine zv_X12_isUnder_0 _ _ ?_
  (repeat' first | exact ab_vpk (by decide) | exact hp | refine And.intro ?_ ?_ | intro _)
  all_goals first | rfl | exact ab_b_n | (refine ab_qi hk ?_; (try unfold ab_b at *); grind) | grind
abbrev zR_X12_isUnder : Room := { frames := 0, cells := 0, slots := 0, locals := 0 }
theorem zE_X12_isUnder (as : List Value) (M : ab_M) (N : ab_N) (k : ab_R) (hk : zt_X12_isUnder as M N k) : ab_cs as ≤ 2 ∧ zr_X12_isUnder k 0 (ab_en as) [] M N := by
  obtain ⟨x, o, rfl, hk2⟩ := zI_X12_isUnder hk
  exact ⟨Nat.le_of_ble_eq_true rfl, zH_X12_isUnder x o hk2⟩
set_option maxRecDepth 20000 in
theorem zM_X12_isUnder (l : Launch) : ab_Met l zw_M vwCl zZ_M yX12_isUnder cX12_isUnder 2 (some .boolean) zR_X12_isUnder zt_X12_isUnder := ab_ofRun (G := zg_X12_isUnder) (P := zp_X12_isUnder) rfl zo_X12_isUnder (by decide +kernel) zl_cl zl_lamM zf_X12_ok ab_Tab_nil zc_X12_ok ab_Sta_nil (List.forall_mem_nil _) (List.forall_mem_nil _) zE_X12_isUnder
def zt_X12_isVillage : ab_T := ab_pure (fun as M N => match as with
  | [.ref r1, .int p, .int h] => (match Nat.beq r1 0 with | true => some (.int (ab_b (0 ≤ (M 0) 5 ∧ p < (M 0) 3 ∧ (M 0) 5 + (M 0) 4 ≤ h))) | false => none)
  | _ => none)
theorem zI_X12_isVillage {as : List Value} {M : ab_M} {N : ab_N} {k : ab_R} (hk : zt_X12_isVillage as M N k) : ∃ (p : Int32) (h : Int32), as = [.ref 0, .int p, .int h] ∧ k (some (.int (ab_b (0 ≤ (M 0) 5 ∧ p < (M 0) 3 ∧ (M 0) 5 + (M 0) 4 ≤ h)))) M N := by
  unfold zt_X12_isVillage ab_pure at hk
  dsimp only at hk
  split at hk
  · rename_i v hv
    split at hv
    · split at hv
      · rename_i hb0
        cases hv
        rw [Nat.eq_of_beq_eq_true hb0]
        exact ⟨_, _, rfl, hk⟩
      · cases hv
    · cases hv
  · exact hk.elim
def zp_X12_isVillage : ab_P := [(0, .aload_n 0, 1, [0], []),
  (1, .getfield 22, 4, [], []),
  (4, .ifCond .lt 28, 7, [32], []),
  (7, .iload_n 1, 8, [1], []),
  (8, .aload_n 0, 9, [0], []),
  (9, .getfield 16, 12, [], []),
  (12, .if_icmp .ge 20, 15, [32], []),
  (15, .iload_n 2, 16, [2], []),
  (16, .aload_n 0, 17, [0], []),
  (17, .getfield 22, 20, [], []),
  (20, .aload_n 0, 21, [0], []),
  (21, .getfield 19, 24, [], []),
  (24, .iadd, 25, [], []),
  (25, .if_icmp .lt 7, 28, [32], []),
  (28, .iconst 1, 29, [], [1]),
  (29, .goto 4, 32, [33], []),
  (32, .iconst 0, 33, [], [0]),
  (33, .ireturn, 34, [], [])]
theorem zo_X12_isVillage : ab_ok cX12_isVillage zp_X12_isVillage = true := by decide +kernel
def zg_X12_isVillage : ab_G := (zw_M, [], zf_X12, zc_X12, [], [], [])
theorem zm_X12_isVillage : ab_MG zg_X12_isVillage := ab_MGof (List.forall_mem_nil _) (List.forall_mem_nil _)
abbrev zr_X12_isVillage (Q : ab_R) : ab_K := ab_Run zg_X12_isVillage zp_X12_isVillage (some .boolean) 3 Q
set_option maxRecDepth 20000 in
theorem zv_X12_isVillage_0 {Q : ab_R} {M : ab_M} {N : ab_N} (l1 : Int32) (l2 : Int32) (h : ((M 0 5) < 0 → narrow .boolean (.int (0 : Int32)) = .int (0 : Int32) ∧ Q (some (.int (0 : Int32))) M N) ∧ (¬ ((M 0 5) < 0) → ((M 0 3) ≤ l1 → narrow .boolean (.int (0 : Int32)) = .int (0 : Int32) ∧ Q (some (.int (0 : Int32))) M N) ∧ (¬ ((M 0 3) ≤ l1) → (l2 < ((M 0 5) + (M 0 4)) → narrow .boolean (.int (0 : Int32)) = .int (0 : Int32) ∧ Q (some (.int (0 : Int32))) M N) ∧ (¬ (l2 < ((M 0 5) + (M 0 4))) → narrow .boolean (.int (1 : Int32)) = .int (1 : Int32) ∧ Q (some (.int (1 : Int32))) M N)))) : zr_X12_isVillage Q 0 [some (.ref 0), some (.int l1), some (.int l2)] [] M N := ab_Run_s zm_X12_isVillage (sp := []) 20 h
theorem zH_X12_isVillage (p : Int32) (h : Int32) {M : ab_M} {N : ab_N} {k : ab_R} (hk : k (some (.int (ab_b (0 ≤ (M 0) 5 ∧ p < (M 0) 3 ∧ (M 0) 5 + (M 0) 4 ≤ h)))) M N) : zr_X12_isVillage k 0 [some (.ref 0), some (.int p), some (.int h)] [] M N := by
  refine zv_X12_isVillage_0 _ _ ?_
  (repeat' first | exact ab_vpk (by decide) | exact hp | refine And.intro ?_ ?_ | intro _)
  all_goals first | rfl | exact ab_b_n | (refine ab_qi hk ?_; (try unfold ab_b at *); grind) | grind
abbrev zR_X12_isVillage : Room := { frames := 0, cells := 0, slots := 0, locals := 0 }
theorem zV_X12_isVillage : ab_recv zw_M vwCl RX12 zt_X12_isVillage := fun as M N k h => by
  obtain ⟨_, _, rfl, -⟩ := zI_X12_isVillage h
  exact ⟨_, _, _, _, _, _, rfl, rfl, rfl⟩
theorem zE_X12_isVillage (as : List Value) (M : ab_M) (N : ab_N) (k : ab_R) (hk : zt_X12_isVillage as M N k) : ab_cs as ≤ 3 ∧ zr_X12_isVillage k 0 (ab_en as) [] M N := by
  obtain ⟨p, h, rfl, hk2⟩ := zI_X12_isVillage hk
  exact ⟨Nat.le_of_ble_eq_true rfl, zH_X12_isVillage p h hk2⟩
set_option maxRecDepth 20000 in
theorem zM_X12_isVillage (l : Launch) : ab_Met l zw_M vwCl zZ_M yX12_isVillage cX12_isVillage 3 (some .boolean) zR_X12_isVillage zt_X12_isVillage := ab_ofRun (G := zg_X12_isVillage) (P := zp_X12_isVillage) rfl zo_X12_isVillage (by decide +kernel) zl_cl zl_lamM zf_X12_ok ab_Tab_nil zc_X12_ok ab_Sta_nil (List.forall_mem_nil _) (List.forall_mem_nil _) zE_X12_isVillage
def zt_X12_doesLook : ab_T := ab_pp (fun as M N => match as with
  | [.ref r1, .int m, .int h] => (match Nat.beq r1 0 with | true => some ((vp_in m 5 ∧ ¬ (M 10) m.toNatClampNeg + 2 = 0), (.int (ab_b (¬ m = (M 0) 30 ∧ (¬ (M 6) m.toNatClampNeg = 5 ∨ ¬ h - h / ((M 10) m.toNatClampNeg + 2) * ((M 10) m.toNatClampNeg + 2) = (M 10) m.toNatClampNeg + 1))))) | false => none)
  | _ => none)
theorem zI_X12_doesLook {as : List Value} {M : ab_M} {N : ab_N} {k : ab_R} (hk : zt_X12_doesLook as M N k) : ∃ (m : Int32) (h : Int32), as = [.ref 0, .int m, .int h] ∧ (vp_in m 5 ∧ ¬ (M 10) m.toNatClampNeg + 2 = 0) ∧ k (some (.int (ab_b (¬ m = (M 0) 30 ∧ (¬ (M 6) m.toNatClampNeg = 5 ∨ ¬ h - h / ((M 10) m.toNatClampNeg + 2) * ((M 10) m.toNatClampNeg + 2) = (M 10) m.toNatClampNeg + 1))))) M N := by
  unfold zt_X12_doesLook ab_pp at hk
  dsimp only at hk
  split at hk
  · rename_i v hv
    split at hv
    · split at hv
      · rename_i hb0
        cases hv
        rw [Nat.eq_of_beq_eq_true hb0]
        exact ⟨_, _, rfl, hk⟩
      · cases hv
    · cases hv
  · exact hk.elim
def zp_X12_doesLook : ab_P := [(0, .iload_n 1, 1, [1], []),
  (1, .aload_n 0, 2, [0], []),
  (2, .getfield 77, 5, [], []),
  (5, .if_icmp .eq 38, 8, [43], []),
  (8, .aload_n 0, 9, [0], []),
  (9, .getfield 41, 12, [], []),
  (12, .iload_n 1, 13, [1], []),
  (13, .iaload, 14, [], []),
  (14, .iconst 5, 15, [], [5]),
  (15, .if_icmp .ne 24, 18, [39], []),
  (18, .iload_n 2, 19, [2], []),
  (19, .aload_n 0, 20, [0], []),
  (20, .getfield 53, 23, [], []),
  (23, .iload_n 1, 24, [1], []),
  (24, .iaload, 25, [], []),
  (25, .iconst 2, 26, [], [2]),
  (26, .iadd, 27, [], []),
  (27, .irem, 28, [], []),
  (28, .aload_n 0, 29, [0], []),
  (29, .getfield 53, 32, [], []),
  (32, .iload_n 1, 33, [1], []),
  (33, .iaload, 34, [], []),
  (34, .iconst 1, 35, [], [1]),
  (35, .iadd, 36, [], []),
  (36, .if_icmp .eq 7, 39, [43], []),
  (39, .iconst 1, 40, [], [1]),
  (40, .goto 4, 43, [44], []),
  (43, .iconst 0, 44, [], [0]),
  (44, .ireturn, 45, [], [])]
theorem zo_X12_doesLook : ab_ok cX12_doesLook zp_X12_doesLook = true := by decide +kernel
def zg_X12_doesLook : ab_G := (zw_M, [], zf_X12, zc_X12, [], [], [])
theorem zm_X12_doesLook : ab_MG zg_X12_doesLook := ab_MGof (List.forall_mem_nil _) (List.forall_mem_nil _)
abbrev zr_X12_doesLook (Q : ab_R) : ab_K := ab_Run zg_X12_doesLook zp_X12_doesLook (some .boolean) 3 Q
set_option maxRecDepth 20000 in
theorem zv_X12_doesLook_0 {Q : ab_R} {M : ab_M} {N : ab_N} (l1 : Int32) (l2 : Int32) (h : (l1 = (M 0 30) → narrow .boolean (.int (0 : Int32)) = .int (0 : Int32) ∧ Q (some (.int (0 : Int32))) M N) ∧ (¬ (l1 = (M 0 30)) → vp_in l1 5 ∧ (((M 6 l1.toNatClampNeg) = (5 : Int32) → vp_in l1 5 ∧ (¬ ((M 10 l1.toNatClampNeg) + (2 : Int32)) = 0 ∧ (vp_in l1 5 ∧ (((l2 - l2 / ((M 10 l1.toNatClampNeg) + (2 : Int32)) * ((M 10 l1.toNatClampNeg) + (2 : Int32))) = ((M 10 l1.toNatClampNeg) + (1 : Int32)) → narrow .boolean (.int (0 : Int32)) = .int (0 : Int32) ∧ Q (some (.int (0 : Int32))) M N) ∧ (¬ ((l2 - l2 / ((M 10 l1.toNatClampNeg) + (2 : Int32)) * ((M 10 l1.toNatClampNeg) + (2 : Int32))) = ((M 10 l1.toNatClampNeg) + (1 : Int32))) → narrow .boolean (.int (1 : Int32)) = .int (1 : Int32) ∧ Q (some (.int (1 : Int32))) M N))))) ∧ (¬ ((M 6 l1.toNatClampNeg) = (5 : Int32)) → narrow .boolean (.int (1 : Int32)) = .int (1 : Int32) ∧ Q (some (.int (1 : Int32))) M N)))) : zr_X12_doesLook Q 0 [some (.ref 0), some (.int l1), some (.int l2)] [] M N := ab_Run_s zm_X12_doesLook (sp := []) 31 h
theorem zH_X12_doesLook (m : Int32) (h : Int32) {M : ab_M} {N : ab_N} {k : ab_R} (hp : vp_in m 5 ∧ ¬ (M 10) m.toNatClampNeg + 2 = 0) (hk : k (some (.int (ab_b (¬ m = (M 0) 30 ∧ (¬ (M 6) m.toNatClampNeg = 5 ∨ ¬ h - h / ((M 10) m.toNatClampNeg + 2) * ((M 10) m.toNatClampNeg + 2) = (M 10) m.toNatClampNeg + 1))))) M N) : zr_X12_doesLook k 0 [some (.ref 0), some (.int m), some (.int h)] [] M N := by
  obtain ⟨hp, hp2⟩ := hp
  refine zv_X12_doesLook_0 _ _ ?_
  (repeat' first | exact ab_vpk (by decide) | exact hp | exact hp2 | refine And.intro ?_ ?_ | intro _)
  all_goals first | rfl | exact ab_b_n | (refine ab_qi hk ?_; (try unfold ab_b at *); grind) | grind
abbrev zR_X12_doesLook : Room := { frames := 0, cells := 0, slots := 0, locals := 0 }
theorem zV_X12_doesLook : ab_recv zw_M vwCl RX12 zt_X12_doesLook := fun as M N k h => by
  obtain ⟨_, _, rfl, -⟩ := zI_X12_doesLook h
  exact ⟨_, _, _, _, _, _, rfl, rfl, rfl⟩
theorem zE_X12_doesLook (as : List Value) (M : ab_M) (N : ab_N) (k : ab_R) (hk : zt_X12_doesLook as M N k) : ab_cs as ≤ 3 ∧ zr_X12_doesLook k 0 (ab_en as) [] M N := by
  obtain ⟨m, h, rfl, hp, hk2⟩ := zI_X12_doesLook hk
  exact ⟨Nat.le_of_ble_eq_true rfl, zH_X12_doesLook m h hp hk2⟩
set_option maxRecDepth 20000 in
theorem zM_X12_doesLook (l : Launch) : ab_Met l zw_M vwCl zZ_M yX12_doesLook cX12_doesLook 3 (some .boolean) zR_X12_doesLook zt_X12_doesLook := ab_ofRun (G := zg_X12_doesLook) (P := zp_X12_doesLook) rfl zo_X12_doesLook (by decide +kernel) zl_cl zl_lamM zf_X12_ok ab_Tab_nil zc_X12_ok ab_Sta_nil (List.forall_mem_nil _) (List.forall_mem_nil _) zE_X12_doesLook
def zSgR (t : Int32) : Int32 := if t = 4 then 11 else if t = 5 then 12 else if t = 60 then 14 else if t = 61 then 15 else if t = 43 then 16 else if t = 45 then 17 else if t = 42 then 18 else -1
def zt_X12_signOf : ab_T := ab_pure (fun as M N => match as with
  | [.ref r1] => (match Nat.beq r1 0 with | true => some (.int (zSgR ((M 0) 52))) | false => none)
  | _ => none)
theorem zI_X12_signOf {as : List Value} {M : ab_M} {N : ab_N} {k : ab_R} (hk : zt_X12_signOf as M N k) : as = [.ref 0] ∧ k (some (.int (zSgR ((M 0) 52)))) M N := by
  unfold zt_X12_signOf ab_pure at hk
  dsimp only at hk
  split at hk
  · rename_i v hv
    split at hv
    · split at hv
      · rename_i hb0
        cases hv
        rw [Nat.eq_of_beq_eq_true hb0]
        exact ⟨rfl, hk⟩
      · cases hv
    · cases hv
  · exact hk.elim
def zp_X12_signOf : ab_P := [(0, .aload_n 0, 1, [0], []),
  (1, .getfield 207, 4, [], []),
  (4, .iconst 4, 5, [], [4]),
  (5, .if_icmp .ne 8, 8, [13], []),
  (8, .bipush 11, 10, [], [11]),
  (10, .goto 87, 13, [97], []),
  (13, .aload_n 0, 14, [0], []),
  (14, .getfield 207, 17, [], []),
  (17, .iconst 5, 18, [], [5]),
  (18, .if_icmp .ne 8, 21, [26], []),
  (21, .bipush 12, 23, [], [12]),
  (23, .goto 74, 26, [97], []),
  (26, .aload_n 0, 27, [0], []),
  (27, .getfield 207, 30, [], []),
  (30, .bipush 60, 32, [], [60]),
  (32, .if_icmp .ne 8, 35, [40], []),
  (35, .bipush 14, 37, [], [14]),
  (37, .goto 60, 40, [97], []),
  (40, .aload_n 0, 41, [0], []),
  (41, .getfield 207, 44, [], []),
  (44, .bipush 61, 46, [], [61]),
  (46, .if_icmp .ne 8, 49, [54], []),
  (49, .bipush 15, 51, [], [15]),
  (51, .goto 46, 54, [97], []),
  (54, .aload_n 0, 55, [0], []),
  (55, .getfield 207, 58, [], []),
  (58, .bipush 43, 60, [], [43]),
  (60, .if_icmp .ne 8, 63, [68], []),
  (63, .bipush 16, 65, [], [16]),
  (65, .goto 32, 68, [97], []),
  (68, .aload_n 0, 69, [0], []),
  (69, .getfield 207, 72, [], []),
  (72, .bipush 45, 74, [], [45]),
  (74, .if_icmp .ne 8, 77, [82], []),
  (77, .bipush 17, 79, [], [17]),
  (79, .goto 18, 82, [97], []),
  (82, .aload_n 0, 83, [0], []),
  (83, .getfield 207, 86, [], []),
  (86, .bipush 42, 88, [], [42]),
  (88, .if_icmp .ne 8, 91, [96], []),
  (91, .bipush 18, 93, [], [18]),
  (93, .goto 4, 96, [97], []),
  (96, .iconst (-1), 97, [], [(-1)]),
  (97, .ireturn, 98, [], [])]
theorem zo_X12_signOf : ab_ok cX12_signOf zp_X12_signOf = true := by decide +kernel
def zg_X12_signOf : ab_G := (zw_M, [], zf_X12, zc_X12, [], [], [])
theorem zm_X12_signOf : ab_MG zg_X12_signOf := ab_MGof (List.forall_mem_nil _) (List.forall_mem_nil _)
abbrev zr_X12_signOf (Q : ab_R) : ab_K := ab_Run zg_X12_signOf zp_X12_signOf (some .int) 1 Q
set_option maxRecDepth 20000 in
theorem zv_X12_signOf_0 {Q : ab_R} {M : ab_M} {N : ab_N}  (h : ((M 0 52) = (4 : Int32) → Q (some (.int (11 : Int32))) M N) ∧ (¬ ((M 0 52) = (4 : Int32)) → ((M 0 52) = (5 : Int32) → Q (some (.int (12 : Int32))) M N) ∧ (¬ ((M 0 52) = (5 : Int32)) → ((M 0 52) = (60 : Int32) → Q (some (.int (14 : Int32))) M N) ∧ (¬ ((M 0 52) = (60 : Int32)) → ((M 0 52) = (61 : Int32) → Q (some (.int (15 : Int32))) M N) ∧ (¬ ((M 0 52) = (61 : Int32)) → ((M 0 52) = (43 : Int32) → Q (some (.int (16 : Int32))) M N) ∧ (¬ ((M 0 52) = (43 : Int32)) → ((M 0 52) = (45 : Int32) → Q (some (.int (17 : Int32))) M N) ∧ (¬ ((M 0 52) = (45 : Int32)) → ((M 0 52) = (42 : Int32) → Q (some (.int (18 : Int32))) M N) ∧ (¬ ((M 0 52) = (42 : Int32)) → Q (some (.int (-1 : Int32))) M N)))))))) : zr_X12_signOf Q 0 [some (.ref 0)] [] M N := ab_Run_s zm_X12_signOf (sp := []) 46 h
theorem zH_X12_signOf  {M : ab_M} {N : ab_N} {k : ab_R} (hk : k (some (.int (zSgR ((M 0) 52)))) M N) : zr_X12_signOf k 0 [some (.ref 0)] [] M N := by
  refine zv_X12_signOf_0  ?_
  (repeat' first | exact ab_vpk (by decide) | exact hp | refine And.intro ?_ ?_ | intro _)
  all_goals first | rfl | exact ab_b_n | (refine ab_qi hk ?_; (try unfold ab_b at *); grind [ab_b, zSgR]) | grind
abbrev zR_X12_signOf : Room := { frames := 0, cells := 0, slots := 0, locals := 0 }
theorem zV_X12_signOf : ab_recv zw_M vwCl RX12 zt_X12_signOf := fun as M N k h => by
  obtain ⟨rfl, -⟩ := zI_X12_signOf h
  exact ⟨_, _, _, _, _, _, rfl, rfl, rfl⟩
theorem zE_X12_signOf (as : List Value) (M : ab_M) (N : ab_N) (k : ab_R) (hk : zt_X12_signOf as M N k) : ab_cs as ≤ 1 ∧ zr_X12_signOf k 0 (ab_en as) [] M N := by
  obtain ⟨rfl, hk2⟩ := zI_X12_signOf hk
  exact ⟨Nat.le_of_ble_eq_true rfl, zH_X12_signOf  hk2⟩
set_option maxRecDepth 20000 in
theorem zM_X12_signOf (l : Launch) : ab_Met l zw_M vwCl zZ_M yX12_signOf cX12_signOf 1 (some .int) zR_X12_signOf zt_X12_signOf := ab_ofRun (G := zg_X12_signOf) (P := zp_X12_signOf) rfl zo_X12_signOf (by decide +kernel) zl_cl zl_lamM zf_X12_ok ab_Tab_nil zc_X12_ok ab_Sta_nil (List.forall_mem_nil _) (List.forall_mem_nil _) zE_X12_signOf
