/-! Tape: bytes *)
-/
def zt_X8_at : ab_T := ab_pure (fun as M N => match as with
  | [.ref r1, .int i] => (match Nat.beq r1 4 with | true => some (.int (if 0 ≤ i ∧ i < (M 4) 2 ∧ i < 160 then (M 34) i.toNatClampNeg else -1)) | false => none)
  | _ => none)
theorem zI_X8_at {as : List Value} {M : ab_M} {N : ab_N} {k : ab_R} (hk : zt_X8_at as M N k) : ∃ (i : Int32), as = [.ref 4, .int i] ∧ k (some (.int (if 0 ≤ i ∧ i < (M 4) 2 ∧ i < 160 then (M 34) i.toNatClampNeg else -1))) M N := by
  unfold zt_X8_at ab_pure at hk
  dsimp only at hk
  split at hk
  · rename_i v hv
    split at hv
    · split at hv
      · rename_i hb0
        cases hv
        rw [Nat.eq_of_beq_eq_true hb0]
        exact ⟨_, rfl, hk⟩
      · cases hv
    · cases hv
  · exact hk.elim
def zp_X8_at : ab_P := [(0, .iload_n 1, 1, [1], []),
  (1, .ifCond .lt 27, 4, [28], []),
  (4, .iload_n 1, 5, [1], []),
  (5, .aload_n 0, 6, [0], []),
  (6, .getfield 15, 9, [], []),
  (9, .if_icmp .ge 19, 12, [28], []),
  (12, .iload_n 1, 13, [1], []),
  (13, .sipush 160, 16, [], [160]),
  (16, .if_icmp .ge 12, 19, [28], []),
  (19, .aload_n 0, 20, [0], []),
  (20, .getfield 9, 23, [], []),
  (23, .iload_n 1, 24, [1], []),
  (24, .iaload, 25, [], []),
  (25, .goto 4, 28, [29], []),
  (28, .iconst (-1), 29, [], [(-1)]),
  (29, .ireturn, 30, [], [])]
theorem zo_X8_at : ab_ok cX8_at zp_X8_at = true := by decide +kernel
def zg_X8_at : ab_G := (zw_C, zs_tab, zf_X8, zc_X8, [], [], [])
theorem zm_X8_at : ab_MG zg_X8_at := ab_MGof (List.forall_mem_nil _) (List.forall_mem_nil _)
abbrev zr_X8_at (Q : ab_R) : ab_K := ab_Run zg_X8_at zp_X8_at (some .int) 2 Q
set_option maxRecDepth 20000 in
theorem zv_X8_at_0 {Q : ab_R} {M : ab_M} {N : ab_N} (l1 : Int32) (h : (l1 < 0 → Q (some (.int (-1 : Int32))) M N) ∧ (¬ (l1 < 0) → ((M 4 2) ≤ l1 → Q (some (.int (-1 : Int32))) M N) ∧ (¬ ((M 4 2) ≤ l1) → ((160 : Int32) ≤ l1 → Q (some (.int (-1 : Int32))) M N) ∧ (¬ ((160 : Int32) ≤ l1) → vp_in l1 160 ∧ (Q (some (.int (M 34 l1.toNatClampNeg))) M N))))) : zr_X8_at Q 0 [some (.ref 4), some (.int l1)] [] M N := ab_Run_s zm_X8_at (sp := []) 18 h
theorem zH_X8_at (i : Int32) {M : ab_M} {N : ab_N} {k : ab_R} (hk : k (some (.int (if 0 ≤ i ∧ i < (M 4) 2 ∧ i < 160 then (M 34) i.toNatClampNeg else -1))) M N) : zr_X8_at k 0 [some (.ref 4), some (.int i)] [] M N := by
  refine zv_X8_at_0 _ ?_
  refine ⟨fun c => ab_qi hk ?_, fun c => ⟨fun c2 => ab_qi hk ?_, fun c2 => ⟨fun c3 => ab_qi hk ?_, fun c3 => ⟨ab_vp 160 rfl ?_ ?_, ab_qi hk ?_⟩⟩⟩⟩ <;> (try unfold ab_b at *) <;> grind
abbrev zR_X8_at : Room := { frames := 0, cells := 0, slots := 0, locals := 0 }
theorem zV_X8_at : ab_recv zw_C vwCl RX8 zt_X8_at := fun as M N k h => by
  obtain ⟨_, rfl, -⟩ := zI_X8_at h
  exact ⟨_, _, _, _, _, _, rfl, rfl, rfl⟩
theorem zE_X8_at (as : List Value) (M : ab_M) (N : ab_N) (k : ab_R) (hk : zt_X8_at as M N k) : ab_cs as ≤ 2 ∧ zr_X8_at k 0 (ab_en as) [] M N := by
  obtain ⟨i, rfl, hk2⟩ := zI_X8_at hk
  exact ⟨Nat.le_of_ble_eq_true rfl, zH_X8_at i hk2⟩
set_option maxRecDepth 20000 in
theorem zM_X8_at (l : Launch) : ab_Met l zw_C vwCl zZ_C yX8_at cX8_at 2 (some .int) zR_X8_at zt_X8_at := ab_ofRun (G := zg_X8_at) (P := zp_X8_at) rfl zo_X8_at (by decide +kernel) zl_cl zl_lamC zf_X8_ok zs_tabOK zc_X8_ok ab_Sta_nil (List.forall_mem_nil _) (List.forall_mem_nil _) zE_X8_at
def zt_X8_isLetter : ab_T := ab_pure (fun as M N => match as with
  | [.int b] => some (.int (ab_b (97 ≤ b ∧ b ≤ 122)))
  | _ => none)
theorem zI_X8_isLetter {as : List Value} {M : ab_M} {N : ab_N} {k : ab_R} (hk : zt_X8_isLetter as M N k) : ∃ (b : Int32), as = [.int b] ∧ k (some (.int (ab_b (97 ≤ b ∧ b ≤ 122)))) M N := by
  unfold zt_X8_isLetter ab_pure at hk
  dsimp only at hk
  split at hk
  · rename_i v hv
    split at hv
    · cases hv
      exact ⟨_, rfl, hk⟩
    · cases hv
  · exact hk.elim
def zp_X8_isLetter : ab_P := [(0, .iload_n 0, 1, [0], []),
  (1, .bipush 97, 3, [], [97]),
  (3, .if_icmp .lt 13, 6, [16], []),
  (6, .iload_n 0, 7, [0], []),
  (7, .bipush 122, 9, [], [122]),
  (9, .if_icmp .gt 7, 12, [16], []),
  (12, .iconst 1, 13, [], [1]),
  (13, .goto 4, 16, [17], []),
  (16, .iconst 0, 17, [], [0]),
  (17, .ireturn, 18, [], [])]
theorem zo_X8_isLetter : ab_ok cX8_isLetter zp_X8_isLetter = true := by decide +kernel
def zg_X8_isLetter : ab_G := (zw_C, zs_tab, zf_X8, zc_X8, [], [], [])
theorem zm_X8_isLetter : ab_MG zg_X8_isLetter := ab_MGof (List.forall_mem_nil _) (List.forall_mem_nil _)
abbrev zr_X8_isLetter (Q : ab_R) : ab_K := ab_Run zg_X8_isLetter zp_X8_isLetter (some .boolean) 1 Q
set_option maxRecDepth 20000 in
theorem zv_X8_isLetter_0 {Q : ab_R} {M : ab_M} {N : ab_N} (l0 : Int32) (h : (l0 < (97 : Int32) → narrow .boolean (.int (0 : Int32)) = .int (0 : Int32) ∧ Q (some (.int (0 : Int32))) M N) ∧ (¬ (l0 < (97 : Int32)) → ((122 : Int32) < l0 → narrow .boolean (.int (0 : Int32)) = .int (0 : Int32) ∧ Q (some (.int (0 : Int32))) M N) ∧ (¬ ((122 : Int32) < l0) → narrow .boolean (.int (1 : Int32)) = .int (1 : Int32) ∧ Q (some (.int (1 : Int32))) M N))) : zr_X8_isLetter Q 0 [some (.int l0)] [] M N := ab_Run_s zm_X8_isLetter (sp := []) 12 h
theorem zH_X8_isLetter (b : Int32) {M : ab_M} {N : ab_N} {k : ab_R} (hk : k (some (.int (ab_b (97 ≤ b ∧ b ≤ 122)))) M N) : zr_X8_isLetter k 0 [some (.int b)] [] M N := by
  refine zv_X8_isLetter_0 _ ?_
  (repeat' first | exact ab_vpk (by decide) | exact hp | refine And.intro ?_ ?_ | intro _)
  all_goals first | rfl | exact ab_b_n | (refine ab_qi hk ?_; (try unfold ab_b at *); grind) | grind
abbrev zR_X8_isLetter : Room := { frames := 0, cells := 0, slots := 0, locals := 0 }
theorem zE_X8_isLetter (as : List Value) (M : ab_M) (N : ab_N) (k : ab_R) (hk : zt_X8_isLetter as M N k) : ab_cs as ≤ 1 ∧ zr_X8_isLetter k 0 (ab_en as) [] M N := by
  obtain ⟨b, rfl, hk2⟩ := zI_X8_isLetter hk
  exact ⟨Nat.le_of_ble_eq_true rfl, zH_X8_isLetter b hk2⟩
set_option maxRecDepth 20000 in
theorem zM_X8_isLetter (l : Launch) : ab_Met l zw_C vwCl zZ_C yX8_isLetter cX8_isLetter 1 (some .boolean) zR_X8_isLetter zt_X8_isLetter := ab_ofRun (G := zg_X8_isLetter) (P := zp_X8_isLetter) rfl zo_X8_isLetter (by decide +kernel) zl_cl zl_lamC zf_X8_ok zs_tabOK zc_X8_ok ab_Sta_nil (List.forall_mem_nil _) (List.forall_mem_nil _) zE_X8_isLetter
def zt_X8_isDigit : ab_T := ab_pure (fun as M N => match as with
  | [.int b] => some (.int (ab_b (48 ≤ b ∧ b ≤ 57)))
  | _ => none)
theorem zI_X8_isDigit {as : List Value} {M : ab_M} {N : ab_N} {k : ab_R} (hk : zt_X8_isDigit as M N k) : ∃ (b : Int32), as = [.int b] ∧ k (some (.int (ab_b (48 ≤ b ∧ b ≤ 57)))) M N := by
  unfold zt_X8_isDigit ab_pure at hk
  dsimp only at hk
  split at hk
  · rename_i v hv
    split at hv
    · cases hv
      exact ⟨_, rfl, hk⟩
    · cases hv
  · exact hk.elim
def zp_X8_isDigit : ab_P := [(0, .iload_n 0, 1, [0], []),
  (1, .bipush 48, 3, [], [48]),
  (3, .if_icmp .lt 13, 6, [16], []),
  (6, .iload_n 0, 7, [0], []),
  (7, .bipush 57, 9, [], [57]),
  (9, .if_icmp .gt 7, 12, [16], []),
  (12, .iconst 1, 13, [], [1]),
  (13, .goto 4, 16, [17], []),
  (16, .iconst 0, 17, [], [0]),
  (17, .ireturn, 18, [], [])]
theorem zo_X8_isDigit : ab_ok cX8_isDigit zp_X8_isDigit = true := by decide +kernel
def zg_X8_isDigit : ab_G := (zw_C, zs_tab, zf_X8, zc_X8, [], [], [])
theorem zm_X8_isDigit : ab_MG zg_X8_isDigit := ab_MGof (List.forall_mem_nil _) (List.forall_mem_nil _)
abbrev zr_X8_isDigit (Q : ab_R) : ab_K := ab_Run zg_X8_isDigit zp_X8_isDigit (some .boolean) 1 Q
set_option maxRecDepth 20000 in
theorem zv_X8_isDigit_0 {Q : ab_R} {M : ab_M} {N : ab_N} (l0 : Int32) (h : (l0 < (48 : Int32) → narrow .boolean (.int (0 : Int32)) = .int (0 : Int32) ∧ Q (some (.int (0 : Int32))) M N) ∧ (¬ (l0 < (48 : Int32)) → ((57 : Int32) < l0 → narrow .boolean (.int (0 : Int32)) = .int (0 : Int32) ∧ Q (some (.int (0 : Int32))) M N) ∧ (¬ ((57 : Int32) < l0) → narrow .boolean (.int (1 : Int32)) = .int (1 : Int32) ∧ Q (some (.int (1 : Int32))) M N))) : zr_X8_isDigit Q 0 [some (.int l0)] [] M N := ab_Run_s zm_X8_isDigit (sp := []) 12 h
theorem zH_X8_isDigit (b : Int32) {M : ab_M} {N : ab_N} {k : ab_R} (hk : k (some (.int (ab_b (48 ≤ b ∧ b ≤ 57)))) M N) : zr_X8_isDigit k 0 [some (.int b)] [] M N := by
  refine zv_X8_isDigit_0 _ ?_
  (repeat' first | exact ab_vpk (by decide) | exact hp | refine And.intro ?_ ?_ | intro _)
  all_goals first | rfl | exact ab_b_n | (refine ab_qi hk ?_; (try unfold ab_b at *); grind) | grind
abbrev zR_X8_isDigit : Room := { frames := 0, cells := 0, slots := 0, locals := 0 }
theorem zE_X8_isDigit (as : List Value) (M : ab_M) (N : ab_N) (k : ab_R) (hk : zt_X8_isDigit as M N k) : ab_cs as ≤ 1 ∧ zr_X8_isDigit k 0 (ab_en as) [] M N := by
  obtain ⟨b, rfl, hk2⟩ := zI_X8_isDigit hk
  exact ⟨Nat.le_of_ble_eq_true rfl, zH_X8_isDigit b hk2⟩
set_option maxRecDepth 20000 in
theorem zM_X8_isDigit (l : Launch) : ab_Met l zw_C vwCl zZ_C yX8_isDigit cX8_isDigit 1 (some .boolean) zR_X8_isDigit zt_X8_isDigit := ab_ofRun (G := zg_X8_isDigit) (P := zp_X8_isDigit) rfl zo_X8_isDigit (by decide +kernel) zl_cl zl_lamC zf_X8_ok zs_tabOK zc_X8_ok ab_Sta_nil (List.forall_mem_nil _) (List.forall_mem_nil _) zE_X8_isDigit
abbrev zSign (b : Int32) : Prop := b = 40 ∨ b = 41 ∨ b = 59 ∨ b = 43 ∨ b = 45 ∨ b = 42 ∨ b = 60 ∨ b = 61
def zt_X8_isSign : ab_T := ab_pure (fun as M N => match as with
  | [.int b] => some (.int (ab_b (zSign b)))
  | _ => none)
theorem zI_X8_isSign {as : List Value} {M : ab_M} {N : ab_N} {k : ab_R} (hk : zt_X8_isSign as M N k) : ∃ (b : Int32), as = [.int b] ∧ k (some (.int (ab_b (zSign b)))) M N := by
  unfold zt_X8_isSign ab_pure at hk
  dsimp only at hk
  split at hk
  · rename_i v hv
    split at hv
    · cases hv
      exact ⟨_, rfl, hk⟩
    · cases hv
  · exact hk.elim
def zp_X8_isSign : ab_P := [(0, .iload_n 0, 1, [0], []),
  (1, .bipush 40, 3, [], [40]),
  (3, .if_icmp .eq 45, 6, [48], []),
  (6, .iload_n 0, 7, [0], []),
  (7, .bipush 41, 9, [], [41]),
  (9, .if_icmp .eq 39, 12, [48], []),
  (12, .iload_n 0, 13, [0], []),
  (13, .bipush 59, 15, [], [59]),
  (15, .if_icmp .eq 33, 18, [48], []),
  (18, .iload_n 0, 19, [0], []),
  (19, .bipush 43, 21, [], [43]),
  (21, .if_icmp .eq 27, 24, [48], []),
  (24, .iload_n 0, 25, [0], []),
  (25, .bipush 45, 27, [], [45]),
  (27, .if_icmp .eq 21, 30, [48], []),
  (30, .iload_n 0, 31, [0], []),
  (31, .bipush 42, 33, [], [42]),
  (33, .if_icmp .eq 15, 36, [48], []),
  (36, .iload_n 0, 37, [0], []),
  (37, .bipush 60, 39, [], [60]),
  (39, .if_icmp .eq 9, 42, [48], []),
  (42, .iload_n 0, 43, [0], []),
  (43, .bipush 61, 45, [], [61]),
  (45, .if_icmp .ne 7, 48, [52], []),
  (48, .iconst 1, 49, [], [1]),
  (49, .goto 4, 52, [53], []),
  (52, .iconst 0, 53, [], [0]),
  (53, .ireturn, 54, [], [])]
theorem zo_X8_isSign : ab_ok cX8_isSign zp_X8_isSign = true := by decide +kernel
def zg_X8_isSign : ab_G := (zw_C, zs_tab, zf_X8, zc_X8, [], [], [])
theorem zm_X8_isSign : ab_MG zg_X8_isSign := ab_MGof (List.forall_mem_nil _) (List.forall_mem_nil _)
abbrev zr_X8_isSign (Q : ab_R) : ab_K := ab_Run zg_X8_isSign zp_X8_isSign (some .boolean) 1 Q
set_option maxRecDepth 20000 in
theorem zv_X8_isSign_0 {Q : ab_R} {M : ab_M} {N : ab_N} (l0 : Int32) (h : (l0 = (40 : Int32) → narrow .boolean (.int (1 : Int32)) = .int (1 : Int32) ∧ Q (some (.int (1 : Int32))) M N) ∧ (¬ (l0 = (40 : Int32)) → (l0 = (41 : Int32) → narrow .boolean (.int (1 : Int32)) = .int (1 : Int32) ∧ Q (some (.int (1 : Int32))) M N) ∧ (¬ (l0 = (41 : Int32)) → (l0 = (59 : Int32) → narrow .boolean (.int (1 : Int32)) = .int (1 : Int32) ∧ Q (some (.int (1 : Int32))) M N) ∧ (¬ (l0 = (59 : Int32)) → (l0 = (43 : Int32) → narrow .boolean (.int (1 : Int32)) = .int (1 : Int32) ∧ Q (some (.int (1 : Int32))) M N) ∧ (¬ (l0 = (43 : Int32)) → (l0 = (45 : Int32) → narrow .boolean (.int (1 : Int32)) = .int (1 : Int32) ∧ Q (some (.int (1 : Int32))) M N) ∧ (¬ (l0 = (45 : Int32)) → (l0 = (42 : Int32) → narrow .boolean (.int (1 : Int32)) = .int (1 : Int32) ∧ Q (some (.int (1 : Int32))) M N) ∧ (¬ (l0 = (42 : Int32)) → (l0 = (60 : Int32) → narrow .boolean (.int (1 : Int32)) = .int (1 : Int32) ∧ Q (some (.int (1 : Int32))) M N) ∧ (¬ (l0 = (60 : Int32)) → (l0 = (61 : Int32) → narrow .boolean (.int (1 : Int32)) = .int (1 : Int32) ∧ Q (some (.int (1 : Int32))) M N) ∧ (¬ (l0 = (61 : Int32)) → narrow .boolean (.int (0 : Int32)) = .int (0 : Int32) ∧ Q (some (.int (0 : Int32))) M N))))))))) : zr_X8_isSign Q 0 [some (.int l0)] [] M N := ab_Run_s zm_X8_isSign (sp := []) 30 h
theorem zH_X8_isSign (b : Int32) {M : ab_M} {N : ab_N} {k : ab_R} (hk : k (some (.int (ab_b (zSign b)))) M N) : zr_X8_isSign k 0 [some (.int b)] [] M N := by
  have y : zSign b → k (some (.int 1)) M N := fun z => by rw [ab_b_1.mpr z] at hk; exact hk
  have n : ¬ zSign b → k (some (.int 0)) M N := fun z => by rw [ab_b_0.mpr z] at hk; exact hk
  unfold zSign at y n
  exact zv_X8_isSign_0 _ ⟨fun c0 => ⟨ab_n1, y (by simp [c0])⟩, fun d0 => ⟨fun c1 => ⟨ab_n1, y (by simp [c1])⟩, fun d1 => ⟨fun c2 => ⟨ab_n1, y (by simp [c2])⟩, fun d2 => ⟨fun c3 => ⟨ab_n1, y (by simp [c3])⟩, fun d3 => ⟨fun c4 => ⟨ab_n1, y (by simp [c4])⟩, fun d4 => ⟨fun c5 => ⟨ab_n1, y (by simp [c5])⟩, fun d5 => ⟨fun c6 => ⟨ab_n1, y (by simp [c6])⟩, fun d6 => ⟨fun c7 => ⟨ab_n1, y (by simp [c7])⟩, fun d7 => ⟨ab_n0, n (fun z => by simp_all)⟩⟩⟩⟩⟩⟩⟩⟩⟩
abbrev zR_X8_isSign : Room := { frames := 0, cells := 0, slots := 0, locals := 0 }
theorem zE_X8_isSign (as : List Value) (M : ab_M) (N : ab_N) (k : ab_R) (hk : zt_X8_isSign as M N k) : ab_cs as ≤ 1 ∧ zr_X8_isSign k 0 (ab_en as) [] M N := by
  obtain ⟨b, rfl, hk2⟩ := zI_X8_isSign hk
  exact ⟨Nat.le_of_ble_eq_true rfl, zH_X8_isSign b hk2⟩
set_option maxRecDepth 20000 in
theorem zM_X8_isSign (l : Launch) : ab_Met l zw_C vwCl zZ_C yX8_isSign cX8_isSign 1 (some .boolean) zR_X8_isSign zt_X8_isSign := ab_ofRun (G := zg_X8_isSign) (P := zp_X8_isSign) rfl zo_X8_isSign (by decide +kernel) zl_cl zl_lamC zf_X8_ok zs_tabOK zc_X8_ok ab_Sta_nil (List.forall_mem_nil _) (List.forall_mem_nil _) zE_X8_isSign
def zt_X8_add : ab_T := ab_m1 4 (fun _ M _ => ∃ n : Nat, n < 160 ∧ M 4 2 = nI n) (fun b M N o M2 N2 => o = none ∧ M2 = ab_u (ab_u M 34 (upd (M 34) (M 4 2).toNatClampNeg b)) 4 (upd (M 4) 2 (M 4 2 + 1)) ∧ N2 = N)
theorem zt_X8_add_mono : ab_mono zt_X8_add := ab_m1_mono _ _ _
theorem zV_X8_add : ab_recv zw_C vwCl RX8 zt_X8_add := ab_m1_v rfl rfl
def zp_X8_add : ab_P := [(0, .aload_n 0, 1, [0], []),
  (1, .getfield 15, 4, [], []),
  (4, .sipush 160, 7, [], [160]),
  (7, .if_icmp .ge 23, 10, [30], []),
  (10, .aload_n 0, 11, [0], []),
  (11, .getfield 9, 14, [], []),
  (14, .aload_n 0, 15, [0], []),
  (15, .getfield 15, 18, [], []),
  (18, .iload_n 1, 19, [1], []),
  (19, .iastore, 20, [], []),
  (20, .aload_n 0, 21, [0], []),
  (21, .dup, 22, [], []),
  (22, .getfield 15, 25, [], []),
  (25, .iconst 1, 26, [], [1]),
  (26, .iadd, 27, [], []),
  (27, .putfield 15, 30, [], []),
  (30, .return_, 31, [], [])]
theorem zo_X8_add : ab_ok cX8_add zp_X8_add = true := by decide +kernel
def zg_X8_add : ab_G := (zw_C, zs_tab, zf_X8, zc_X8, [], [], [])
theorem zm_X8_add : ab_MG zg_X8_add := ab_MGof (List.forall_mem_nil _) (List.forall_mem_nil _)
abbrev zr_X8_add (Q : ab_R) : ab_K := ab_Run zg_X8_add zp_X8_add none 2 Q
set_option maxRecDepth 20000 in
theorem zv_X8_add_0 {Q : ab_R} {M : ab_M} {N : ab_N} (l1 : Int32) (h : ((160 : Int32) ≤ (M 4 2) → Q none M N) ∧ (¬ ((160 : Int32) ≤ (M 4 2)) → vp_in (M 4 2) 160 ∧ (let z1 : Nat → Int32 := upd (M 34) (M 4 2).toNatClampNeg l1; let z2 : Nat → Int32 := upd (M 4) 2 ((M 4 2) + (1 : Int32)); Q none (ab_u (ab_u M 34 z1) 4 z2) N))) : zr_X8_add Q 0 [some (.ref 4), some (.int l1)] [] M N := ab_Run_s zm_X8_add (sp := []) 19 h
theorem zE_X8_add (as : List Value) (M : ab_M) (N : ab_N) (k : ab_R) (hT : zt_X8_add as M N k) : ab_cs as ≤ 2 ∧ zr_X8_add k 0 (ab_en as) [] M N := by
  obtain ⟨b, rfl, ⟨n, hn, e⟩, hk⟩ := ab_m1_e hT
  refine ⟨Nat.le_of_ble_eq_true rfl, zv_X8_add_0 _ ⟨fun c => ?_, fun _ => ⟨?_, hk _ _ _ ⟨rfl, rfl, rfl⟩⟩⟩⟩
  · rw [e] at c
    exact absurd c (nI_ge (b := 160) hn (by omega))
  · rw [e]
    exact nI_in_ hn
abbrev zR_X8_add : Room := { frames := 0, cells := 0, slots := 0, locals := 0 }
set_option maxRecDepth 20000 in
theorem zM_X8_add (l : Launch) : ab_Met l zw_C vwCl zZ_C yX8_add cX8_add 2 none zR_X8_add zt_X8_add := ab_ofRun (G := zg_X8_add) (P := zp_X8_add) rfl zo_X8_add (by decide +kernel) zl_cl zl_lamC zf_X8_ok zs_tabOK zc_X8_ok ab_Sta_nil (List.forall_mem_nil _) (List.forall_mem_nil _) zE_X8_add
def zt_X8_put : ab_T := ab_m1 4 (fun _ M _ => ∃ w n : Nat, w < 6 ∧ M 3 2 = nI w ∧ n < (w + 1) * 160 ∧ M 4 7 = nI n) (fun c M N o M2 N2 => o = none ∧ M2 = ab_u (ab_u M 31 (upd (M 31) (M 4 7).toNatClampNeg c)) 4 (upd (M 4) 7 (M 4 7 + 1)) ∧ N2 = N)
theorem zt_X8_put_mono : ab_mono zt_X8_put := ab_m1_mono _ _ _
theorem zV_X8_put : ab_recv zw_C vwCl RX8 zt_X8_put := ab_m1_v rfl rfl
def zp_X8_put : ab_P := [(0, .aload_n 0, 1, [0], []),
  (1, .getfield 31, 4, [], []),
  (4, .ifCond .lt 61, 7, [65], []),
  (7, .aload_n 0, 8, [0], []),
  (8, .getfield 31, 11, [], []),
  (11, .aload_n 0, 12, [0], []),
  (12, .getfield 19, 15, [], []),
  (15, .getfield 75, 18, [], []),
  (18, .arraylength, 19, [], []),
  (19, .if_icmp .ge 46, 22, [65], []),
  (22, .aload_n 0, 23, [0], []),
  (23, .getfield 31, 26, [], []),
  (26, .aload_n 0, 27, [0], []),
  (27, .getfield 19, 30, [], []),
  (30, .getfield 23, 33, [], []),
  (33, .iconst 1, 34, [], [1]),
  (34, .iadd, 35, [], []),
  (35, .sipush 160, 38, [], [160]),
  (38, .imul, 39, [], []),
  (39, .if_icmp .ge 26, 42, [65], []),
  (42, .aload_n 0, 43, [0], []),
  (43, .getfield 19, 46, [], []),
  (46, .getfield 75, 49, [], []),
  (49, .aload_n 0, 50, [0], []),
  (50, .getfield 31, 53, [], []),
  (53, .iload_n 1, 54, [1], []),
  (54, .iastore, 55, [], []),
  (55, .aload_n 0, 56, [0], []),
  (56, .dup, 57, [], []),
  (57, .getfield 31, 60, [], []),
  (60, .iconst 1, 61, [], [1]),
  (61, .iadd, 62, [], []),
  (62, .putfield 31, 65, [], []),
  (65, .return_, 66, [], [])]
theorem zo_X8_put : ab_ok cX8_put zp_X8_put = true := by decide +kernel
def zg_X8_put : ab_G := (zw_C, zs_tab, zf_X8, zc_X8, [], [], [])
theorem zm_X8_put : ab_MG zg_X8_put := ab_MGof (List.forall_mem_nil _) (List.forall_mem_nil _)
abbrev zr_X8_put (Q : ab_R) : ab_K := ab_Run zg_X8_put zp_X8_put none 2 Q
set_option maxRecDepth 20000 in
theorem zv_X8_put_0 {Q : ab_R} {M : ab_M} {N : ab_N} (l1 : Int32) (h : ((M 4 7) < 0 → Q none M N) ∧ (¬ ((M 4 7) < 0) → ((Int32.ofNat 960) ≤ (M 4 7) → Q none M N) ∧ (¬ ((Int32.ofNat 960) ≤ (M 4 7)) → ((((M 3 2) + (1 : Int32)) * (160 : Int32)) ≤ (M 4 7) → Q none M N) ∧ (¬ ((((M 3 2) + (1 : Int32)) * (160 : Int32)) ≤ (M 4 7)) → vp_in (M 4 7) 960 ∧ (let z1 : Nat → Int32 := upd (M 31) (M 4 7).toNatClampNeg l1; let z2 : Nat → Int32 := upd (M 4) 7 ((M 4 7) + (1 : Int32)); Q none (ab_u (ab_u M 31 z1) 4 z2) N))))) : zr_X8_put Q 0 [some (.ref 4), some (.int l1)] [] M N := ab_Run_s zm_X8_put (sp := []) 36 h
theorem zE_X8_put (as : List Value) (M : ab_M) (N : ab_N) (k : ab_R) (hT : zt_X8_put as M N k) : ab_cs as ≤ 2 ∧ zr_X8_put k 0 (ab_en as) [] M N := by
  obtain ⟨b, rfl, ⟨w, n, hw, e, hn, e2⟩, hk⟩ := ab_m1_e hT
  refine ⟨Nat.le_of_ble_eq_true rfl, zv_X8_put_0 _ ⟨fun c => ?_, fun _ => ⟨fun c => ?_, fun _ => ⟨fun c => ?_, fun _ => ⟨?_, hk _ _ _ ⟨rfl, rfl, rfl⟩⟩⟩⟩⟩⟩
  · rw [e2] at c
    exact absurd c (nI_pos (by omega))
  · rw [e2] at c
    exact absurd c (nI_ge (a := n) (b := 960) (by omega) (by omega))
  · rw [e2, e, nI_1, zN_mul _ 160 160] at c
    exact absurd c (nI_ge hn (by omega))
  · rw [e2]
    exact nI_in_ (by omega)
abbrev zR_X8_put : Room := { frames := 0, cells := 0, slots := 0, locals := 0 }
set_option maxRecDepth 20000 in
theorem zM_X8_put (l : Launch) : ab_Met l zw_C vwCl zZ_C yX8_put cX8_put 2 none zR_X8_put zt_X8_put := ab_ofRun (G := zg_X8_put) (P := zp_X8_put) rfl zo_X8_put (by decide +kernel) zl_cl zl_lamC zf_X8_ok zs_tabOK zc_X8_ok ab_Sta_nil (List.forall_mem_nil _) (List.forall_mem_nil _) zE_X8_put
