/-! the reference: one place is set *)
-/
abbrev zWaC (n : Nat) (l v : Int32) : Prop := (0 ≤ l ∧ l ≤ 11) ∧ (0 ≤ v ∧ v ≤ 9)
def zt_X12_water : ab_T := ab_lq (α := Nat × Int32 × Int32) (fun x r M _ => r = [.int x.2.1, .int x.2.2] ∧ x.1 = 12)
  (fun x M N o M2 N2 => N2 = N ∧ ((zWaC x.1 x.2.1 x.2.2 ∧ (∃ j : Nat, j < 12 ∧ x.2.1 = nI j ∧ o = some (.int (M 1 j)) ∧ M2 = ab_u M 1 (upd (M 1) j x.2.2))) ∨ (¬ zWaC x.1 x.2.1 x.2.2 ∧ M2 = M ∧ o = some (.int (if 0 ≤ x.2.1 ∧ x.2.1 ≤ 11 then -2 else -1)))))
theorem zt_X12_water_mono : ab_mono zt_X12_water := ab_lq_mono _ _
theorem zV_X12_water : ab_recv zw_M vwCl RX12 zt_X12_water := ab_lq_v
def zp_X12_water : ab_P := [(0, .iload_n 1, 1, [1], []),
  (1, .iconst 0, 2, [], [0]),
  (2, .bipush 11, 4, [], [11]),
  (4, .invokestatic 175, 7, [], []),
  (7, .ifCond .ne 5, 10, [12], []),
  (10, .iconst (-1), 11, [], [(-1)]),
  (11, .ireturn, 12, [], []),
  (12, .iload_n 2, 13, [2], []),
  (13, .iconst 0, 14, [], [0]),
  (14, .bipush 9, 16, [], [9]),
  (16, .invokestatic 175, 19, [], []),
  (19, .ifCond .ne 6, 22, [25], []),
  (22, .bipush (-2), 24, [], [(-2)]),
  (24, .ireturn, 25, [], []),
  (25, .aload_n 0, 26, [0], []),
  (26, .getfield 25, 29, [], []),
  (29, .iload_n 1, 30, [1], []),
  (30, .iaload, 31, [], []),
  (31, .istore_n 3, 32, [3], []),
  (32, .aload_n 0, 33, [0], []),
  (33, .getfield 25, 36, [], []),
  (36, .iload_n 1, 37, [1], []),
  (37, .iload_n 2, 38, [2], []),
  (38, .iastore, 39, [], []),
  (39, .iload_n 3, 40, [3], []),
  (40, .ireturn, 41, [], [])]
theorem zo_X12_water : ab_ok cX12_water zp_X12_water = true := by decide +kernel
def zg_X12_water : ab_G := (zw_M, [], zf_X12, zc_X12, [], [], [(175, 3, zt_X12_in)])
theorem zm_X12_water : ab_MG zg_X12_water := ab_MGof (List.forall_mem_nil _) (List.forall_mem_cons.mpr ⟨ab_pure_mono _, List.forall_mem_nil _⟩)
abbrev zr_X12_water (Q : ab_R) : ab_K := ab_Run zg_X12_water zp_X12_water (some .int) 4 Q
set_option maxRecDepth 20000 in
theorem zv_X12_water_0 {Q : ab_R} {M : ab_M} {N : ab_N} (l1 : Int32) (l2 : Int32) (h : ((ab_b ((0 : Int32) ≤ l1 ∧ l1 ≤ (11 : Int32))) = 0 → Q (some (.int (-1 : Int32))) M N) ∧ (¬ ((ab_b ((0 : Int32) ≤ l1 ∧ l1 ≤ (11 : Int32))) = 0) → ((ab_b ((0 : Int32) ≤ l2 ∧ l2 ≤ (9 : Int32))) = 0 → Q (some (.int (-2 : Int32))) M N) ∧ (¬ ((ab_b ((0 : Int32) ≤ l2 ∧ l2 ≤ (9 : Int32))) = 0) → vp_in l1 12 ∧ (vp_in l1 12 ∧ (let z1 : Nat → Int32 := upd (M 1) l1.toNatClampNeg l2; Q (some (.int (M 1 l1.toNatClampNeg))) (ab_u M 1 z1) N))))) : zr_X12_water Q 0 [some (.ref 0), some (.int l1), some (.int l2)] [] M N := ab_Run_s zm_X12_water (sp := []) 28 h
theorem zE_X12_water (as : List Value) (M : ab_M) (N : ab_N) (k : ab_R) (hT : zt_X12_water as M N k) : ab_cs as ≤ 4 ∧ zr_X12_water k 0 (ab_en as) [] M N := by
  obtain ⟨⟨n, l, v⟩, q, rfl, ⟨rfl, hx⟩, hk⟩ := hT
  dsimp only at hx hk ⊢
  refine ⟨Nat.le_of_ble_eq_true rfl, zv_X12_water_0 _ _ ?_⟩
  refine ⟨fun c => ?_, fun c => ⟨fun c2 => ?_, fun c2 => ?_⟩⟩
  · have c := ab_b_0.mp c
    exact hk _ _ _ ⟨rfl, Or.inr ⟨fun z => c z.1, rfl, by rw [if_neg c]⟩⟩
  · have a1 := zIx0 c
    have c2 := ab_b_0.mp c2
    exact hk _ _ _ ⟨rfl, Or.inr ⟨fun z => c2 z.2, rfl, by rw [if_pos a1]⟩⟩
  · have a1 := zIx0 c
    have a2 := zIx0 c2
    obtain ⟨j, y, e⟩ := zIxM (n := 11) (by decide) a1
    have hj : j < 12 := by omega
    have ec : l.toNatClampNeg = j := by rw [e, nI_clamp (by omega)]
    have hi : vp_in l 12 := by rw [e]; exact nI_in_ hj
    rw [ec]
    refine ⟨hi, hi, ?_⟩
    intro z1
    exact hk _ _ _ ⟨rfl, Or.inl ⟨⟨a1, a2⟩, j, hj, e, rfl, rfl⟩⟩
abbrev zR_X12_water : Room := { frames := 1, cells := 0, slots := 0, locals := 22 }
set_option maxRecDepth 20000 in
theorem zM_X12_water (l : Launch) : ab_Met l zw_M vwCl zZ_M yX12_water cX12_water 4 (some .int) zR_X12_water zt_X12_water := ab_ofRun (G := zg_X12_water) (P := zp_X12_water) rfl zo_X12_water (by decide +kernel) zl_cl zl_lamM zf_X12_ok ab_Tab_nil zc_X12_ok ab_Sta_nil (List.forall_mem_nil _) (List.forall_mem_cons.mpr ⟨ab_callS zZ_M_ok (zM_X12_in l) (ab_in 1200 (by decide +kernel) rfl) (ab_in 1198 (by decide +kernel) rfl) (ab_in 1199 (by decide +kernel) rfl) (ab_in 17 (by decide +kernel) rfl) (by unfold ab_yok; decide +kernel) ⟨rfl, rfl⟩ (by decide), List.forall_mem_nil _⟩) zE_X12_water
abbrev zPaC (n : Nat) (l v : Int32) : Prop := (zHasN l n) ∧ (1 ≤ v ∧ v ≤ 3)
def zt_X12_pace : ab_T := ab_lq (α := Nat × Int32 × Int32) (fun x r M _ => r = [.int x.2.1, .int x.2.2] ∧ M 0 12 = nI x.1 ∧ x.1 ≤ 5)
  (fun x M N o M2 N2 => N2 = N ∧ ((zPaC x.1 x.2.1 x.2.2 ∧ (∃ j : Nat, j < 5 ∧ x.2.1 = nI j ∧ o = some (.int (M 9 j)) ∧ M2 = ab_u M 9 (upd (M 9) j x.2.2))) ∨ (¬ zPaC x.1 x.2.1 x.2.2 ∧ M2 = M ∧ o = some (.int (if zHasN x.2.1 x.1 then -2 else -1)))))
theorem zt_X12_pace_mono : ab_mono zt_X12_pace := ab_lq_mono _ _
theorem zV_X12_pace : ab_recv zw_M vwCl RX12 zt_X12_pace := ab_lq_v
def zp_X12_pace : ab_P := [(0, .aload_n 0, 1, [0], []),
  (1, .iload_n 1, 2, [1], []),
  (2, .invokevirtual 268, 5, [], []),
  (5, .ifCond .ne 5, 8, [10], []),
  (8, .iconst (-1), 9, [], [(-1)]),
  (9, .ireturn, 10, [], []),
  (10, .iload_n 2, 11, [2], []),
  (11, .iconst 1, 12, [], [1]),
  (12, .iconst 3, 13, [], [3]),
  (13, .invokestatic 175, 16, [], []),
  (16, .ifCond .ne 6, 19, [22], []),
  (19, .bipush (-2), 21, [], [(-2)]),
  (21, .ireturn, 22, [], []),
  (22, .aload_n 0, 23, [0], []),
  (23, .getfield 50, 26, [], []),
  (26, .iload_n 1, 27, [1], []),
  (27, .iaload, 28, [], []),
  (28, .istore_n 3, 29, [3], []),
  (29, .aload_n 0, 30, [0], []),
  (30, .getfield 50, 33, [], []),
  (33, .iload_n 1, 34, [1], []),
  (34, .iload_n 2, 35, [2], []),
  (35, .iastore, 36, [], []),
  (36, .iload_n 3, 37, [3], []),
  (37, .ireturn, 38, [], [])]
theorem zo_X12_pace : ab_ok cX12_pace zp_X12_pace = true := by decide +kernel
def zg_X12_pace : ab_G := (zw_M, [], zf_X12, zc_X12, [], [(268, 2, zt_X12_isMan)], [(175, 3, zt_X12_in)])
theorem zm_X12_pace : ab_MG zg_X12_pace := ab_MGof (List.forall_mem_cons.mpr ⟨ab_pure_mono _, List.forall_mem_nil _⟩) (List.forall_mem_cons.mpr ⟨ab_pure_mono _, List.forall_mem_nil _⟩)
abbrev zr_X12_pace (Q : ab_R) : ab_K := ab_Run zg_X12_pace zp_X12_pace (some .int) 4 Q
set_option maxRecDepth 20000 in
theorem zv_X12_pace_0 {Q : ab_R} {M : ab_M} {N : ab_N} (l1 : Int32) (l2 : Int32) (h : ((ab_b (0 ≤ l1 ∧ l1 ≤ (M 0) 12 - 1)) = 0 → Q (some (.int (-1 : Int32))) M N) ∧ (¬ ((ab_b (0 ≤ l1 ∧ l1 ≤ (M 0) 12 - 1)) = 0) → ((ab_b ((1 : Int32) ≤ l2 ∧ l2 ≤ (3 : Int32))) = 0 → Q (some (.int (-2 : Int32))) M N) ∧ (¬ ((ab_b ((1 : Int32) ≤ l2 ∧ l2 ≤ (3 : Int32))) = 0) → vp_in l1 5 ∧ (vp_in l1 5 ∧ (let z1 : Nat → Int32 := upd (M 9) l1.toNatClampNeg l2; Q (some (.int (M 9 l1.toNatClampNeg))) (ab_u M 9 z1) N))))) : zr_X12_pace Q 0 [some (.ref 0), some (.int l1), some (.int l2)] [] M N := ab_Run_s zm_X12_pace (sp := []) 27 h
theorem zE_X12_pace (as : List Value) (M : ab_M) (N : ab_N) (k : ab_R) (hT : zt_X12_pace as M N k) : ab_cs as ≤ 4 ∧ zr_X12_pace k 0 (ab_en as) [] M N := by
  obtain ⟨⟨n, l, v⟩, q, rfl, ⟨rfl, hx⟩, hk⟩ := hT
  dsimp only at hx hk ⊢
  refine ⟨Nat.le_of_ble_eq_true rfl, zv_X12_pace_0 _ _ ?_⟩
  rw [hx.1]
  refine ⟨fun c => ?_, fun c => ⟨fun c2 => ?_, fun c2 => ?_⟩⟩
  · have c := ab_b_0.mp c
    exact hk _ _ _ ⟨rfl, Or.inr ⟨fun z => c z.1, rfl, by rw [if_neg c]⟩⟩
  · have a1 := zIx0 c
    have c2 := ab_b_0.mp c2
    exact hk _ _ _ ⟨rfl, Or.inr ⟨fun z => c2 z.2, rfl, by rw [if_pos a1]⟩⟩
  · have a1 := zIx0 c
    have a2 := zIx0 c2
    obtain ⟨j, y, e⟩ := zIxN (by omega) a1
    have hj : j < 5 := by omega
    have ec : l.toNatClampNeg = j := by rw [e, nI_clamp (by omega)]
    have hi : vp_in l 5 := by rw [e]; exact nI_in_ hj
    rw [ec]
    refine ⟨hi, hi, ?_⟩
    intro z1
    exact hk _ _ _ ⟨rfl, Or.inl ⟨⟨a1, a2⟩, j, hj, e, rfl, rfl⟩⟩
abbrev zR_X12_pace : Room := { frames := 2, cells := 0, slots := 0, locals := 43 }
set_option maxRecDepth 20000 in
theorem zM_X12_pace (l : Launch) : ab_Met l zw_M vwCl zZ_M yX12_pace cX12_pace 4 (some .int) zR_X12_pace zt_X12_pace := ab_ofRun (G := zg_X12_pace) (P := zp_X12_pace) rfl zo_X12_pace (by decide +kernel) zl_cl zl_lamM zf_X12_ok ab_Tab_nil zc_X12_ok ab_Sta_nil (List.forall_mem_cons.mpr ⟨ab_callV zZ_M_ok (zM_X12_isMan l) (ab_in 1301 (by decide +kernel) rfl) (ab_in 1298 (by decide +kernel) rfl) (ab_in 1300 (by decide +kernel) rfl) (ab_inS (List.mem_of_getElem? (i := 39) (by decide +kernel)) rfl) (ab_in 17 (by decide +kernel) rfl) (by unfold ab_yok; decide +kernel) ⟨rfl, rfl⟩ (by decide) zV_X12_isMan, List.forall_mem_nil _⟩) (List.forall_mem_cons.mpr ⟨ab_callS zZ_M_ok (zM_X12_in l) (ab_in 1200 (by decide +kernel) rfl) (ab_in 1198 (by decide +kernel) rfl) (ab_in 1199 (by decide +kernel) rfl) (ab_in 17 (by decide +kernel) rfl) (by unfold ab_yok; decide +kernel) ⟨rfl, rfl⟩ (by decide), List.forall_mem_nil _⟩) zE_X12_pace
abbrev zLaC (n : Nat) (l v : Int32) : Prop := (zHasN l n) ∧ (0 ≤ v ∧ v ≤ 1)
def zt_X12_lamp : ab_T := ab_lq (α := Nat × Int32 × Int32) (fun x r M _ => r = [.int x.2.1, .int x.2.2] ∧ M 0 7 = nI x.1 ∧ x.1 ≤ 8)
  (fun x M N o M2 N2 => N2 = N ∧ ((zLaC x.1 x.2.1 x.2.2 ∧ (∃ j : Nat, j < 8 ∧ x.2.1 = nI j ∧ o = some (.int (M 5 j)) ∧ M2 = ab_u M 5 (upd (M 5) j x.2.2))) ∨ (¬ zLaC x.1 x.2.1 x.2.2 ∧ M2 = M ∧ o = some (.int (if zHasN x.2.1 x.1 then -2 else -1)))))
theorem zt_X12_lamp_mono : ab_mono zt_X12_lamp := ab_lq_mono _ _
theorem zV_X12_lamp : ab_recv zw_M vwCl RX12 zt_X12_lamp := ab_lq_v
def zp_X12_lamp : ab_P := [(0, .aload_n 0, 1, [0], []),
  (1, .iload_n 1, 2, [1], []),
  (2, .invokevirtual 182, 5, [], []),
  (5, .ifCond .ne 5, 8, [10], []),
  (8, .iconst (-1), 9, [], [(-1)]),
  (9, .ireturn, 10, [], []),
  (10, .iload_n 2, 11, [2], []),
  (11, .iconst 0, 12, [], [0]),
  (12, .iconst 1, 13, [], [1]),
  (13, .invokestatic 175, 16, [], []),
  (16, .ifCond .ne 6, 19, [22], []),
  (19, .bipush (-2), 21, [], [(-2)]),
  (21, .ireturn, 22, [], []),
  (22, .aload_n 0, 23, [0], []),
  (23, .getfield 38, 26, [], []),
  (26, .iload_n 1, 27, [1], []),
  (27, .iaload, 28, [], []),
  (28, .istore_n 3, 29, [3], []),
  (29, .aload_n 0, 30, [0], []),
  (30, .getfield 38, 33, [], []),
  (33, .iload_n 1, 34, [1], []),
  (34, .iload_n 2, 35, [2], []),
  (35, .iastore, 36, [], []),
  (36, .iload_n 3, 37, [3], []),
  (37, .ireturn, 38, [], [])]
theorem zo_X12_lamp : ab_ok cX12_lamp zp_X12_lamp = true := by decide +kernel
def zg_X12_lamp : ab_G := (zw_M, [], zf_X12, zc_X12, [], [(182, 2, zt_X12_isPiece)], [(175, 3, zt_X12_in)])
theorem zm_X12_lamp : ab_MG zg_X12_lamp := ab_MGof (List.forall_mem_cons.mpr ⟨ab_pure_mono _, List.forall_mem_nil _⟩) (List.forall_mem_cons.mpr ⟨ab_pure_mono _, List.forall_mem_nil _⟩)
abbrev zr_X12_lamp (Q : ab_R) : ab_K := ab_Run zg_X12_lamp zp_X12_lamp (some .int) 4 Q
set_option maxRecDepth 20000 in
theorem zv_X12_lamp_0 {Q : ab_R} {M : ab_M} {N : ab_N} (l1 : Int32) (l2 : Int32) (h : ((ab_b (0 ≤ l1 ∧ l1 ≤ (M 0) 7 - 1)) = 0 → Q (some (.int (-1 : Int32))) M N) ∧ (¬ ((ab_b (0 ≤ l1 ∧ l1 ≤ (M 0) 7 - 1)) = 0) → ((ab_b ((0 : Int32) ≤ l2 ∧ l2 ≤ (1 : Int32))) = 0 → Q (some (.int (-2 : Int32))) M N) ∧ (¬ ((ab_b ((0 : Int32) ≤ l2 ∧ l2 ≤ (1 : Int32))) = 0) → vp_in l1 8 ∧ (vp_in l1 8 ∧ (let z1 : Nat → Int32 := upd (M 5) l1.toNatClampNeg l2; Q (some (.int (M 5 l1.toNatClampNeg))) (ab_u M 5 z1) N))))) : zr_X12_lamp Q 0 [some (.ref 0), some (.int l1), some (.int l2)] [] M N := ab_Run_s zm_X12_lamp (sp := []) 27 h
theorem zE_X12_lamp (as : List Value) (M : ab_M) (N : ab_N) (k : ab_R) (hT : zt_X12_lamp as M N k) : ab_cs as ≤ 4 ∧ zr_X12_lamp k 0 (ab_en as) [] M N := by
  obtain ⟨⟨n, l, v⟩, q, rfl, ⟨rfl, hx⟩, hk⟩ := hT
  dsimp only at hx hk ⊢
  refine ⟨Nat.le_of_ble_eq_true rfl, zv_X12_lamp_0 _ _ ?_⟩
  rw [hx.1]
  refine ⟨fun c => ?_, fun c => ⟨fun c2 => ?_, fun c2 => ?_⟩⟩
  · have c := ab_b_0.mp c
    exact hk _ _ _ ⟨rfl, Or.inr ⟨fun z => c z.1, rfl, by rw [if_neg c]⟩⟩
  · have a1 := zIx0 c
    have c2 := ab_b_0.mp c2
    exact hk _ _ _ ⟨rfl, Or.inr ⟨fun z => c2 z.2, rfl, by rw [if_pos a1]⟩⟩
  · have a1 := zIx0 c
    have a2 := zIx0 c2
    obtain ⟨j, y, e⟩ := zIxN (by omega) a1
    have hj : j < 8 := by omega
    have ec : l.toNatClampNeg = j := by rw [e, nI_clamp (by omega)]
    have hi : vp_in l 8 := by rw [e]; exact nI_in_ hj
    rw [ec]
    refine ⟨hi, hi, ?_⟩
    intro z1
    exact hk _ _ _ ⟨rfl, Or.inl ⟨⟨a1, a2⟩, j, hj, e, rfl, rfl⟩⟩
abbrev zR_X12_lamp : Room := { frames := 2, cells := 0, slots := 0, locals := 43 }
set_option maxRecDepth 20000 in
theorem zM_X12_lamp (l : Launch) : ab_Met l zw_M vwCl zZ_M yX12_lamp cX12_lamp 4 (some .int) zR_X12_lamp zt_X12_lamp := ab_ofRun (G := zg_X12_lamp) (P := zp_X12_lamp) rfl zo_X12_lamp (by decide +kernel) zl_cl zl_lamM zf_X12_ok ab_Tab_nil zc_X12_ok ab_Sta_nil (List.forall_mem_cons.mpr ⟨ab_callV zZ_M_ok (zM_X12_isPiece l) (ab_in 1208 (by decide +kernel) rfl) (ab_in 1205 (by decide +kernel) rfl) (ab_in 1207 (by decide +kernel) rfl) (ab_inS (List.mem_of_getElem? (i := 27) (by decide +kernel)) rfl) (ab_in 17 (by decide +kernel) rfl) (by unfold ab_yok; decide +kernel) ⟨rfl, rfl⟩ (by decide) zV_X12_isPiece, List.forall_mem_nil _⟩) (List.forall_mem_cons.mpr ⟨ab_callS zZ_M_ok (zM_X12_in l) (ab_in 1200 (by decide +kernel) rfl) (ab_in 1198 (by decide +kernel) rfl) (ab_in 1199 (by decide +kernel) rfl) (ab_in 17 (by decide +kernel) rfl) (by unfold ab_yok; decide +kernel) ⟨rfl, rfl⟩ (by decide), List.forall_mem_nil _⟩) zE_X12_lamp
def zt_X12_force : ab_T := ab_lq (α := Int32) (fun x r _ _ => r = [.int x])
  (fun x M N o M2 N2 => N2 = N ∧ ((((0 : Int32) ≤ x ∧ x ≤ M 0 23 - 1) ∧ o = some (.int (M 0 24)) ∧ M2 = ab_u M 0 (upd (M 0) 24 x)) ∨ (¬ ((0 : Int32) ≤ x ∧ x ≤ M 0 23 - 1) ∧ o = some (.int (-2)) ∧ M2 = M)))
theorem zt_X12_force_mono : ab_mono zt_X12_force := ab_lq_mono _ _
theorem zV_X12_force : ab_recv zw_M vwCl RX12 zt_X12_force := ab_lq_v
def zp_X12_force : ab_P := [(0, .iload_n 1, 1, [1], []),
  (1, .iconst 0, 2, [], [0]),
  (2, .aload_n 0, 3, [0], []),
  (3, .getfield 68, 6, [], []),
  (6, .iconst 1, 7, [], [1]),
  (7, .isub, 8, [], []),
  (8, .invokestatic 175, 11, [], []),
  (11, .ifCond .ne 6, 14, [17], []),
  (14, .bipush (-2), 16, [], [(-2)]),
  (16, .ireturn, 17, [], []),
  (17, .aload_n 0, 18, [0], []),
  (18, .getfield 193, 21, [], []),
  (21, .istore_n 2, 22, [2], []),
  (22, .aload_n 0, 23, [0], []),
  (23, .iload_n 1, 24, [1], []),
  (24, .putfield 193, 27, [], []),
  (27, .iload_n 2, 28, [2], []),
  (28, .ireturn, 29, [], [])]
theorem zo_X12_force : ab_ok cX12_force zp_X12_force = true := by decide +kernel
def zg_X12_force : ab_G := (zw_M, [], zf_X12, zc_X12, [], [], [(175, 3, zt_X12_in)])
theorem zm_X12_force : ab_MG zg_X12_force := ab_MGof (List.forall_mem_nil _) (List.forall_mem_cons.mpr ⟨ab_pure_mono _, List.forall_mem_nil _⟩)
abbrev zr_X12_force (Q : ab_R) : ab_K := ab_Run zg_X12_force zp_X12_force (some .int) 3 Q
set_option maxRecDepth 20000 in
theorem zv_X12_force_0 {Q : ab_R} {M : ab_M} {N : ab_N} (l1 : Int32) (h : ((ab_b ((0 : Int32) ≤ l1 ∧ l1 ≤ ((M 0 23) - (1 : Int32)))) = 0 → Q (some (.int (-2 : Int32))) M N) ∧ (¬ ((ab_b ((0 : Int32) ≤ l1 ∧ l1 ≤ ((M 0 23) - (1 : Int32)))) = 0) → let z1 : Nat → Int32 := upd (M 0) 24 l1; Q (some (.int (M 0 24))) (ab_u M 0 z1) N)) : zr_X12_force Q 0 [some (.ref 0), some (.int l1)] [] M N := ab_Run_s zm_X12_force (sp := []) 20 h
theorem zE_X12_force (as : List Value) (M : ab_M) (N : ab_N) (k : ab_R) (hT : zt_X12_force as M N k) : ab_cs as ≤ 3 ∧ zr_X12_force k 0 (ab_en as) [] M N := by
  obtain ⟨l, q, rfl, rfl, hk⟩ := hT
  refine ⟨Nat.le_of_ble_eq_true rfl, zv_X12_force_0 _ ⟨fun c => hk _ _ _ ⟨rfl, Or.inr ⟨ab_b_0.mp c, rfl, rfl⟩⟩, fun c => ?_⟩⟩
  intro z1
  exact hk _ _ _ ⟨rfl, Or.inl ⟨zIx0 c, rfl, rfl⟩⟩
abbrev zR_X12_force : Room := { frames := 1, cells := 0, slots := 0, locals := 22 }
set_option maxRecDepth 20000 in
theorem zM_X12_force (l : Launch) : ab_Met l zw_M vwCl zZ_M yX12_force cX12_force 3 (some .int) zR_X12_force zt_X12_force := ab_ofRun (G := zg_X12_force) (P := zp_X12_force) rfl zo_X12_force (by decide +kernel) zl_cl zl_lamM zf_X12_ok ab_Tab_nil zc_X12_ok ab_Sta_nil (List.forall_mem_nil _) (List.forall_mem_cons.mpr ⟨ab_callS zZ_M_ok (zM_X12_in l) (ab_in 1200 (by decide +kernel) rfl) (ab_in 1198 (by decide +kernel) rfl) (ab_in 1199 (by decide +kernel) rfl) (ab_in 17 (by decide +kernel) rfl) (by unfold ab_yok; decide +kernel) ⟨rfl, rfl⟩ (by decide), List.forall_mem_nil _⟩) zE_X12_force
def zt_X12_call : ab_T := ab_lq (α := Int32) (fun x r _ _ => r = [.int x])
  (fun x M N o M2 N2 => N2 = N ∧ ((((-1 : Int32) ≤ x ∧ x ≤ 11) ∧ o = some (.int (M 0 5)) ∧ M2 = ab_u M 0 (upd (M 0) 5 x)) ∨ (¬ ((-1 : Int32) ≤ x ∧ x ≤ 11) ∧ o = some (.int (-2)) ∧ M2 = M)))
theorem zt_X12_call_mono : ab_mono zt_X12_call := ab_lq_mono _ _
theorem zV_X12_call : ab_recv zw_M vwCl RX12 zt_X12_call := ab_lq_v
def zp_X12_call : ab_P := [(0, .iload_n 1, 1, [1], []),
  (1, .iconst (-1), 2, [], [(-1)]),
  (2, .bipush 11, 4, [], [11]),
  (4, .invokestatic 175, 7, [], []),
  (7, .ifCond .ne 6, 10, [13], []),
  (10, .bipush (-2), 12, [], [(-2)]),
  (12, .ireturn, 13, [], []),
  (13, .aload_n 0, 14, [0], []),
  (14, .getfield 22, 17, [], []),
  (17, .istore_n 2, 18, [2], []),
  (18, .aload_n 0, 19, [0], []),
  (19, .iload_n 1, 20, [1], []),
  (20, .putfield 22, 23, [], []),
  (23, .iload_n 2, 24, [2], []),
  (24, .ireturn, 25, [], [])]
theorem zo_X12_call : ab_ok cX12_call zp_X12_call = true := by decide +kernel
def zg_X12_call : ab_G := (zw_M, [], zf_X12, zc_X12, [], [], [(175, 3, zt_X12_in)])
theorem zm_X12_call : ab_MG zg_X12_call := ab_MGof (List.forall_mem_nil _) (List.forall_mem_cons.mpr ⟨ab_pure_mono _, List.forall_mem_nil _⟩)
abbrev zr_X12_call (Q : ab_R) : ab_K := ab_Run zg_X12_call zp_X12_call (some .int) 3 Q
set_option maxRecDepth 20000 in
theorem zv_X12_call_0 {Q : ab_R} {M : ab_M} {N : ab_N} (l1 : Int32) (h : ((ab_b ((-1 : Int32) ≤ l1 ∧ l1 ≤ (11 : Int32))) = 0 → Q (some (.int (-2 : Int32))) M N) ∧ (¬ ((ab_b ((-1 : Int32) ≤ l1 ∧ l1 ≤ (11 : Int32))) = 0) → let z1 : Nat → Int32 := upd (M 0) 5 l1; Q (some (.int (M 0 5))) (ab_u M 0 z1) N)) : zr_X12_call Q 0 [some (.ref 0), some (.int l1)] [] M N := ab_Run_s zm_X12_call (sp := []) 17 h
theorem zE_X12_call (as : List Value) (M : ab_M) (N : ab_N) (k : ab_R) (hT : zt_X12_call as M N k) : ab_cs as ≤ 3 ∧ zr_X12_call k 0 (ab_en as) [] M N := by
  obtain ⟨l, q, rfl, rfl, hk⟩ := hT
  refine ⟨Nat.le_of_ble_eq_true rfl, zv_X12_call_0 _ ⟨fun c => hk _ _ _ ⟨rfl, Or.inr ⟨ab_b_0.mp c, rfl, rfl⟩⟩, fun c => ?_⟩⟩
  intro z1
  exact hk _ _ _ ⟨rfl, Or.inl ⟨zIx0 c, rfl, rfl⟩⟩
abbrev zR_X12_call : Room := { frames := 1, cells := 0, slots := 0, locals := 22 }
set_option maxRecDepth 20000 in
theorem zM_X12_call (l : Launch) : ab_Met l zw_M vwCl zZ_M yX12_call cX12_call 3 (some .int) zR_X12_call zt_X12_call := ab_ofRun (G := zg_X12_call) (P := zp_X12_call) rfl zo_X12_call (by decide +kernel) zl_cl zl_lamM zf_X12_ok ab_Tab_nil zc_X12_ok ab_Sta_nil (List.forall_mem_nil _) (List.forall_mem_cons.mpr ⟨ab_callS zZ_M_ok (zM_X12_in l) (ab_in 1200 (by decide +kernel) rfl) (ab_in 1198 (by decide +kernel) rfl) (ab_in 1199 (by decide +kernel) rfl) (ab_in 17 (by decide +kernel) rfl) (by unfold ab_yok; decide +kernel) ⟨rfl, rfl⟩ (by decide), List.forall_mem_nil _⟩) zE_X12_call
