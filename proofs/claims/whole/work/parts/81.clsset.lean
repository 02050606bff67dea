/-! the class: one place is set *)
-/
abbrev zFg (M : ab_M) : ab_M := ab_u M 5 (upd (M 5) 4 (M 5 4 + 1))
theorem zFg_n (M : ab_M) {c : Nat} (h : c ≠ 5) : zFg M c = M c := ab_u_ne _ _ h
theorem zFgC {M : ab_M} {N : ab_N} {k : ab_R} (h : k none (zFg M) N) : zt_X1_forget [.ref 5] M N k := ab_m0_i trivial (by
  rintro o M2 N2 ⟨rfl, rfl, rfl⟩
  exact h)
abbrev zPcV (a b : Int32) (n : Nat) : Prop := (0 ≤ a ∧ a ≤ 1) ∧ (0 ≤ b ∧ b ≤ 99) ∧ ¬ n = 8
def zPcC (M : ab_M) (a b : Int32) (n : Nat) : ab_M := if zPcV a b n then ab_u (ab_u (ab_u (zFg M) 13 (upd (M 13) n a)) 14 (upd (M 14) n b)) 1 (upd (M 1) 4 (nI (n + 1))) else M
def zt_X11_piece : ab_T := ab_m2 0 (fun _ _ M _ => zI0 M) (fun a b M N o M2 N2 => N2 = N ∧ M2 = zPcC M a b (zPcs M) ∧ o = some (.int (zPcA a b (zPcs M))))
theorem zt_X11_piece_mono : ab_mono zt_X11_piece := ab_m2_mono _ _ _
theorem zV_X11_piece : ab_recv zw_C vwCl RX11 zt_X11_piece := ab_m2_v rfl rfl
def zp_X11_piece : ab_P := [(0, .iload_n 1, 1, [1], []),
  (1, .iconst 0, 2, [], [0]),
  (2, .iconst 1, 3, [], [1]),
  (3, .invokestatic 117, 6, [], []),
  (6, .ifCond .eq 13, 9, [19], []),
  (9, .iload_n 2, 10, [2], []),
  (10, .iconst 0, 11, [], [0]),
  (11, .bipush 99, 13, [], [99]),
  (13, .invokestatic 117, 16, [], []),
  (16, .ifCond .ne 6, 19, [22], []),
  (19, .bipush (-2), 21, [], [(-2)]),
  (21, .ireturn, 22, [], []),
  (22, .aload_n 0, 23, [0], []),
  (23, .getfield 10, 26, [], []),
  (26, .getfield 121, 29, [], []),
  (29, .bipush 8, 31, [], [8]),
  (31, .if_icmp .lt 6, 34, [37], []),
  (34, .bipush (-4), 36, [], [(-4)]),
  (36, .ireturn, 37, [], []),
  (37, .aload_n 0, 38, [0], []),
  (38, .getfield 44, 41, [], []),
  (41, .invokevirtual 124, 44, [], []),
  (44, .aload_n 0, 45, [0], []),
  (45, .getfield 10, 48, [], []),
  (48, .iload_n 1, 49, [1], []),
  (49, .iload_n 2, 50, [2], []),
  (50, .invokevirtual 127, 53, [], []),
  (53, .ireturn, 54, [], [])]
theorem zo_X11_piece : ab_ok cX11_piece zp_X11_piece = true := by decide +kernel
def zg_X11_piece : ab_G := (zw_C, zs_tab, zf_X11, zc_X11, [(144, 50), (147, 51)], [(124, 1, zt_X1_forget), (127, 3, zt_X2_add)], [(117, 3, zt_X11_within)])
theorem zm_X11_piece : ab_MG zg_X11_piece := ab_MGof (List.forall_mem_cons.mpr ⟨zt_X1_forget_mono, List.forall_mem_cons.mpr ⟨zt_X2_add_mono, List.forall_mem_nil _⟩⟩) (List.forall_mem_cons.mpr ⟨ab_pure_mono _, List.forall_mem_nil _⟩)
abbrev zr_X11_piece (Q : ab_R) : ab_K := ab_Run zg_X11_piece zp_X11_piece (some .int) 3 Q
set_option maxRecDepth 20000 in
theorem zv_X11_piece_0 {Q : ab_R} {M : ab_M} {N : ab_N} (l1 : Int32) (l2 : Int32) (h : ((ab_b ((0 : Int32) ≤ l1 ∧ l1 ≤ (1 : Int32))) = 0 → Q (some (.int (-2 : Int32))) M N) ∧ (¬ ((ab_b ((0 : Int32) ≤ l1 ∧ l1 ≤ (1 : Int32))) = 0) → ((ab_b ((0 : Int32) ≤ l2 ∧ l2 ≤ (99 : Int32))) = 0 → Q (some (.int (-2 : Int32))) M N) ∧ (¬ ((ab_b ((0 : Int32) ≤ l2 ∧ l2 ≤ (99 : Int32))) = 0) → ((M 1 4) < (8 : Int32) → zt_X1_forget [.ref 5] M N (fun r M2 N2 => zr_X11_piece Q 44 [some (.ref 0), some (.int l1), some (.int l2)] (ab_ol r []) M2 N2)) ∧ (¬ ((M 1 4) < (8 : Int32)) → Q (some (.int (-4 : Int32))) M N)))) : zr_X11_piece Q 0 [some (.ref 0), some (.int l1), some (.int l2)] [] M N := ab_Run_s zm_X11_piece (sp := [(44, [true, true, true]), (53, [false, false, false])]) 30 h
set_option maxRecDepth 20000 in
theorem zv_X11_piece_44 {Q : ab_R} {M : ab_M} {N : ab_N} (l1 : Int32) (l2 : Int32) (h : zt_X2_add [.ref 1, .int l1, .int l2] M N (fun r M2 N2 => zr_X11_piece Q 53 [none, none, none] (ab_ol r []) M2 N2)) : zr_X11_piece Q 44 [some (.ref 0), some (.int l1), some (.int l2)] [] M N := ab_Run_s zm_X11_piece (sp := [(44, [true, true, true]), (53, [false, false, false])]) 30 h
set_option maxRecDepth 20000 in
theorem zv_X11_piece_53 {Q : ab_R} {M : ab_M} {N : ab_N} (s0 : Int32) (h : Q (some (.int s0)) M N) : zr_X11_piece Q 53 [none, none, none] [.int s0] M N := ab_Run_s zm_X11_piece (sp := [(44, [true, true, true]), (53, [false, false, false])]) 30 h
theorem zE_X11_piece (as : List Value) (M : ab_M) (N : ab_N) (k : ab_R) (hT : zt_X11_piece as M N k) : ab_cs as ≤ 3 ∧ zr_X11_piece k 0 (ab_en as) [] M N := by
  obtain ⟨a, b, rfl, h0, hk⟩ := ab_m2_e hT
  obtain ⟨n7, p8⟩ := zP_eq h0
  have hk := hk _ _ _ ⟨rfl, rfl, rfl⟩
  unfold zPcC zPcA at hk
  refine ⟨Nat.le_of_ble_eq_true rfl, zv_X11_piece_0 _ _ ?_⟩
  rw [n7]
  refine ⟨fun c => ?_, fun c => ⟨fun c2 => ?_, fun c2 => ⟨fun c3 => ?_, fun c3 => ?_⟩⟩⟩
  · have c := ab_b_0.mp c
    have nv : ¬ zPcV a b (zPcs M) := fun z => c z.1
    rw [if_neg nv, if_neg c] at hk
    exact hk
  · have c2 := ab_b_0.mp c2
    have nv : ¬ zPcV a b (zPcs M) := fun z => c2 z.2.1
    rw [if_neg nv, if_pos (zIx0 c), if_neg c2] at hk
    exact hk
  · have e : ¬ zPcs M = 8 := fun z => by
      rw [z] at c3
      exact absurd c3 (by decide)
    have pv : zPcV a b (zPcs M) := ⟨zIx0 c, zIx0 c2, e⟩
    rw [if_pos pv, if_pos (zIx0 c), if_pos (zIx0 c2), if_neg e] at hk
    refine zFgC (zv_X11_piece_44 _ _ (ab_m2_i ?_ ?_))
    · rw [zFg_n M (show (1 : Nat) ≠ 5 by decide), n7]
      exact nI_in_ (by omega)
    · rintro o M2 N2 ⟨rfl, rfl, rfl⟩
      refine zv_X11_piece_53 _ ?_
      rw [zFg_n M (show (1 : Nat) ≠ 5 by decide), zFg_n M (show (13 : Nat) ≠ 5 by decide), zFg_n M (show (14 : Nat) ≠ 5 by decide), n7, nI_clamp (show zPcs M < 2 ^ 31 by omega), nI_1]
      exact hk
  · have e : zPcs M = 8 := by
      by_cases e : zPcs M = 8
      · exact e
      · exact absurd (nI_lt (a := zPcs M) (b := 8) (by omega) (by decide)) c3
    have nv : ¬ zPcV a b (zPcs M) := fun z => z.2.2 e
    rw [if_neg nv, if_pos (zIx0 c), if_pos (zIx0 c2), if_pos e] at hk
    exact hk
abbrev zR_X11_piece : Room := { frames := 1, cells := 0, slots := 0, locals := 23 }
set_option maxRecDepth 20000 in
theorem zM_X11_piece (l : Launch) : ab_Met l zw_C vwCl zZ_C yX11_piece cX11_piece 3 (some .int) zR_X11_piece zt_X11_piece := ab_ofRun (G := zg_X11_piece) (P := zp_X11_piece) rfl zo_X11_piece (by decide +kernel) zl_cl zl_lamC zf_X11_ok zs_tabOK zc_X11_ok zs_X11_ok (List.forall_mem_cons.mpr ⟨ab_callV zZ_C_ok (zM_X1_forget l) (ab_in 542 (by decide +kernel) rfl) (ab_in 539 (by decide +kernel) rfl) (ab_in 540 (by decide +kernel) rfl) (ab_in 541 (by decide +kernel) rfl) (ab_in 6 (by decide +kernel) rfl) (by unfold ab_yok; decide +kernel) ⟨rfl, rfl⟩ (by decide) zV_X1_forget, List.forall_mem_cons.mpr ⟨ab_callV zZ_C_ok (zM_X2_add l) (ab_in 546 (by decide +kernel) rfl) (ab_in 543 (by decide +kernel) rfl) (ab_in 544 (by decide +kernel) rfl) (ab_in 545 (by decide +kernel) rfl) (ab_in 2 (by decide +kernel) rfl) (by unfold ab_yok; decide +kernel) ⟨rfl, rfl⟩ (by decide) zV_X2_add, List.forall_mem_nil _⟩⟩) (List.forall_mem_cons.mpr ⟨ab_callS zZ_C_ok (zM_X11_within l) (ab_in 538 (by decide +kernel) rfl) (ab_in 536 (by decide +kernel) rfl) (ab_in 537 (by decide +kernel) rfl) (ab_in 1 (by decide +kernel) rfl) (by unfold ab_yok; decide +kernel) ⟨rfl, rfl⟩ (by decide), List.forall_mem_nil _⟩) zE_X11_piece
abbrev zStV (n : Nat) (p w v : Int32) : Prop := zHasN p n ∧ ((w = 0 ∧ 0 ≤ v ∧ v ≤ 1) ∨ (w = 1 ∧ 0 ≤ v ∧ v ≤ 99) ∨ (w = 2 ∧ 0 ≤ v ∧ v ≤ 3))
def zStP (R : ab_M) (n : Nat) (p w v : Int32) : Int32 := if zStV n p w v then R w.toNatClampNeg p.toNatClampNeg else if zHasN p n then -7 else -5
def zStC (M : ab_M) (n : Nat) (p w v : Int32) : ab_M := if zStV n p w v then zFg (ab_u M (13 + w.toNatClampNeg) (upd (M (13 + w.toNatClampNeg)) p.toNatClampNeg v)) else M
def zStR (M : ab_M) (n : Nat) (p w v : Int32) : ab_M := if zStV n p w v then ab_u M (2 + w.toNatClampNeg) (upd (M (2 + w.toNatClampNeg)) p.toNatClampNeg v) else M
def zt_X11_set : ab_T := ab_m3 0 (fun _ _ _ M _ => zI0 M) (fun p w v M N o M2 N2 => N2 = N ∧ M2 = zStC M (zPcs M) p w v ∧ o = some (.int (zStP (fun c => M (13 + c)) (zPcs M) p w v)))
theorem zt_X11_set_mono : ab_mono zt_X11_set := ab_m3_mono _ _ _
theorem zV_X11_set : ab_recv zw_C vwCl RX11 zt_X11_set := ab_m3_v rfl rfl
def zp_X11_set : ab_P := [(0, .aload_n 0, 1, [0], []),
  (1, .getfield 10, 4, [], []),
  (4, .iload_n 1, 5, [1], []),
  (5, .invokevirtual 130, 8, [], []),
  (8, .ifCond .ne 6, 11, [14], []),
  (11, .bipush (-5), 13, [], [(-5)]),
  (13, .ireturn, 14, [], []),
  (14, .iload_n 2, 15, [2], []),
  (15, .iconst 0, 16, [], [0]),
  (16, .iconst 2, 17, [], [2]),
  (17, .invokestatic 117, 20, [], []),
  (20, .ifCond .ne 6, 23, [26], []),
  (23, .bipush (-7), 25, [], [(-7)]),
  (25, .ireturn, 26, [], []),
  (26, .iload_n 2, 27, [2], []),
  (27, .ifCond .ne 7, 30, [34], []),
  (30, .iconst 1, 31, [], [1]),
  (31, .goto 14, 34, [45], []),
  (34, .iload_n 2, 35, [2], []),
  (35, .iconst 1, 36, [], [1]),
  (36, .if_icmp .ne 8, 39, [44], []),
  (39, .bipush 99, 41, [], [99]),
  (41, .goto 4, 44, [45], []),
  (44, .iconst 3, 45, [], [3]),
  (45, .istore 4, 47, [], []),
  (47, .iload_n 3, 48, [3], []),
  (48, .iconst 0, 49, [], [0]),
  (49, .iload 4, 51, [], []),
  (51, .invokestatic 117, 54, [], []),
  (54, .ifCond .ne 6, 57, [60], []),
  (57, .bipush (-7), 59, [], [(-7)]),
  (59, .ireturn, 60, [], []),
  (60, .iload_n 2, 61, [2], []),
  (61, .ifCond .ne 13, 64, [74], []),
  (64, .aload_n 0, 65, [0], []),
  (65, .getfield 10, 68, [], []),
  (68, .getfield 134, 71, [], []),
  (71, .goto 25, 74, [96], []),
  (74, .iload_n 2, 75, [2], []),
  (75, .iconst 1, 76, [], [1]),
  (76, .if_icmp .ne 13, 79, [89], []),
  (79, .aload_n 0, 80, [0], []),
  (80, .getfield 10, 83, [], []),
  (83, .getfield 138, 86, [], []),
  (86, .goto 10, 89, [96], []),
  (89, .aload_n 0, 90, [0], []),
  (90, .getfield 10, 93, [], []),
  (93, .getfield 141, 96, [], []),
  (96, .astore 5, 98, [], []),
  (98, .aload 5, 100, [], []),
  (100, .iload_n 1, 101, [1], []),
  (101, .iaload, 102, [], []),
  (102, .istore 6, 104, [], []),
  (104, .aload 5, 106, [], []),
  (106, .iload_n 1, 107, [1], []),
  (107, .iload_n 3, 108, [3], []),
  (108, .iastore, 109, [], []),
  (109, .aload_n 0, 110, [0], []),
  (110, .getfield 44, 113, [], []),
  (113, .invokevirtual 124, 116, [], []),
  (116, .iload 6, 118, [], []),
  (118, .ireturn, 119, [], [])]
theorem zo_X11_set : ab_ok cX11_set zp_X11_set = true := by decide +kernel
def zg_X11_set : ab_G := (zw_C, zs_tab, zf_X11, zc_X11, [(144, 50), (147, 51)], [(124, 1, zt_X1_forget), (130, 2, zt_X2_has)], [(117, 3, zt_X11_within)])
theorem zm_X11_set : ab_MG zg_X11_set := ab_MGof (List.forall_mem_cons.mpr ⟨zt_X1_forget_mono, List.forall_mem_cons.mpr ⟨ab_pure_mono _, List.forall_mem_nil _⟩⟩) (List.forall_mem_cons.mpr ⟨ab_pure_mono _, List.forall_mem_nil _⟩)
abbrev zr_X11_set (Q : ab_R) : ab_K := ab_Run zg_X11_set zp_X11_set (some .int) 7 Q
set_option maxRecDepth 20000 in
theorem zv_X11_set_0 {Q : ab_R} {M : ab_M} {N : ab_N} (l1 : Int32) (l2 : Int32) (l3 : Int32) (h : ((ab_b (0 ≤ l1 ∧ l1 < (M 1) 4 ∧ l1 < 8)) = 0 → Q (some (.int (-5 : Int32))) M N) ∧ (¬ ((ab_b (0 ≤ l1 ∧ l1 < (M 1) 4 ∧ l1 < 8)) = 0) → ((ab_b ((0 : Int32) ≤ l2 ∧ l2 ≤ (2 : Int32))) = 0 → Q (some (.int (-7 : Int32))) M N) ∧ (¬ ((ab_b ((0 : Int32) ≤ l2 ∧ l2 ≤ (2 : Int32))) = 0) → (l2 = 0 → zr_X11_set Q 45 [some (.ref 0), some (.int l1), some (.int l2), some (.int l3), none, none, none] [.int (1 : Int32)] M N) ∧ (¬ (l2 = 0) → (l2 = (1 : Int32) → zr_X11_set Q 45 [some (.ref 0), some (.int l1), some (.int l2), some (.int l3), none, none, none] [.int (99 : Int32)] M N) ∧ (¬ (l2 = (1 : Int32)) → zr_X11_set Q 45 [some (.ref 0), some (.int l1), some (.int l2), some (.int l3), none, none, none] [.int (3 : Int32)] M N))))) : zr_X11_set Q 0 [some (.ref 0), some (.int l1), some (.int l2), some (.int l3)] [] M N := ab_Run_s zm_X11_set (sp := [(45, [true, true, true, true, false, false, false]), (116, [false, false, false, false, false, false, true])]) 64 h
set_option maxRecDepth 20000 in
theorem zv_X11_set_45 {Q : ab_R} {M : ab_M} {N : ab_N} (l1 : Int32) (l2 : Int32) (l3 : Int32) (s0 : Int32) (h : ((ab_b ((0 : Int32) ≤ l3 ∧ l3 ≤ s0)) = 0 → Q (some (.int (-7 : Int32))) M N) ∧ (¬ ((ab_b ((0 : Int32) ≤ l3 ∧ l3 ≤ s0)) = 0) → (l2 = 0 → vp_in l1 8 ∧ (vp_in l1 8 ∧ (let z1 : Nat → Int32 := upd (M 13) l1.toNatClampNeg l3; zt_X1_forget [.ref 5] (ab_u M 13 z1) N (fun r M2 N2 => zr_X11_set Q 116 [none, none, none, none, none, none, some (.int (M 13 l1.toNatClampNeg))] (ab_ol r []) M2 N2)))) ∧ (¬ (l2 = 0) → (l2 = (1 : Int32) → vp_in l1 8 ∧ (vp_in l1 8 ∧ (let z2 : Nat → Int32 := upd (M 14) l1.toNatClampNeg l3; zt_X1_forget [.ref 5] (ab_u M 14 z2) N (fun r M2 N2 => zr_X11_set Q 116 [none, none, none, none, none, none, some (.int (M 14 l1.toNatClampNeg))] (ab_ol r []) M2 N2)))) ∧ (¬ (l2 = (1 : Int32)) → vp_in l1 8 ∧ (vp_in l1 8 ∧ (let z3 : Nat → Int32 := upd (M 15) l1.toNatClampNeg l3; zt_X1_forget [.ref 5] (ab_u M 15 z3) N (fun r M2 N2 => zr_X11_set Q 116 [none, none, none, none, none, none, some (.int (M 15 l1.toNatClampNeg))] (ab_ol r []) M2 N2))))))) : zr_X11_set Q 45 [some (.ref 0), some (.int l1), some (.int l2), some (.int l3), none, none, none] [.int s0] M N := ab_Run_s zm_X11_set (sp := [(45, [true, true, true, true, false, false, false]), (116, [false, false, false, false, false, false, true])]) 64 h
set_option maxRecDepth 20000 in
theorem zv_X11_set_116 {Q : ab_R} {M : ab_M} {N : ab_N} (l6 : Int32) (h : Q (some (.int l6)) M N) : zr_X11_set Q 116 [none, none, none, none, none, none, some (.int l6)] [] M N := ab_Run_s zm_X11_set (sp := [(45, [true, true, true, true, false, false, false]), (116, [false, false, false, false, false, false, true])]) 64 h
theorem zE_X11_set (as : List Value) (M : ab_M) (N : ab_N) (k : ab_R) (hT : zt_X11_set as M N k) : ab_cs as ≤ 7 ∧ zr_X11_set k 0 (ab_en as) [] M N := by
  obtain ⟨p, w, v, rfl, h0, hk⟩ := ab_m3_e hT
  obtain ⟨n7, p8⟩ := zP_eq h0
  have hk := hk _ _ _ ⟨rfl, rfl, rfl⟩
  unfold zStC zStP at hk
  refine ⟨Nat.le_of_ble_eq_true rfl, zv_X11_set_0 _ _ _ ?_⟩
  rw [n7]
  refine ⟨fun c => ?_, fun c => ⟨fun c2 => ?_, fun c2 => ?_⟩⟩
  · have c := zIcn p8 rfl (by decide) c
    have nv : ¬ zStV (zPcs M) p w v := fun z => c z.1
    rw [if_neg nv, if_neg nv, if_neg c] at hk
    exact hk
  · have c := zIcp p8 rfl (by decide) c
    have nv : ¬ zStV (zPcs M) p w v := fun z => ab_b_0.mp c2 (by
      rcases z.2 with ⟨rfl, -⟩ | ⟨rfl, -⟩ | ⟨rfl, -⟩ <;> decide)
    rw [if_neg nv, if_neg nv, if_pos c] at hk
    exact hk
  · have c := zIcp p8 rfl (by decide) c
    obtain ⟨q, y, rfl⟩ := zIxN (by omega) c
    have hin : vp_in (nI q) 8 := nI_in_ (by omega)
    rw [nI_clamp (show q < 2 ^ 31 by omega)] at hk
    have bad : ¬ zStV (zPcs M) (nI q) w v → k (some (.int (-7))) M N := fun nv => by
      rw [if_neg nv, if_neg nv, if_pos c] at hk
      exact hk
    have good : zStV (zPcs M) (nI q) w v → k (some (.int (M (13 + w.toNatClampNeg) q))) (zFg (ab_u M (13 + w.toNatClampNeg) (upd (M (13 + w.toNatClampNeg)) q v))) N := fun nv => by
      rw [if_pos nv, if_pos nv] at hk
      exact hk
    refine ⟨fun c3 => ?_, fun c3 => ⟨fun c4 => ?_, fun c4 => ?_⟩⟩
    · refine zv_X11_set_45 _ _ _ _ ?_
      rw [nI_clamp (show q < 2 ^ 31 by omega)]
      refine ⟨fun c5 => bad (fun z => ?_), fun c5 => ⟨fun _ => ⟨hin, hin, ?_⟩, fun z => absurd c3 z⟩⟩
      · rcases z.2 with ⟨-, z⟩ | ⟨z, -⟩ | ⟨z, -⟩
        · exact ab_b_0.mp c5 z
        · rw [c3] at z; exact absurd z (by decide)
        · rw [c3] at z; exact absurd z (by decide)
      · have good := good ⟨c, Or.inl ⟨c3, zIx0 c5⟩⟩
        rw [c3] at good
        exact zFgC (zv_X11_set_116 _ good)
    · refine zv_X11_set_45 _ _ _ _ ?_
      rw [nI_clamp (show q < 2 ^ 31 by omega)]
      refine ⟨fun c5 => bad (fun z => ?_), fun c5 => ⟨fun z => absurd z c3, fun _ => ⟨fun _ => ⟨hin, hin, ?_⟩, fun z => absurd c4 z⟩⟩⟩
      · rcases z.2 with ⟨z, -⟩ | ⟨-, z⟩ | ⟨z, -⟩
        · exact c3 z
        · exact ab_b_0.mp c5 z
        · rw [c4] at z; exact absurd z (by decide)
      · have good := good ⟨c, Or.inr (Or.inl ⟨c4, zIx0 c5⟩)⟩
        rw [c4] at good
        exact zFgC (zv_X11_set_116 _ good)
    · have w2 : w = 2 := by
        have := zIx0 c2
        grind
      refine zv_X11_set_45 _ _ _ _ ?_
      rw [nI_clamp (show q < 2 ^ 31 by omega)]
      refine ⟨fun c5 => bad (fun z => ?_), fun c5 => ⟨fun z => absurd z c3, fun _ => ⟨fun z => absurd z c4, fun _ => ⟨hin, hin, ?_⟩⟩⟩⟩
      · rcases z.2 with ⟨z, -⟩ | ⟨z, -⟩ | ⟨-, z⟩
        · exact c3 z
        · exact c4 z
        · exact ab_b_0.mp c5 z
      · have good := good ⟨c, Or.inr (Or.inr ⟨w2, zIx0 c5⟩)⟩
        rw [w2] at good
        exact zFgC (zv_X11_set_116 _ good)
abbrev zR_X11_set : Room := { frames := 1, cells := 0, slots := 0, locals := 22 }
set_option maxRecDepth 20000 in
theorem zM_X11_set (l : Launch) : ab_Met l zw_C vwCl zZ_C yX11_set cX11_set 7 (some .int) zR_X11_set zt_X11_set := ab_ofRun (G := zg_X11_set) (P := zp_X11_set) rfl zo_X11_set (by decide +kernel) zl_cl zl_lamC zf_X11_ok zs_tabOK zc_X11_ok zs_X11_ok (List.forall_mem_cons.mpr ⟨ab_callV zZ_C_ok (zM_X1_forget l) (ab_in 542 (by decide +kernel) rfl) (ab_in 539 (by decide +kernel) rfl) (ab_in 540 (by decide +kernel) rfl) (ab_in 541 (by decide +kernel) rfl) (ab_in 6 (by decide +kernel) rfl) (by unfold ab_yok; decide +kernel) ⟨rfl, rfl⟩ (by decide) zV_X1_forget, List.forall_mem_cons.mpr ⟨ab_callV zZ_C_ok (zM_X2_has l) (ab_in 554 (by decide +kernel) rfl) (ab_in 551 (by decide +kernel) rfl) (ab_in 552 (by decide +kernel) rfl) (ab_in 553 (by decide +kernel) rfl) (ab_in 2 (by decide +kernel) rfl) (by unfold ab_yok; decide +kernel) ⟨rfl, rfl⟩ (by decide) zV_X2_has, List.forall_mem_nil _⟩⟩) (List.forall_mem_cons.mpr ⟨ab_callS zZ_C_ok (zM_X11_within l) (ab_in 538 (by decide +kernel) rfl) (ab_in 536 (by decide +kernel) rfl) (ab_in 537 (by decide +kernel) rfl) (ab_in 1 (by decide +kernel) rfl) (by unfold ab_yok; decide +kernel) ⟨rfl, rfl⟩ (by decide), List.forall_mem_nil _⟩) zE_X11_set
def zt_X12_set : ab_T := ab_lq (α := Nat × Int32 × Int32 × Int32) (fun x r M _ => r = [.int x.2.1, .int x.2.2.1, .int x.2.2.2] ∧ M 0 7 = nI x.1 ∧ x.1 ≤ 8)
  (fun x M N o M2 N2 => N2 = N ∧ M2 = zStR M x.1 x.2.1 x.2.2.1 x.2.2.2 ∧ o = some (.int (zStP (fun c => M (2 + c)) x.1 x.2.1 x.2.2.1 x.2.2.2)))
theorem zt_X12_set_mono : ab_mono zt_X12_set := ab_lq_mono _ _
theorem zV_X12_set : ab_recv zw_M vwCl RX12 zt_X12_set := ab_lq_v
def zp_X12_set : ab_P := [(0, .aload_n 0, 1, [0], []),
  (1, .iload_n 1, 2, [1], []),
  (2, .invokevirtual 182, 5, [], []),
  (5, .ifCond .ne 6, 8, [11], []),
  (8, .bipush (-5), 10, [], [(-5)]),
  (10, .ireturn, 11, [], []),
  (11, .iload_n 2, 12, [2], []),
  (12, .ifCond .ne 30, 15, [42], []),
  (15, .iload_n 3, 16, [3], []),
  (16, .iconst 0, 17, [], [0]),
  (17, .iconst 1, 18, [], [1]),
  (18, .invokestatic 175, 21, [], []),
  (21, .ifCond .eq 21, 24, [42], []),
  (24, .aload_n 0, 25, [0], []),
  (25, .getfield 29, 28, [], []),
  (28, .iload_n 1, 29, [1], []),
  (29, .iaload, 30, [], []),
  (30, .istore 4, 32, [], []),
  (32, .aload_n 0, 33, [0], []),
  (33, .getfield 29, 36, [], []),
  (36, .iload_n 1, 37, [1], []),
  (37, .iload_n 3, 38, [3], []),
  (38, .iastore, 39, [], []),
  (39, .goto 71, 42, [110], []),
  (42, .iload_n 2, 43, [2], []),
  (43, .iconst 1, 44, [], [1]),
  (44, .if_icmp .ne 31, 47, [75], []),
  (47, .iload_n 3, 48, [3], []),
  (48, .iconst 0, 49, [], [0]),
  (49, .bipush 99, 51, [], [99]),
  (51, .invokestatic 175, 54, [], []),
  (54, .ifCond .eq 21, 57, [75], []),
  (57, .aload_n 0, 58, [0], []),
  (58, .getfield 32, 61, [], []),
  (61, .iload_n 1, 62, [1], []),
  (62, .iaload, 63, [], []),
  (63, .istore 4, 65, [], []),
  (65, .aload_n 0, 66, [0], []),
  (66, .getfield 32, 69, [], []),
  (69, .iload_n 1, 70, [1], []),
  (70, .iload_n 3, 71, [3], []),
  (71, .iastore, 72, [], []),
  (72, .goto 38, 75, [110], []),
  (75, .iload_n 2, 76, [2], []),
  (76, .iconst 2, 77, [], [2]),
  (77, .if_icmp .ne 30, 80, [107], []),
  (80, .iload_n 3, 81, [3], []),
  (81, .iconst 0, 82, [], [0]),
  (82, .iconst 3, 83, [], [3]),
  (83, .invokestatic 175, 86, [], []),
  (86, .ifCond .eq 21, 89, [107], []),
  (89, .aload_n 0, 90, [0], []),
  (90, .getfield 35, 93, [], []),
  (93, .iload_n 1, 94, [1], []),
  (94, .iaload, 95, [], []),
  (95, .istore 4, 97, [], []),
  (97, .aload_n 0, 98, [0], []),
  (98, .getfield 35, 101, [], []),
  (101, .iload_n 1, 102, [1], []),
  (102, .iload_n 3, 103, [3], []),
  (103, .iastore, 104, [], []),
  (104, .goto 6, 107, [110], []),
  (107, .bipush (-7), 109, [], [(-7)]),
  (109, .ireturn, 110, [], []),
  (110, .iload 4, 112, [], []),
  (112, .ireturn, 113, [], [])]
theorem zo_X12_set : ab_ok cX12_set zp_X12_set = true := by decide +kernel
def zg_X12_set : ab_G := (zw_M, [], zf_X12, zc_X12, [], [(182, 2, zt_X12_isPiece)], [(175, 3, zt_X12_in)])
theorem zm_X12_set : ab_MG zg_X12_set := ab_MGof (List.forall_mem_cons.mpr ⟨ab_pure_mono _, List.forall_mem_nil _⟩) (List.forall_mem_cons.mpr ⟨ab_pure_mono _, List.forall_mem_nil _⟩)
abbrev zr_X12_set (Q : ab_R) : ab_K := ab_Run zg_X12_set zp_X12_set (some .int) 5 Q
set_option maxRecDepth 20000 in
theorem zv_X12_set_0 {Q : ab_R} {M : ab_M} {N : ab_N} (l1 : Int32) (l2 : Int32) (l3 : Int32) (h : ((ab_b (0 ≤ l1 ∧ l1 ≤ (M 0) 7 - 1)) = 0 → Q (some (.int (-5 : Int32))) M N) ∧ (¬ ((ab_b (0 ≤ l1 ∧ l1 ≤ (M 0) 7 - 1)) = 0) → (l2 = 0 → ((ab_b ((0 : Int32) ≤ l3 ∧ l3 ≤ (1 : Int32))) = 0 → zr_X12_set Q 42 [some (.ref 0), some (.int l1), some (.int l2), some (.int l3), none] [] M N) ∧ (¬ ((ab_b ((0 : Int32) ≤ l3 ∧ l3 ≤ (1 : Int32))) = 0) → vp_in l1 8 ∧ (vp_in l1 8 ∧ (let z1 : Nat → Int32 := upd (M 2) l1.toNatClampNeg l3; Q (some (.int (M 2 l1.toNatClampNeg))) (ab_u M 2 z1) N)))) ∧ (¬ (l2 = 0) → zr_X12_set Q 42 [some (.ref 0), some (.int l1), some (.int l2), some (.int l3), none] [] M N))) : zr_X12_set Q 0 [some (.ref 0), some (.int l1), some (.int l2), some (.int l3)] [] M N := ab_Run_s zm_X12_set (sp := [(42, [true, true, true, true, false]), (75, [true, true, true, true, false])]) 68 h
set_option maxRecDepth 20000 in
theorem zv_X12_set_42 {Q : ab_R} {M : ab_M} {N : ab_N} (l1 : Int32) (l2 : Int32) (l3 : Int32) (h : (l2 = (1 : Int32) → ((ab_b ((0 : Int32) ≤ l3 ∧ l3 ≤ (99 : Int32))) = 0 → zr_X12_set Q 75 [some (.ref 0), some (.int l1), some (.int l2), some (.int l3), none] [] M N) ∧ (¬ ((ab_b ((0 : Int32) ≤ l3 ∧ l3 ≤ (99 : Int32))) = 0) → vp_in l1 8 ∧ (vp_in l1 8 ∧ (let z1 : Nat → Int32 := upd (M 3) l1.toNatClampNeg l3; Q (some (.int (M 3 l1.toNatClampNeg))) (ab_u M 3 z1) N)))) ∧ (¬ (l2 = (1 : Int32)) → zr_X12_set Q 75 [some (.ref 0), some (.int l1), some (.int l2), some (.int l3), none] [] M N)) : zr_X12_set Q 42 [some (.ref 0), some (.int l1), some (.int l2), some (.int l3), none] [] M N := ab_Run_s zm_X12_set (sp := [(42, [true, true, true, true, false]), (75, [true, true, true, true, false])]) 68 h
set_option maxRecDepth 20000 in
theorem zv_X12_set_75 {Q : ab_R} {M : ab_M} {N : ab_N} (l1 : Int32) (l2 : Int32) (l3 : Int32) (h : (l2 = (2 : Int32) → ((ab_b ((0 : Int32) ≤ l3 ∧ l3 ≤ (3 : Int32))) = 0 → Q (some (.int (-7 : Int32))) M N) ∧ (¬ ((ab_b ((0 : Int32) ≤ l3 ∧ l3 ≤ (3 : Int32))) = 0) → vp_in l1 8 ∧ (vp_in l1 8 ∧ (let z1 : Nat → Int32 := upd (M 4) l1.toNatClampNeg l3; Q (some (.int (M 4 l1.toNatClampNeg))) (ab_u M 4 z1) N)))) ∧ (¬ (l2 = (2 : Int32)) → Q (some (.int (-7 : Int32))) M N)) : zr_X12_set Q 75 [some (.ref 0), some (.int l1), some (.int l2), some (.int l3), none] [] M N := ab_Run_s zm_X12_set (sp := [(42, [true, true, true, true, false]), (75, [true, true, true, true, false])]) 68 h
theorem zE_X12_set (as : List Value) (M : ab_M) (N : ab_N) (k : ab_R) (hT : zt_X12_set as M N k) : ab_cs as ≤ 5 ∧ zr_X12_set k 0 (ab_en as) [] M N := by
  obtain ⟨⟨n, p, w, v⟩, r, rfl, ⟨rfl, n7, p8⟩, hk⟩ := hT
  dsimp only at n7 p8 hk ⊢
  have hk := hk _ _ _ ⟨rfl, rfl, rfl⟩
  unfold zStR zStP at hk
  refine ⟨Nat.le_of_ble_eq_true rfl, zv_X12_set_0 _ _ _ ?_⟩
  rw [n7]
  by_cases c : zHasN p n
  · obtain ⟨q, y, rfl⟩ := zIxN (by omega) c
    have hin : vp_in (nI q) 8 := nI_in_ (by omega)
    have cq : (nI q).toNatClampNeg = q := nI_clamp (by omega)
    rw [cq] at hk ⊢
    have bad : ¬ zStV n (nI q) w v → k (some (.int (-7))) M N := fun nv => by
      rw [if_neg nv, if_neg nv, if_pos c] at hk
      exact hk
    have good : zStV n (nI q) w v → k (some (.int (M (2 + w.toNatClampNeg) q))) (ab_u M (2 + w.toNatClampNeg) (upd (M (2 + w.toNatClampNeg)) q v)) N := fun nv => by
      rw [if_pos nv, if_pos nv] at hk
      exact hk
    have b75 : ¬ w = 0 → ¬ w = 1 → zr_X12_set k 75 [some (.ref 0), some (.int (nI q)), some (.int w), some (.int v), none] [] M N := fun c3 c4 => by
      refine zv_X12_set_75 _ _ _ ⟨fun c5 => ?_, fun c5 => bad (fun z => by grind)⟩
      rw [cq]
      refine ⟨fun c6 => bad (fun z => ?_), fun c6 => ⟨hin, hin, ?_⟩⟩
      · rcases z.2 with ⟨z, -⟩ | ⟨z, -⟩ | ⟨-, z⟩
        · exact c3 z
        · exact c4 z
        · exact ab_b_0.mp c6 z
      · have good := good ⟨c, Or.inr (Or.inr ⟨c5, zIx0 c6⟩)⟩
        rw [c5] at good
        exact good
    have b42 : ¬ w = 0 → zr_X12_set k 42 [some (.ref 0), some (.int (nI q)), some (.int w), some (.int v), none] [] M N := fun c3 => by
      refine zv_X12_set_42 _ _ _ ⟨fun c5 => ?_, fun c5 => b75 c3 c5⟩
      rw [cq]
      have bad75 : zr_X12_set k 75 [some (.ref 0), some (.int (nI q)), some (.int w), some (.int v), none] [] M N → True := fun _ => trivial
      refine ⟨fun c6 => zv_X12_set_75 _ _ _ ⟨fun z => by rw [c5] at z; exact absurd z (by decide), fun _ => bad (fun z => ?_)⟩, fun c6 => ⟨hin, hin, ?_⟩⟩
      · rcases z.2 with ⟨z, -⟩ | ⟨-, z⟩ | ⟨z, -⟩
        · exact c3 z
        · exact ab_b_0.mp c6 z
        · rw [c5] at z; exact absurd z (by decide)
      · have good := good ⟨c, Or.inr (Or.inl ⟨c5, zIx0 c6⟩)⟩
        rw [c5] at good
        exact good
    refine ⟨fun z => absurd c (ab_b_0.mp z), fun _ => ⟨fun c3 => ⟨fun c6 => ?_, fun c6 => ⟨hin, hin, ?_⟩⟩, fun c3 => b42 c3⟩⟩
    · refine zv_X12_set_42 _ _ _ ⟨fun z => by rw [c3] at z; exact absurd z (by decide), fun _ => zv_X12_set_75 _ _ _ ⟨fun z => by rw [c3] at z; exact absurd z (by decide), fun _ => bad (fun z => ?_)⟩⟩
      rcases z.2 with ⟨-, z⟩ | ⟨z, -⟩ | ⟨z, -⟩
      · exact ab_b_0.mp c6 z
      · rw [c3] at z; exact absurd z (by decide)
      · rw [c3] at z; exact absurd z (by decide)
    · have good := good ⟨c, Or.inl ⟨c3, zIx0 c6⟩⟩
      rw [c3] at good
      exact good
  · have nv : ¬ zStV n p w v := fun z => c z.1
    rw [if_neg nv, if_neg nv, if_neg c] at hk
    exact ⟨fun _ => hk, fun z => absurd (zIx0 z) c⟩
abbrev zR_X12_set : Room := { frames := 2, cells := 0, slots := 0, locals := 43 }
set_option maxRecDepth 20000 in
theorem zM_X12_set (l : Launch) : ab_Met l zw_M vwCl zZ_M yX12_set cX12_set 5 (some .int) zR_X12_set zt_X12_set := ab_ofRun (G := zg_X12_set) (P := zp_X12_set) rfl zo_X12_set (by decide +kernel) zl_cl zl_lamM zf_X12_ok ab_Tab_nil zc_X12_ok ab_Sta_nil (List.forall_mem_cons.mpr ⟨ab_callV zZ_M_ok (zM_X12_isPiece l) (ab_in 1208 (by decide +kernel) rfl) (ab_in 1205 (by decide +kernel) rfl) (ab_in 1207 (by decide +kernel) rfl) (ab_inS (List.mem_of_getElem? (i := 27) (by decide +kernel)) rfl) (ab_in 17 (by decide +kernel) rfl) (by unfold ab_yok; decide +kernel) ⟨rfl, rfl⟩ (by decide) zV_X12_isPiece, List.forall_mem_nil _⟩) (List.forall_mem_cons.mpr ⟨ab_callS zZ_M_ok (zM_X12_in l) (ab_in 1200 (by decide +kernel) rfl) (ab_in 1198 (by decide +kernel) rfl) (ab_in 1199 (by decide +kernel) rfl) (ab_in 17 (by decide +kernel) rfl) (by unfold ab_yok; decide +kernel) ⟨rfl, rfl⟩ (by decide), List.forall_mem_nil _⟩) zE_X12_set
