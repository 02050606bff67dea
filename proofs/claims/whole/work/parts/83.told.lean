/-! manTold, taken, places, learn *)
-/
def zMaA (R : ab_M) (n : Nat) (m w : Int32) : Int32 := if zHasN m n then (if w = 0 then R 0 m.toNatClampNeg else if w = 1 then R 1 m.toNatClampNeg else if w = 2 then R 2 m.toNatClampNeg else if w = 3 then R 3 m.toNatClampNeg else if w = 4 then R 4 m.toNatClampNeg else if 5 ≤ w ∧ w ≤ 16 then R 5 (12 * m.toNatClampNeg + (w.toNatClampNeg - 5)) else -7) else -5
def zt_X11_manTold : ab_T := ab_m2 0 (fun _ _ M _ => zI0 M) (fun m w M N o M2 N2 => M2 = M ∧ N2 = N ∧ o = some (.int (zMaA (fun c => M (25 + c)) (zMen M) m w)))
theorem zt_X11_manTold_mono : ab_mono zt_X11_manTold := ab_m2_mono _ _ _
theorem zV_X11_manTold : ab_recv zw_C vwCl RX11 zt_X11_manTold := ab_m2_v rfl rfl
def zp_X11_manTold : ab_P := [(0, .aload_n 0, 1, [0], []),
  (1, .getfield 19, 4, [], []),
  (4, .iload_n 1, 5, [1], []),
  (5, .invokevirtual 179, 8, [], []),
  (8, .ifCond .ne 6, 11, [14], []),
  (11, .bipush (-5), 13, [], [(-5)]),
  (13, .ireturn, 14, [], []),
  (14, .iload_n 2, 15, [2], []),
  (15, .tableswitch 83 0 4 #[33, 43, 53, 63, 73], 48, [98, 48, 58, 68, 78, 88], [0, 1, 2, 3, 4]),
  (48, .aload_n 0, 49, [0], []),
  (49, .getfield 19, 52, [], []),
  (52, .getfield 183, 55, [], []),
  (55, .iload_n 1, 56, [1], []),
  (56, .iaload, 57, [], []),
  (57, .ireturn, 58, [], []),
  (58, .aload_n 0, 59, [0], []),
  (59, .getfield 19, 62, [], []),
  (62, .getfield 186, 65, [], []),
  (65, .iload_n 1, 66, [1], []),
  (66, .iaload, 67, [], []),
  (67, .ireturn, 68, [], []),
  (68, .aload_n 0, 69, [0], []),
  (69, .getfield 19, 72, [], []),
  (72, .getfield 189, 75, [], []),
  (75, .iload_n 1, 76, [1], []),
  (76, .iaload, 77, [], []),
  (77, .ireturn, 78, [], []),
  (78, .aload_n 0, 79, [0], []),
  (79, .getfield 19, 82, [], []),
  (82, .getfield 180, 85, [], []),
  (85, .iload_n 1, 86, [1], []),
  (86, .iaload, 87, [], []),
  (87, .ireturn, 88, [], []),
  (88, .aload_n 0, 89, [0], []),
  (89, .getfield 19, 92, [], []),
  (92, .getfield 192, 95, [], []),
  (95, .iload_n 1, 96, [1], []),
  (96, .iaload, 97, [], []),
  (97, .ireturn, 98, [], []),
  (98, .iload_n 2, 99, [2], []),
  (99, .iconst 5, 100, [], [5]),
  (100, .bipush 16, 102, [], [16]),
  (102, .invokestatic 117, 105, [], []),
  (105, .ifCond .eq 22, 108, [127], []),
  (108, .aload_n 0, 109, [0], []),
  (109, .getfield 19, 112, [], []),
  (112, .getfield 173, 115, [], []),
  (115, .iload_n 1, 116, [1], []),
  (116, .bipush 12, 118, [], [12]),
  (118, .imul, 119, [], []),
  (119, .iload_n 2, 120, [2], []),
  (120, .iadd, 121, [], []),
  (121, .iconst 5, 122, [], [5]),
  (122, .isub, 123, [], []),
  (123, .iaload, 124, [], []),
  (124, .goto 5, 127, [129], []),
  (127, .bipush (-7), 129, [], [(-7)]),
  (129, .ireturn, 130, [], [])]
theorem zo_X11_manTold : ab_ok cX11_manTold zp_X11_manTold = true := by decide +kernel
def zg_X11_manTold : ab_G := (zw_C, zs_tab, zf_X11, zc_X11, [(144, 50), (147, 51)], [(179, 2, zt_X5_has)], [(117, 3, zt_X11_within)])
theorem zm_X11_manTold : ab_MG zg_X11_manTold := ab_MGof (List.forall_mem_cons.mpr ⟨ab_pure_mono _, List.forall_mem_nil _⟩) (List.forall_mem_cons.mpr ⟨ab_pure_mono _, List.forall_mem_nil _⟩)
abbrev zr_X11_manTold (Q : ab_R) : ab_K := ab_Run zg_X11_manTold zp_X11_manTold (some .int) 3 Q
set_option maxRecDepth 20000 in
theorem zv_X11_manTold_0 {Q : ab_R} {M : ab_M} {N : ab_N} (l1 : Int32) (l2 : Int32) (h : ((ab_b (0 ≤ l1 ∧ l1 < (M 2) 6 ∧ l1 < 5)) = 0 → Q (some (.int (-5 : Int32))) M N) ∧ (¬ ((ab_b (0 ≤ l1 ∧ l1 < (M 2) 6 ∧ l1 < 5)) = 0) → (l2 = 0 → vp_in l1 5 ∧ (Q (some (.int (M 25 l1.toNatClampNeg))) M N)) ∧ (¬ l2 = 0 → (l2 = 1 → vp_in l1 5 ∧ (Q (some (.int (M 26 l1.toNatClampNeg))) M N)) ∧ (¬ l2 = 1 → (l2 = 2 → vp_in l1 5 ∧ (Q (some (.int (M 27 l1.toNatClampNeg))) M N)) ∧ (¬ l2 = 2 → (l2 = 3 → vp_in l1 5 ∧ (Q (some (.int (M 28 l1.toNatClampNeg))) M N)) ∧ (¬ l2 = 3 → (l2 = 4 → vp_in l1 5 ∧ (Q (some (.int (M 29 l1.toNatClampNeg))) M N)) ∧ (¬ l2 = 4 → ((ab_b ((5 : Int32) ≤ l2 ∧ l2 ≤ (16 : Int32))) = 0 → Q (some (.int (-7 : Int32))) M N) ∧ (¬ ((ab_b ((5 : Int32) ≤ l2 ∧ l2 ≤ (16 : Int32))) = 0) → vp_in (((l1 * (12 : Int32)) + l2) - (5 : Int32)) 60 ∧ (Q (some (.int (M 30 (((l1 * (12 : Int32)) + l2) - (5 : Int32)).toNatClampNeg))) M N))))))))) : zr_X11_manTold Q 0 [some (.ref 0), some (.int l1), some (.int l2)] [] M N := ab_Run_s zm_X11_manTold (sp := []) 60 h
theorem zTdI {m w : Nat} (h5 : 5 ≤ w) : nI m * 12 + nI w - 5 = nI (12 * m + (w - 5)) := by
  rw [zN_mul m 12 12, nI_add, show (5 : Int32) = nI 5 from rfl, pk_sub (by omega), Nat.mul_comm m 12, show 12 * m + w - 5 = 12 * m + (w - 5) by omega]
theorem zW5 {w : Int32} (h : 5 ≤ w ∧ w ≤ 16) : ∃ k : Nat, 5 ≤ k ∧ k ≤ 16 ∧ w = nI k := by
  obtain ⟨k, y, e⟩ := zIxM (n := 16) (by decide) ⟨Int32.le_trans (by decide) h.1, h.2⟩
  refine ⟨k, ?_, y, e⟩
  have := h.1
  rw [e] at this
  exact (nI_leI (a := 5) (by decide) (by omega)).mp this
theorem zE_X11_manTold (as : List Value) (M : ab_M) (N : ab_N) (k : ab_R) (hT : zt_X11_manTold as M N k) : ab_cs as ≤ 3 ∧ zr_X11_manTold k 0 (ab_en as) [] M N := by
  obtain ⟨m, w, rfl, h0, hk⟩ := ab_m2_e hT
  obtain ⟨n12, m5⟩ := zM_eq h0
  have hk := hk _ _ _ ⟨rfl, rfl, rfl⟩
  unfold zMaA at hk
  refine ⟨Nat.le_of_ble_eq_true rfl, zv_X11_manTold_0 _ _ ?_⟩
  rw [n12]
  refine ⟨fun c => ?_, fun c => ?_⟩
  · rw [if_neg (zIcn m5 rfl (by decide) c)] at hk
    exact hk
  · have c := zIcp m5 rfl (by decide) c
    rw [if_pos c] at hk
    obtain ⟨km, y, rfl⟩ := zIxN (by omega) c
    have hin : vp_in (nI km) 5 := nI_in_ (by omega)
    have cm : (nI km).toNatClampNeg = km := nI_clamp (by omega)
    rw [cm] at hk ⊢
    refine ⟨fun c => ⟨hin, by rw [if_pos c] at hk; exact hk⟩, fun c => ?_⟩
    rw [if_neg c] at hk
    refine ⟨fun c => ⟨hin, by rw [if_pos c] at hk; exact hk⟩, fun c => ?_⟩
    rw [if_neg c] at hk
    refine ⟨fun c => ⟨hin, by rw [if_pos c] at hk; exact hk⟩, fun c => ?_⟩
    rw [if_neg c] at hk
    refine ⟨fun c => ⟨hin, by rw [if_pos c] at hk; exact hk⟩, fun c => ?_⟩
    rw [if_neg c] at hk
    refine ⟨fun c => ⟨hin, by rw [if_pos c] at hk; exact hk⟩, fun c => ?_⟩
    rw [if_neg c] at hk
    refine ⟨fun c => ?_, fun c => ?_⟩
    · rw [if_neg (ab_b_0.mp c)] at hk
      exact hk
    · have c := zIx0 c
      rw [if_pos c] at hk
      obtain ⟨kw, w1, w2, rfl⟩ := zW5 c
      rw [nI_clamp (show kw < 2 ^ 31 by omega)] at hk
      rw [zTdI w1, nI_clamp (show 12 * km + (kw - 5) < 2 ^ 31 by omega)]
      exact ⟨nI_in_ (by omega), hk⟩
abbrev zR_X11_manTold : Room := { frames := 1, cells := 0, slots := 0, locals := 22 }
set_option maxRecDepth 20000 in
theorem zM_X11_manTold (l : Launch) : ab_Met l zw_C vwCl zZ_C yX11_manTold cX11_manTold 3 (some .int) zR_X11_manTold zt_X11_manTold := ab_ofRun (G := zg_X11_manTold) (P := zp_X11_manTold) rfl zo_X11_manTold (by decide +kernel) zl_cl zl_lamC zf_X11_ok zs_tabOK zc_X11_ok zs_X11_ok (List.forall_mem_cons.mpr ⟨ab_callV zZ_C_ok (zM_X5_has l) (ab_in 642 (by decide +kernel) rfl) (ab_in 639 (by decide +kernel) rfl) (ab_in 640 (by decide +kernel) rfl) (ab_in 641 (by decide +kernel) rfl) (ab_in 3 (by decide +kernel) rfl) (by unfold ab_yok; decide +kernel) ⟨rfl, rfl⟩ (by decide) zV_X5_has, List.forall_mem_nil _⟩) (List.forall_mem_cons.mpr ⟨ab_callS zZ_C_ok (zM_X11_within l) (ab_in 538 (by decide +kernel) rfl) (ab_in 536 (by decide +kernel) rfl) (ab_in 537 (by decide +kernel) rfl) (ab_in 1 (by decide +kernel) rfl) (by unfold ab_yok; decide +kernel) ⟨rfl, rfl⟩ (by decide), List.forall_mem_nil _⟩) zE_X11_manTold
def zt_X12_manTold : ab_T := ab_lq (α := Nat × Int32 × Int32) (fun x r M _ => r = [.int x.2.1, .int x.2.2] ∧ M 0 12 = nI x.1 ∧ x.1 ≤ 5)
  (fun x M N o M2 N2 => M2 = M ∧ N2 = N ∧ o = some (.int (zMaA (fun c => M (6 + c)) x.1 x.2.1 x.2.2)))
theorem zt_X12_manTold_mono : ab_mono zt_X12_manTold := ab_lq_mono _ _
theorem zV_X12_manTold : ab_recv zw_M vwCl RX12 zt_X12_manTold := ab_lq_v
def zp_X12_manTold : ab_P := [(0, .aload_n 0, 1, [0], []),
  (1, .iload_n 1, 2, [1], []),
  (2, .invokevirtual 268, 5, [], []),
  (5, .ifCond .ne 6, 8, [11], []),
  (8, .bipush (-5), 10, [], [(-5)]),
  (10, .ireturn, 11, [], []),
  (11, .iload_n 2, 12, [2], []),
  (12, .tableswitch 71 0 4 #[36, 43, 50, 57, 64], 48, [83, 48, 55, 62, 69, 76], [0, 1, 2, 3, 4]),
  (48, .aload_n 0, 49, [0], []),
  (49, .getfield 41, 52, [], []),
  (52, .iload_n 1, 53, [1], []),
  (53, .iaload, 54, [], []),
  (54, .ireturn, 55, [], []),
  (55, .aload_n 0, 56, [0], []),
  (56, .getfield 44, 59, [], []),
  (59, .iload_n 1, 60, [1], []),
  (60, .iaload, 61, [], []),
  (61, .ireturn, 62, [], []),
  (62, .aload_n 0, 63, [0], []),
  (63, .getfield 47, 66, [], []),
  (66, .iload_n 1, 67, [1], []),
  (67, .iaload, 68, [], []),
  (68, .ireturn, 69, [], []),
  (69, .aload_n 0, 70, [0], []),
  (70, .getfield 50, 73, [], []),
  (73, .iload_n 1, 74, [1], []),
  (74, .iaload, 75, [], []),
  (75, .ireturn, 76, [], []),
  (76, .aload_n 0, 77, [0], []),
  (77, .getfield 53, 80, [], []),
  (80, .iload_n 1, 81, [1], []),
  (81, .iaload, 82, [], []),
  (82, .ireturn, 83, [], []),
  (83, .iload_n 2, 84, [2], []),
  (84, .iconst 5, 85, [], [5]),
  (85, .bipush 16, 87, [], [16]),
  (87, .invokestatic 175, 90, [], []),
  (90, .ifCond .eq 19, 93, [109], []),
  (93, .aload_n 0, 94, [0], []),
  (94, .getfield 56, 97, [], []),
  (97, .bipush 12, 99, [], [12]),
  (99, .iload_n 1, 100, [1], []),
  (100, .imul, 101, [], []),
  (101, .iload_n 2, 102, [2], []),
  (102, .iadd, 103, [], []),
  (103, .iconst 5, 104, [], [5]),
  (104, .isub, 105, [], []),
  (105, .iaload, 106, [], []),
  (106, .goto 5, 109, [111], []),
  (109, .bipush (-7), 111, [], [(-7)]),
  (111, .ireturn, 112, [], [])]
theorem zo_X12_manTold : ab_ok cX12_manTold zp_X12_manTold = true := by decide +kernel
def zg_X12_manTold : ab_G := (zw_M, [], zf_X12, zc_X12, [], [(268, 2, zt_X12_isMan)], [(175, 3, zt_X12_in)])
theorem zm_X12_manTold : ab_MG zg_X12_manTold := ab_MGof (List.forall_mem_cons.mpr ⟨ab_pure_mono _, List.forall_mem_nil _⟩) (List.forall_mem_cons.mpr ⟨ab_pure_mono _, List.forall_mem_nil _⟩)
abbrev zr_X12_manTold (Q : ab_R) : ab_K := ab_Run zg_X12_manTold zp_X12_manTold (some .int) 3 Q
set_option maxRecDepth 20000 in
theorem zv_X12_manTold_0 {Q : ab_R} {M : ab_M} {N : ab_N} (l1 : Int32) (l2 : Int32) (h : ((ab_b (0 ≤ l1 ∧ l1 ≤ (M 0) 12 - 1)) = 0 → Q (some (.int (-5 : Int32))) M N) ∧ (¬ ((ab_b (0 ≤ l1 ∧ l1 ≤ (M 0) 12 - 1)) = 0) → (l2 = 0 → vp_in l1 5 ∧ (Q (some (.int (M 6 l1.toNatClampNeg))) M N)) ∧ (¬ l2 = 0 → (l2 = 1 → vp_in l1 5 ∧ (Q (some (.int (M 7 l1.toNatClampNeg))) M N)) ∧ (¬ l2 = 1 → (l2 = 2 → vp_in l1 5 ∧ (Q (some (.int (M 8 l1.toNatClampNeg))) M N)) ∧ (¬ l2 = 2 → (l2 = 3 → vp_in l1 5 ∧ (Q (some (.int (M 9 l1.toNatClampNeg))) M N)) ∧ (¬ l2 = 3 → (l2 = 4 → vp_in l1 5 ∧ (Q (some (.int (M 10 l1.toNatClampNeg))) M N)) ∧ (¬ l2 = 4 → ((ab_b ((5 : Int32) ≤ l2 ∧ l2 ≤ (16 : Int32))) = 0 → Q (some (.int (-7 : Int32))) M N) ∧ (¬ ((ab_b ((5 : Int32) ≤ l2 ∧ l2 ≤ (16 : Int32))) = 0) → vp_in ((((12 : Int32) * l1) + l2) - (5 : Int32)) 60 ∧ (Q (some (.int (M 11 ((((12 : Int32) * l1) + l2) - (5 : Int32)).toNatClampNeg))) M N))))))))) : zr_X12_manTold Q 0 [some (.ref 0), some (.int l1), some (.int l2)] [] M N := ab_Run_s zm_X12_manTold (sp := []) 53 h
theorem zE_X12_manTold (as : List Value) (M : ab_M) (N : ab_N) (k : ab_R) (hT : zt_X12_manTold as M N k) : ab_cs as ≤ 3 ∧ zr_X12_manTold k 0 (ab_en as) [] M N := by
  obtain ⟨⟨n, m, w⟩, r, rfl, ⟨rfl, n12, m5⟩, hk⟩ := hT
  dsimp only at n12 m5 hk ⊢
  have hk := hk _ _ _ ⟨rfl, rfl, rfl⟩
  unfold zMaA at hk
  refine ⟨Nat.le_of_ble_eq_true rfl, zv_X12_manTold_0 _ _ ?_⟩
  rw [n12]
  refine ⟨fun c => ?_, fun c => ?_⟩
  · rw [if_neg (ab_b_0.mp c)] at hk
    exact hk
  · have c := zIx0 c
    rw [if_pos c] at hk
    obtain ⟨km, y, rfl⟩ := zIxN (by omega) c
    have hin : vp_in (nI km) 5 := nI_in_ (by omega)
    have cm : (nI km).toNatClampNeg = km := nI_clamp (by omega)
    rw [cm] at hk ⊢
    refine ⟨fun c => ⟨hin, by rw [if_pos c] at hk; exact hk⟩, fun c => ?_⟩
    rw [if_neg c] at hk
    refine ⟨fun c => ⟨hin, by rw [if_pos c] at hk; exact hk⟩, fun c => ?_⟩
    rw [if_neg c] at hk
    refine ⟨fun c => ⟨hin, by rw [if_pos c] at hk; exact hk⟩, fun c => ?_⟩
    rw [if_neg c] at hk
    refine ⟨fun c => ⟨hin, by rw [if_pos c] at hk; exact hk⟩, fun c => ?_⟩
    rw [if_neg c] at hk
    refine ⟨fun c => ⟨hin, by rw [if_pos c] at hk; exact hk⟩, fun c => ?_⟩
    rw [if_neg c] at hk
    refine ⟨fun c => ?_, fun c => ?_⟩
    · rw [if_neg (ab_b_0.mp c)] at hk
      exact hk
    · have c := zIx0 c
      rw [if_pos c] at hk
      obtain ⟨kw, w1, w2, rfl⟩ := zW5 c
      rw [nI_clamp (show kw < 2 ^ 31 by omega)] at hk
      rw [Int32.mul_comm 12, zTdI w1, nI_clamp (show 12 * km + (kw - 5) < 2 ^ 31 by omega)]
      exact ⟨nI_in_ (by omega), hk⟩
abbrev zR_X12_manTold : Room := { frames := 2, cells := 0, slots := 0, locals := 43 }
set_option maxRecDepth 20000 in
theorem zM_X12_manTold (l : Launch) : ab_Met l zw_M vwCl zZ_M yX12_manTold cX12_manTold 3 (some .int) zR_X12_manTold zt_X12_manTold := ab_ofRun (G := zg_X12_manTold) (P := zp_X12_manTold) rfl zo_X12_manTold (by decide +kernel) zl_cl zl_lamM zf_X12_ok ab_Tab_nil zc_X12_ok ab_Sta_nil (List.forall_mem_cons.mpr ⟨ab_callV zZ_M_ok (zM_X12_isMan l) (ab_in 1301 (by decide +kernel) rfl) (ab_in 1298 (by decide +kernel) rfl) (ab_in 1300 (by decide +kernel) rfl) (ab_inS (List.mem_of_getElem? (i := 39) (by decide +kernel)) rfl) (ab_in 17 (by decide +kernel) rfl) (by unfold ab_yok; decide +kernel) ⟨rfl, rfl⟩ (by decide) zV_X12_isMan, List.forall_mem_nil _⟩) (List.forall_mem_cons.mpr ⟨ab_callS zZ_M_ok (zM_X12_in l) (ab_in 1200 (by decide +kernel) rfl) (ab_in 1198 (by decide +kernel) rfl) (ab_in 1199 (by decide +kernel) rfl) (ab_in 17 (by decide +kernel) rfl) (by unfold ab_yok; decide +kernel) ⟨rfl, rfl⟩ (by decide), List.forall_mem_nil _⟩) zE_X12_manTold
abbrev zKd (x k : Int32) : Prop := k = 0 ∨ x = k ∨ (k = 1 ∧ (x = 4 ∨ x = 5))
def zTkA (n mn : Nat) (W K : Nat → Int32) (i k : Int32) : Int32 := if 0 ≤ k ∧ k ≤ 6 then (if 0 ≤ i ∧ i ≤ 12 then (if zHasN i n then (if k = 6 then W i.toNatClampNeg else -13) else if zHasN (i - 8) mn then (if zKd (K (i - 8).toNatClampNeg) k ∧ k ≤ 5 then i - 8 else -13) else -11) else -12) else -2
def zt_X11_taken : ab_T := ab_m2 0 (fun _ _ M _ => zI0 M ∧ zI1 M) (fun i k M N o M2 N2 => M2 = M ∧ N2 = N ∧ o = some (.int (zTkA (zPcs M) (zMen M) (M 14) (M 25) i k)))
theorem zt_X11_taken_mono : ab_mono zt_X11_taken := ab_m2_mono _ _ _
theorem zV_X11_taken : ab_recv zw_C vwCl RX11 zt_X11_taken := ab_m2_v rfl rfl
def zp_X11_taken : ab_P := [(0, .iload_n 2, 1, [2], []),
  (1, .iconst 0, 2, [], [0]),
  (2, .bipush 6, 4, [], [6]),
  (4, .invokestatic 117, 7, [], []),
  (7, .ifCond .ne 6, 10, [13], []),
  (10, .bipush (-2), 12, [], [(-2)]),
  (12, .ireturn, 13, [], []),
  (13, .iload_n 1, 14, [1], []),
  (14, .iconst 0, 15, [], [0]),
  (15, .bipush 12, 17, [], [12]),
  (17, .invokestatic 117, 20, [], []),
  (20, .ifCond .ne 6, 23, [26], []),
  (23, .bipush (-12), 25, [], [(-12)]),
  (25, .ireturn, 26, [], []),
  (26, .iload_n 1, 27, [1], []),
  (27, .bipush 8, 29, [], [8]),
  (29, .isub, 30, [], []),
  (30, .istore_n 3, 31, [3], []),
  (31, .aload_n 0, 32, [0], []),
  (32, .getfield 10, 35, [], []),
  (35, .iload_n 1, 36, [1], []),
  (36, .invokevirtual 130, 39, [], []),
  (39, .ifCond .ne 17, 42, [56], []),
  (42, .aload_n 0, 43, [0], []),
  (43, .getfield 19, 46, [], []),
  (46, .iload_n 3, 47, [3], []),
  (47, .invokevirtual 179, 50, [], []),
  (50, .ifCond .ne 6, 53, [56], []),
  (53, .bipush (-11), 55, [], [(-11)]),
  (55, .ireturn, 56, [], []),
  (56, .aload_n 0, 57, [0], []),
  (57, .getfield 10, 60, [], []),
  (60, .iload_n 1, 61, [1], []),
  (61, .invokevirtual 130, 64, [], []),
  (64, .ifCond .eq 24, 67, [88], []),
  (67, .iload_n 2, 68, [2], []),
  (68, .bipush 6, 70, [], [6]),
  (70, .if_icmp .ne 15, 73, [85], []),
  (73, .aload_n 0, 74, [0], []),
  (74, .getfield 10, 77, [], []),
  (77, .getfield 138, 80, [], []),
  (80, .iload_n 1, 81, [1], []),
  (81, .iaload, 82, [], []),
  (82, .goto 5, 85, [87], []),
  (85, .bipush (-13), 87, [], [(-13)]),
  (87, .ireturn, 88, [], []),
  (88, .aload_n 0, 89, [0], []),
  (89, .getfield 19, 92, [], []),
  (92, .iload_n 3, 93, [3], []),
  (93, .iload_n 2, 94, [2], []),
  (94, .invokevirtual 339, 97, [], []),
  (97, .ifCond .eq 7, 100, [104], []),
  (100, .iload_n 3, 101, [3], []),
  (101, .goto 5, 104, [106], []),
  (104, .bipush (-13), 106, [], [(-13)]),
  (106, .ireturn, 107, [], [])]
theorem zo_X11_taken : ab_ok cX11_taken zp_X11_taken = true := by decide +kernel
def zg_X11_taken : ab_G := (zw_C, zs_tab, zf_X11, zc_X11, [(144, 50), (147, 51)], [(130, 2, zt_X2_has), (179, 2, zt_X5_has), (339, 3, zt_X5_hasOf)], [(117, 3, zt_X11_within)])
theorem zm_X11_taken : ab_MG zg_X11_taken := ab_MGof (List.forall_mem_cons.mpr ⟨ab_pure_mono _, List.forall_mem_cons.mpr ⟨ab_pure_mono _, List.forall_mem_cons.mpr ⟨ab_pp_mono _, List.forall_mem_nil _⟩⟩⟩) (List.forall_mem_cons.mpr ⟨ab_pure_mono _, List.forall_mem_nil _⟩)
abbrev zr_X11_taken (Q : ab_R) : ab_K := ab_Run zg_X11_taken zp_X11_taken (some .int) 4 Q
set_option maxRecDepth 20000 in
theorem zv_X11_taken_0 {Q : ab_R} {M : ab_M} {N : ab_N} (l1 : Int32) (l2 : Int32) (h : ((ab_b ((0 : Int32) ≤ l2 ∧ l2 ≤ (6 : Int32))) = 0 → Q (some (.int (-2 : Int32))) M N) ∧ (¬ ((ab_b ((0 : Int32) ≤ l2 ∧ l2 ≤ (6 : Int32))) = 0) → ((ab_b ((0 : Int32) ≤ l1 ∧ l1 ≤ (12 : Int32))) = 0 → Q (some (.int (-12 : Int32))) M N) ∧ (¬ ((ab_b ((0 : Int32) ≤ l1 ∧ l1 ≤ (12 : Int32))) = 0) → ((ab_b (0 ≤ l1 ∧ l1 < (M 1) 4 ∧ l1 < 8)) = 0 → ((ab_b (0 ≤ (l1 - (8 : Int32)) ∧ (l1 - (8 : Int32)) < (M 2) 6 ∧ (l1 - (8 : Int32)) < 5)) = 0 → Q (some (.int (-11 : Int32))) M N) ∧ (¬ ((ab_b (0 ≤ (l1 - (8 : Int32)) ∧ (l1 - (8 : Int32)) < (M 2) 6 ∧ (l1 - (8 : Int32)) < 5)) = 0) → zr_X11_taken Q 56 [some (.ref 0), some (.int l1), some (.int l2), some (.int (l1 - (8 : Int32)))] [] M N)) ∧ (¬ ((ab_b (0 ≤ l1 ∧ l1 < (M 1) 4 ∧ l1 < 8)) = 0) → zr_X11_taken Q 56 [some (.ref 0), some (.int l1), some (.int l2), some (.int (l1 - (8 : Int32)))] [] M N)))) : zr_X11_taken Q 0 [some (.ref 0), some (.int l1), some (.int l2)] [] M N := ab_Run_s zm_X11_taken (sp := [(56, [true, true, true, true])]) 58 h
set_option maxRecDepth 20000 in
theorem zv_X11_taken_56 {Q : ab_R} {M : ab_M} {N : ab_N} (l1 : Int32) (l2 : Int32) (l3 : Int32) (h : ((ab_b (0 ≤ l1 ∧ l1 < (M 1) 4 ∧ l1 < 8)) = 0 → (vp_in l3 5) ∧ (((ab_b (l2 = 0 ∨ l2 = (M 25) l3.toNatClampNeg ∨ (l2 = 1 ∧ ((M 25) l3.toNatClampNeg = 1 ∨ (M 25) l3.toNatClampNeg = 4 ∨ (M 25) l3.toNatClampNeg = 5)))) = 0 → Q (some (.int (-13 : Int32))) M N) ∧ (¬ ((ab_b (l2 = 0 ∨ l2 = (M 25) l3.toNatClampNeg ∨ (l2 = 1 ∧ ((M 25) l3.toNatClampNeg = 1 ∨ (M 25) l3.toNatClampNeg = 4 ∨ (M 25) l3.toNatClampNeg = 5)))) = 0) → Q (some (.int l3)) M N))) ∧ (¬ ((ab_b (0 ≤ l1 ∧ l1 < (M 1) 4 ∧ l1 < 8)) = 0) → (l2 = (6 : Int32) → vp_in l1 8 ∧ (Q (some (.int (M 14 l1.toNatClampNeg))) M N)) ∧ (¬ (l2 = (6 : Int32)) → Q (some (.int (-13 : Int32))) M N))) : zr_X11_taken Q 56 [some (.ref 0), some (.int l1), some (.int l2), some (.int l3)] [] M N := ab_Run_s zm_X11_taken (sp := [(56, [true, true, true, true])]) 58 h
theorem zE_X11_taken (as : List Value) (M : ab_M) (N : ab_N) (k : ab_R) (hT : zt_X11_taken as M N k) : ab_cs as ≤ 4 ∧ zr_X11_taken k 0 (ab_en as) [] M N := by
  obtain ⟨i, q, rfl, ⟨h0, h1⟩, hk⟩ := ab_m2_e hT
  obtain ⟨n7, p8⟩ := zP_eq h0
  obtain ⟨n12, m5⟩ := zM_eq h0
  have hk := hk _ _ _ ⟨rfl, rfl, rfl⟩
  unfold zTkA at hk
  refine ⟨Nat.le_of_ble_eq_true rfl, zv_X11_taken_0 _ _ ?_⟩
  rw [n7, n12]
  refine ⟨fun c => ?_, fun c => ⟨fun c2 => ?_, fun c2 => ⟨fun c3 => ⟨fun c4 => ?_, fun c4 => ?_⟩, fun c3 => ?_⟩⟩⟩
  · rw [if_neg (ab_b_0.mp c)] at hk
    exact hk
  · rw [if_pos (zIx0 c), if_neg (ab_b_0.mp c2)] at hk
    exact hk
  · rw [if_pos (zIx0 c), if_pos (zIx0 c2), if_neg (zIcn p8 rfl (by decide) c3), if_neg (zIcn m5 rfl (by decide) c4)] at hk
    exact hk
  · have a4 := zIcp m5 rfl (by decide) c4
    rw [if_pos (zIx0 c), if_pos (zIx0 c2), if_neg (zIcn p8 rfl (by decide) c3), if_pos a4] at hk
    obtain ⟨km, y, em⟩ := zIxN (by omega) a4
    obtain ⟨⟨ka, kb⟩, -⟩ := h1 km y
    rw [em] at hk ⊢
    rw [nI_clamp (show km < 2 ^ 31 by omega)] at hk
    refine zv_X11_taken_56 _ _ _ ?_
    rw [n7, nI_clamp (show km < 2 ^ 31 by omega)]
    have ek : (q = 0 ∨ q = M 25 km ∨ (q = 1 ∧ (M 25 km = 1 ∨ M 25 km = 4 ∨ M 25 km = 5))) ↔ zKd (M 25 km) q ∧ q ≤ 5 := by
      unfold zKd
      constructor
      · rintro (z | z | ⟨z, z2 | z2⟩)
        · exact ⟨Or.inl z, by rw [z]; decide⟩
        · exact ⟨Or.inr (Or.inl z.symm), by rw [z]; exact kb⟩
        · exact ⟨Or.inr (Or.inl (by rw [z, z2])), by rw [z]; decide⟩
        · exact ⟨Or.inr (Or.inr ⟨z, z2⟩), by rw [z]; decide⟩
      · rintro ⟨z | z | ⟨z, z2⟩, -⟩
        · exact Or.inl z
        · exact Or.inr (Or.inl z.symm)
        · exact Or.inr (Or.inr ⟨z, Or.inr z2⟩)
    refine ⟨fun _ => ⟨nI_in_ (by omega), fun c5 => ?_, fun c5 => ?_⟩, fun z => absurd c3 z⟩
    · have nz : ¬ (zKd (M 25 km) q ∧ q ≤ 5) := fun z => ab_b_0.mp c5 (ek.mpr z)
      rw [if_neg nz] at hk
      exact hk
    · have pz := ek.mp (zIx0 c5)
      rw [if_pos pz] at hk
      exact hk
  · have a3 := zIcp p8 rfl (by decide) c3
    rw [if_pos (zIx0 c), if_pos (zIx0 c2), if_pos a3] at hk
    obtain ⟨kp, y, rfl⟩ := zIxN (by omega) a3
    rw [nI_clamp (show kp < 2 ^ 31 by omega)] at hk
    refine zv_X11_taken_56 _ _ _ ?_
    rw [n7, nI_clamp (show kp < 2 ^ 31 by omega)]
    refine ⟨fun z => absurd z c3, fun _ => ⟨fun c5 => ⟨nI_in_ (by omega), ?_⟩, fun c5 => ?_⟩⟩
    · rw [if_pos c5] at hk; exact hk
    · rw [if_neg c5] at hk; exact hk
abbrev zR_X11_taken : Room := { frames := 1, cells := 0, slots := 0, locals := 23 }
set_option maxRecDepth 20000 in
theorem zM_X11_taken (l : Launch) : ab_Met l zw_C vwCl zZ_C yX11_taken cX11_taken 4 (some .int) zR_X11_taken zt_X11_taken := ab_ofRun (G := zg_X11_taken) (P := zp_X11_taken) rfl zo_X11_taken (by decide +kernel) zl_cl zl_lamC zf_X11_ok zs_tabOK zc_X11_ok zs_X11_ok (List.forall_mem_cons.mpr ⟨ab_callV zZ_C_ok (zM_X2_has l) (ab_in 554 (by decide +kernel) rfl) (ab_in 551 (by decide +kernel) rfl) (ab_in 552 (by decide +kernel) rfl) (ab_in 553 (by decide +kernel) rfl) (ab_in 2 (by decide +kernel) rfl) (by unfold ab_yok; decide +kernel) ⟨rfl, rfl⟩ (by decide) zV_X2_has, List.forall_mem_cons.mpr ⟨ab_callV zZ_C_ok (zM_X5_has l) (ab_in 642 (by decide +kernel) rfl) (ab_in 639 (by decide +kernel) rfl) (ab_in 640 (by decide +kernel) rfl) (ab_in 641 (by decide +kernel) rfl) (ab_in 3 (by decide +kernel) rfl) (by unfold ab_yok; decide +kernel) ⟨rfl, rfl⟩ (by decide) zV_X5_has, List.forall_mem_cons.mpr ⟨ab_callV zZ_C_ok (zM_X5_hasOf l) (ab_in 949 (by decide +kernel) rfl) (ab_in 946 (by decide +kernel) rfl) (ab_in 947 (by decide +kernel) rfl) (ab_in 948 (by decide +kernel) rfl) (ab_in 3 (by decide +kernel) rfl) (by unfold ab_yok; decide +kernel) ⟨rfl, rfl⟩ (by decide) zV_X5_hasOf, List.forall_mem_nil _⟩⟩⟩) (List.forall_mem_cons.mpr ⟨ab_callS zZ_C_ok (zM_X11_within l) (ab_in 538 (by decide +kernel) rfl) (ab_in 536 (by decide +kernel) rfl) (ab_in 537 (by decide +kernel) rfl) (ab_in 1 (by decide +kernel) rfl) (by unfold ab_yok; decide +kernel) ⟨rfl, rfl⟩ (by decide), List.forall_mem_nil _⟩) zE_X11_taken
def zt_X12_taken : ab_T := ab_lq (α := Nat × Nat × Int32 × Int32) (fun x r M _ => r = [.int x.2.2.1, .int x.2.2.2] ∧ M 0 7 = nI x.1 ∧ x.1 ≤ 8 ∧ M 0 12 = nI x.2.1 ∧ x.2.1 ≤ 5)
  (fun x M N o M2 N2 => M2 = M ∧ N2 = N ∧ o = some (.int (zTkA x.1 x.2.1 (M 3) (M 6) x.2.2.1 x.2.2.2)))
theorem zt_X12_taken_mono : ab_mono zt_X12_taken := ab_lq_mono _ _
theorem zV_X12_taken : ab_recv zw_M vwCl RX12 zt_X12_taken := ab_lq_v
def zp_X12_taken : ab_P := [(0, .iload_n 2, 1, [2], []),
  (1, .iconst 0, 2, [], [0]),
  (2, .bipush 6, 4, [], [6]),
  (4, .invokestatic 175, 7, [], []),
  (7, .ifCond .ne 6, 10, [13], []),
  (10, .bipush (-2), 12, [], [(-2)]),
  (12, .ireturn, 13, [], []),
  (13, .iload_n 1, 14, [1], []),
  (14, .iconst 0, 15, [], [0]),
  (15, .bipush 12, 17, [], [12]),
  (17, .invokestatic 175, 20, [], []),
  (20, .ifCond .ne 6, 23, [26], []),
  (23, .bipush (-12), 25, [], [(-12)]),
  (25, .ireturn, 26, [], []),
  (26, .iload_n 1, 27, [1], []),
  (27, .bipush 8, 29, [], [8]),
  (29, .if_icmp .ge 34, 32, [63], []),
  (32, .iload_n 1, 33, [1], []),
  (33, .aload_n 0, 34, [0], []),
  (34, .getfield 172, 37, [], []),
  (37, .if_icmp .lt 8, 40, [45], []),
  (40, .bipush (-11), 42, [], [(-11)]),
  (42, .goto 20, 45, [62], []),
  (45, .iload_n 2, 46, [2], []),
  (46, .bipush 6, 48, [], [6]),
  (48, .if_icmp .ne 12, 51, [60], []),
  (51, .aload_n 0, 52, [0], []),
  (52, .getfield 32, 55, [], []),
  (55, .iload_n 1, 56, [1], []),
  (56, .iaload, 57, [], []),
  (57, .goto 5, 60, [62], []),
  (60, .bipush (-13), 62, [], [(-13)]),
  (62, .ireturn, 63, [], []),
  (63, .iload_n 1, 64, [1], []),
  (64, .bipush 8, 66, [], [8]),
  (66, .isub, 67, [], []),
  (67, .aload_n 0, 68, [0], []),
  (68, .getfield 179, 71, [], []),
  (71, .if_icmp .lt 8, 74, [79], []),
  (74, .bipush (-11), 76, [], [(-11)]),
  (76, .goto 34, 79, [110], []),
  (79, .iload_n 2, 80, [2], []),
  (80, .bipush 6, 82, [], [6]),
  (82, .if_icmp .ge 26, 85, [108], []),
  (85, .aload_n 0, 86, [0], []),
  (86, .getfield 41, 89, [], []),
  (89, .iload_n 1, 90, [1], []),
  (90, .bipush 8, 92, [], [8]),
  (92, .isub, 93, [], []),
  (93, .iaload, 94, [], []),
  (94, .iload_n 2, 95, [2], []),
  (95, .invokestatic 415, 98, [], []),
  (98, .ifCond .eq 10, 101, [108], []),
  (101, .iload_n 1, 102, [1], []),
  (102, .bipush 8, 104, [], [8]),
  (104, .isub, 105, [], []),
  (105, .goto 5, 108, [110], []),
  (108, .bipush (-13), 110, [], [(-13)]),
  (110, .ireturn, 111, [], [])]
theorem zo_X12_taken : ab_ok cX12_taken zp_X12_taken = true := by decide +kernel
def zg_X12_taken : ab_G := (zw_M, [], zf_X12, zc_X12, [], [], [(175, 3, zt_X12_in), (415, 2, zt_X12_isUnder)])
theorem zm_X12_taken : ab_MG zg_X12_taken := ab_MGof (List.forall_mem_nil _) (List.forall_mem_cons.mpr ⟨ab_pure_mono _, List.forall_mem_cons.mpr ⟨ab_pure_mono _, List.forall_mem_nil _⟩⟩)
abbrev zr_X12_taken (Q : ab_R) : ab_K := ab_Run zg_X12_taken zp_X12_taken (some .int) 3 Q
set_option maxRecDepth 20000 in
theorem zv_X12_taken_0 {Q : ab_R} {M : ab_M} {N : ab_N} (l1 : Int32) (l2 : Int32) (h : ((ab_b ((0 : Int32) ≤ l2 ∧ l2 ≤ (6 : Int32))) = 0 → Q (some (.int (-2 : Int32))) M N) ∧ (¬ ((ab_b ((0 : Int32) ≤ l2 ∧ l2 ≤ (6 : Int32))) = 0) → ((ab_b ((0 : Int32) ≤ l1 ∧ l1 ≤ (12 : Int32))) = 0 → Q (some (.int (-12 : Int32))) M N) ∧ (¬ ((ab_b ((0 : Int32) ≤ l1 ∧ l1 ≤ (12 : Int32))) = 0) → ((8 : Int32) ≤ l1 → ((l1 - (8 : Int32)) < (M 0 12) → ((6 : Int32) ≤ l2 → Q (some (.int (-13 : Int32))) M N) ∧ (¬ ((6 : Int32) ≤ l2) → vp_in (l1 - (8 : Int32)) 5 ∧ (((ab_b (l2 = 0 ∨ (M 6 (l1 - (8 : Int32)).toNatClampNeg) = l2 ∨ (l2 = 1 ∧ ((M 6 (l1 - (8 : Int32)).toNatClampNeg) = 4 ∨ (M 6 (l1 - (8 : Int32)).toNatClampNeg) = 5)))) = 0 → Q (some (.int (-13 : Int32))) M N) ∧ (¬ ((ab_b (l2 = 0 ∨ (M 6 (l1 - (8 : Int32)).toNatClampNeg) = l2 ∨ (l2 = 1 ∧ ((M 6 (l1 - (8 : Int32)).toNatClampNeg) = 4 ∨ (M 6 (l1 - (8 : Int32)).toNatClampNeg) = 5)))) = 0) → Q (some (.int (l1 - (8 : Int32)))) M N)))) ∧ (¬ ((l1 - (8 : Int32)) < (M 0 12)) → Q (some (.int (-11 : Int32))) M N)) ∧ (¬ ((8 : Int32) ≤ l1) → (l1 < (M 0 7) → (l2 = (6 : Int32) → vp_in l1 8 ∧ (Q (some (.int (M 3 l1.toNatClampNeg))) M N)) ∧ (¬ (l2 = (6 : Int32)) → Q (some (.int (-13 : Int32))) M N)) ∧ (¬ (l1 < (M 0 7)) → Q (some (.int (-11 : Int32))) M N))))) : zr_X12_taken Q 0 [some (.ref 0), some (.int l1), some (.int l2)] [] M N := ab_Run_s zm_X12_taken (sp := []) 61 h
theorem zE_X12_taken (as : List Value) (M : ab_M) (N : ab_N) (k : ab_R) (hT : zt_X12_taken as M N k) : ab_cs as ≤ 3 ∧ zr_X12_taken k 0 (ab_en as) [] M N := by
  obtain ⟨⟨n, mn, i, q⟩, r, rfl, ⟨rfl, n7, p8, n12, m5⟩, hk⟩ := hT
  dsimp only at n7 p8 n12 m5 hk ⊢
  have hk := hk _ _ _ ⟨rfl, rfl, rfl⟩
  unfold zTkA at hk
  refine ⟨Nat.le_of_ble_eq_true rfl, zv_X12_taken_0 _ _ ?_⟩
  rw [n7, n12]
  refine ⟨fun c => ?_, fun c => ⟨fun c2 => ?_, fun c2 => ?_⟩⟩
  · rw [if_neg (ab_b_0.mp c)] at hk
    exact hk
  · rw [if_pos (zIx0 c), if_neg (ab_b_0.mp c2)] at hk
    exact hk
  · have a1 := zIx0 c
    have a2 := zIx0 c2
    rw [if_pos a1, if_pos a2] at hk
    obtain ⟨ki, yi, rfl⟩ := zIxM (n := 12) (by decide) a2
    refine ⟨fun c3 => ?_, fun c3 => ?_⟩
    · have h8 : 8 ≤ ki := (nI_leI (a := 8) (by decide) (by omega)).mp c3
      have nn : ¬ zHasN (nI ki) n := fun z => by
        have := (zHasN_k (show ki < 2 ^ 31 by omega) (show n < 2 ^ 31 by omega)).mp z
        omega
      rw [if_neg nn] at hk
      have e8 : nI ki - 8 = nI (ki - 8) := by rw [show (8 : Int32) = nI 8 from rfl, pk_sub h8]
      rw [e8] at hk ⊢
      rw [nI_clamp (show ki - 8 < 2 ^ 31 by omega)] at hk ⊢
      refine ⟨fun c4 => ?_, fun c4 => ?_⟩
      · have l4 : ki - 8 < mn := (nI_ltI (by omega) (by omega)).mp c4
        have hh : zHasN (nI (ki - 8)) mn := (zHasN_k (by omega) (by omega)).mpr l4
        rw [if_pos hh] at hk
        refine ⟨fun c5 => ?_, fun c5 => ⟨nI_in_ (by omega), fun c6 => ?_, fun c6 => ?_⟩⟩
        · have nz : ¬ (zKd (M 6 (ki - 8)) q ∧ q ≤ 5) := fun z => absurd (Int32.le_trans c5 z.2) (by decide)
          rw [if_neg nz] at hk
          exact hk
        · have nz : ¬ (zKd (M 6 (ki - 8)) q ∧ q ≤ 5) := fun z => ab_b_0.mp c6 z.1
          rw [if_neg nz] at hk
          exact hk
        · have q5 : q ≤ 5 := by grind
          have pz : zKd (M 6 (ki - 8)) q ∧ q ≤ 5 := ⟨zIx0 c6, q5⟩
          rw [if_pos pz] at hk
          exact hk
      · have hh : ¬ zHasN (nI (ki - 8)) mn := fun z => c4 (nI_lt ((zHasN_k (by omega) (by omega)).mp z) (by omega))
        rw [if_neg hh] at hk
        exact hk
    · have h8 : ki < 8 := Nat.not_le.mp (fun z => c3 (nI_le (a := 8) z (by omega)))
      have nn : ¬ zHasN (nI ki - 8) mn := fun z => by
        have h0 := z.1
        have : nI ki < 8 := nI_lt (b := 8) h8 (by decide)
        grind
      rw [nI_clamp (show ki < 2 ^ 31 by omega)] at hk ⊢
      refine ⟨fun c4 => ?_, fun c4 => ?_⟩
      · have hh : zHasN (nI ki) n := (zHasN_k (by omega) (by omega)).mpr ((nI_ltI (by omega) (by omega)).mp c4)
        rw [if_pos hh] at hk
        refine ⟨fun c5 => ⟨nI_in_ (by omega), ?_⟩, fun c5 => ?_⟩
        · rw [if_pos c5] at hk; exact hk
        · rw [if_neg c5] at hk; exact hk
      · have hh : ¬ zHasN (nI ki) n := fun z => c4 (nI_lt ((zHasN_k (by omega) (by omega)).mp z) (by omega))
        rw [if_neg hh, if_neg nn] at hk
        exact hk
abbrev zR_X12_taken : Room := { frames := 1, cells := 0, slots := 0, locals := 22 }
set_option maxRecDepth 20000 in
theorem zM_X12_taken (l : Launch) : ab_Met l zw_M vwCl zZ_M yX12_taken cX12_taken 3 (some .int) zR_X12_taken zt_X12_taken := ab_ofRun (G := zg_X12_taken) (P := zp_X12_taken) rfl zo_X12_taken (by decide +kernel) zl_cl zl_lamM zf_X12_ok ab_Tab_nil zc_X12_ok ab_Sta_nil (List.forall_mem_nil _) (List.forall_mem_cons.mpr ⟨ab_callS zZ_M_ok (zM_X12_in l) (ab_in 1200 (by decide +kernel) rfl) (ab_in 1198 (by decide +kernel) rfl) (ab_in 1199 (by decide +kernel) rfl) (ab_in 17 (by decide +kernel) rfl) (by unfold ab_yok; decide +kernel) ⟨rfl, rfl⟩ (by decide), List.forall_mem_cons.mpr ⟨ab_callS zZ_M_ok (zM_X12_isUnder l) (ab_in 1539 (by decide +kernel) rfl) (ab_in 1537 (by decide +kernel) rfl) (ab_in 1538 (by decide +kernel) rfl) (ab_in 17 (by decide +kernel) rfl) (by unfold ab_yok; decide +kernel) ⟨rfl, rfl⟩ (by decide), List.forall_mem_nil _⟩⟩) zE_X12_taken
