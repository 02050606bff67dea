/-! the class: judge *)
-/
/-- the class's sheets in the reference's numbering -/
def zSv (M : ab_M) : ab_M := fun c => if c = 21 then M 43 else if c = 22 then M 44 else if c = 23 then M 45 else M c
def zt_X11_judge : ab_T := ab_m2 0 (fun _ _ M _ => zI0 M ∧ zSh M) (fun l w M N o M2 N2 => M2 = M ∧ N2 = N ∧ ∃ v : Int32, o = some (.int v) ∧ zJdR (zSv M) (zPcs M) (zHrs M) l w v)
theorem zt_X11_judge_mono : ab_mono zt_X11_judge := ab_m2_mono _ _ _
theorem zV_X11_judge : ab_recv zw_C vwCl RX11 zt_X11_judge := ab_m2_v rfl rfl
def zp_X11_judge : ab_P := [(0, .aload_n 0, 1, [0], []),
  (1, .getfield 76, 4, [], []),
  (4, .iload_n 1, 5, [1], []),
  (5, .invokevirtual 278, 8, [], []),
  (8, .ifCond .eq 12, 11, [20], []),
  (11, .iload_n 2, 12, [2], []),
  (12, .iconst 1, 13, [], [1]),
  (13, .iconst 3, 14, [], [3]),
  (14, .invokestatic 117, 17, [], []),
  (17, .ifCond .ne 6, 20, [23], []),
  (20, .bipush (-2), 22, [], [(-2)]),
  (22, .ireturn, 23, [], []),
  (23, .aload_n 0, 24, [0], []),
  (24, .getfield 76, 27, [], []),
  (27, .getfield 279, 30, [], []),
  (30, .iload_n 1, 31, [1], []),
  (31, .iaload, 32, [], []),
  (32, .iconst (-1), 33, [], [(-1)]),
  (33, .if_icmp .ne 6, 36, [39], []),
  (36, .bipush (-11), 38, [], [(-11)]),
  (38, .ireturn, 39, [], []),
  (39, .aload_n 0, 40, [0], []),
  (40, .getfield 76, 43, [], []),
  (43, .getfield 282, 46, [], []),
  (46, .iload_n 1, 47, [1], []),
  (47, .iaload, 48, [], []),
  (48, .aload_n 0, 49, [0], []),
  (49, .getfield 10, 52, [], []),
  (52, .getfield 150, 55, [], []),
  (55, .iconst 0, 56, [], [0]),
  (56, .iaload, 57, [], []),
  (57, .if_icmp .eq 6, 60, [63], []),
  (60, .bipush (-2), 62, [], [(-2)]),
  (62, .ireturn, 63, [], []),
  (63, .iconst 0, 64, [], [0]),
  (64, .istore_n 3, 65, [3], []),
  (65, .iload_n 3, 66, [3], []),
  (66, .aload_n 0, 67, [0], []),
  (67, .getfield 10, 70, [], []),
  (70, .getfield 150, 73, [], []),
  (73, .iconst 0, 74, [], [0]),
  (74, .iaload, 75, [], []),
  (75, .if_icmp .ge 59, 78, [134], []),
  (78, .aload_n 0, 79, [0], []),
  (79, .getfield 76, 82, [], []),
  (82, .iload_n 1, 83, [1], []),
  (83, .iload_n 3, 84, [3], []),
  (84, .invokevirtual 176, 87, [], []),
  (87, .istore 4, 89, [], []),
  (89, .aload_n 0, 90, [0], []),
  (90, .getfield 10, 93, [], []),
  (93, .iload 4, 95, [], []),
  (95, .invokevirtual 130, 98, [], []),
  (98, .ifCond .eq 28, 101, [126], []),
  (101, .iload_n 3, 102, [3], []),
  (102, .ifCond .le 26, 105, [128], []),
  (105, .iload 4, 107, [], []),
  (107, .aload_n 0, 108, [0], []),
  (108, .getfield 76, 111, [], []),
  (111, .iload_n 1, 112, [1], []),
  (112, .iload_n 3, 113, [3], []),
  (113, .iconst 1, 114, [], [1]),
  (114, .isub, 115, [], []),
  (115, .invokevirtual 176, 118, [], []),
  (118, .isub, 119, [], []),
  (119, .invokestatic 267, 122, [], []),
  (122, .iload_n 2, 123, [2], []),
  (123, .if_icmp .le 5, 126, [128], []),
  (126, .iload_n 3, 127, [3], []),
  (127, .ireturn, 128, [], []),
  (128, .iinc 3 1, 131, [], [1]),
  (131, .goto (-66), 134, [65], []),
  (134, .iconst (-1), 135, [], [(-1)]),
  (135, .ireturn, 136, [], [])]
theorem zo_X11_judge : ab_ok cX11_judge zp_X11_judge = true := by decide +kernel
def zg_X11_judge : ab_G := (zw_C, zs_tab, zf_X11, zc_X11, [(144, 50), (147, 51)], [(130, 2, zt_X2_has), (176, 3, zt_X7_at), (278, 2, zt_X7_has)], [(117, 3, zt_X11_within), (267, 1, zt_abs)])
theorem zm_X11_judge : ab_MG zg_X11_judge := ab_MGof (List.forall_mem_cons.mpr ⟨ab_pure_mono _, List.forall_mem_cons.mpr ⟨ab_pp_mono _, List.forall_mem_cons.mpr ⟨ab_pure_mono _, List.forall_mem_nil _⟩⟩⟩) (List.forall_mem_cons.mpr ⟨ab_pure_mono _, List.forall_mem_cons.mpr ⟨ab_pure_mono _, List.forall_mem_nil _⟩⟩)
abbrev zr_X11_judge (Q : ab_R) : ab_K := ab_Run zg_X11_judge zp_X11_judge (some .int) 5 Q
set_option maxRecDepth 20000 in
theorem zv_X11_judge_0 {Q : ab_R} {M : ab_M} {N : ab_N} (l1 : Int32) (l2 : Int32) (h : ((ab_b (0 ≤ l1 ∧ l1 < 4)) = 0 → Q (some (.int (-2 : Int32))) M N) ∧ (¬ ((ab_b (0 ≤ l1 ∧ l1 < 4)) = 0) → ((ab_b ((1 : Int32) ≤ l2 ∧ l2 ≤ (3 : Int32))) = 0 → Q (some (.int (-2 : Int32))) M N) ∧ (¬ ((ab_b ((1 : Int32) ≤ l2 ∧ l2 ≤ (3 : Int32))) = 0) → vp_in l1 4 ∧ (((M 43 l1.toNatClampNeg) = (-1 : Int32) → Q (some (.int (-11 : Int32))) M N) ∧ (¬ ((M 43 l1.toNatClampNeg) = (-1 : Int32)) → vp_in l1 4 ∧ (vp_in (0 : Int32) 5 ∧ (((M 44 l1.toNatClampNeg) = (M 17 0) → zr_X11_judge Q 65 [some (.ref 0), some (.int l1), some (.int l2), some (.int (0 : Int32)), none] [] M N) ∧ (¬ ((M 44 l1.toNatClampNeg) = (M 17 0)) → Q (some (.int (-2 : Int32))) M N)))))))) : zr_X11_judge Q 0 [some (.ref 0), some (.int l1), some (.int l2)] [] M N := ab_Run_s zm_X11_judge (sp := [(65, [true, true, true, true, false])]) 76 h
set_option maxRecDepth 20000 in
theorem zv_X11_judge_65 {Q : ab_R} {M : ab_M} {N : ab_N} (l1 : Int32) (l2 : Int32) (l3 : Int32) (h : vp_in (0 : Int32) 5 ∧ (((M 17 0) ≤ l3 → Q (some (.int (-1 : Int32))) M N) ∧ (¬ ((M 17 0) ≤ l3) → ((0 ≤ l1 ∧ l1 < 4 → (M 44) l1.toNatClampNeg ≤ 40)) ∧ (((ab_b (0 ≤ (if 0 ≤ l1 ∧ l1 < 4 ∧ 0 ≤ l3 ∧ l3 < (M 44) l1.toNatClampNeg then (M 45) (l1 * 40 + l3).toNatClampNeg else 0) ∧ (if 0 ≤ l1 ∧ l1 < 4 ∧ 0 ≤ l3 ∧ l3 < (M 44) l1.toNatClampNeg then (M 45) (l1 * 40 + l3).toNatClampNeg else 0) < (M 1) 4 ∧ (if 0 ≤ l1 ∧ l1 < 4 ∧ 0 ≤ l3 ∧ l3 < (M 44) l1.toNatClampNeg then (M 45) (l1 * 40 + l3).toNatClampNeg else 0) < 8)) = 0 → Q (some (.int l3)) M N) ∧ (¬ ((ab_b (0 ≤ (if 0 ≤ l1 ∧ l1 < 4 ∧ 0 ≤ l3 ∧ l3 < (M 44) l1.toNatClampNeg then (M 45) (l1 * 40 + l3).toNatClampNeg else 0) ∧ (if 0 ≤ l1 ∧ l1 < 4 ∧ 0 ≤ l3 ∧ l3 < (M 44) l1.toNatClampNeg then (M 45) (l1 * 40 + l3).toNatClampNeg else 0) < (M 1) 4 ∧ (if 0 ≤ l1 ∧ l1 < 4 ∧ 0 ≤ l3 ∧ l3 < (M 44) l1.toNatClampNeg then (M 45) (l1 * 40 + l3).toNatClampNeg else 0) < 8)) = 0) → (l3 ≤ 0 → zr_X11_judge Q 65 [some (.ref 0), some (.int l1), some (.int l2), some (.int (l3 + (1 : Int32))), none] [] M N) ∧ (¬ (l3 ≤ 0) → ((0 ≤ l1 ∧ l1 < 4 → (M 44) l1.toNatClampNeg ≤ 40)) ∧ (((if 0 ≤ ((if 0 ≤ l1 ∧ l1 < 4 ∧ 0 ≤ l3 ∧ l3 < (M 44) l1.toNatClampNeg then (M 45) (l1 * 40 + l3).toNatClampNeg else 0) - (if 0 ≤ l1 ∧ l1 < 4 ∧ 0 ≤ (l3 - (1 : Int32)) ∧ (l3 - (1 : Int32)) < (M 44) l1.toNatClampNeg then (M 45) (l1 * 40 + (l3 - (1 : Int32))).toNatClampNeg else 0)) then ((if 0 ≤ l1 ∧ l1 < 4 ∧ 0 ≤ l3 ∧ l3 < (M 44) l1.toNatClampNeg then (M 45) (l1 * 40 + l3).toNatClampNeg else 0) - (if 0 ≤ l1 ∧ l1 < 4 ∧ 0 ≤ (l3 - (1 : Int32)) ∧ (l3 - (1 : Int32)) < (M 44) l1.toNatClampNeg then (M 45) (l1 * 40 + (l3 - (1 : Int32))).toNatClampNeg else 0)) else 0 - ((if 0 ≤ l1 ∧ l1 < 4 ∧ 0 ≤ l3 ∧ l3 < (M 44) l1.toNatClampNeg then (M 45) (l1 * 40 + l3).toNatClampNeg else 0) - (if 0 ≤ l1 ∧ l1 < 4 ∧ 0 ≤ (l3 - (1 : Int32)) ∧ (l3 - (1 : Int32)) < (M 44) l1.toNatClampNeg then (M 45) (l1 * 40 + (l3 - (1 : Int32))).toNatClampNeg else 0))) ≤ l2 → zr_X11_judge Q 65 [some (.ref 0), some (.int l1), some (.int l2), some (.int (l3 + (1 : Int32))), none] [] M N) ∧ (¬ ((if 0 ≤ ((if 0 ≤ l1 ∧ l1 < 4 ∧ 0 ≤ l3 ∧ l3 < (M 44) l1.toNatClampNeg then (M 45) (l1 * 40 + l3).toNatClampNeg else 0) - (if 0 ≤ l1 ∧ l1 < 4 ∧ 0 ≤ (l3 - (1 : Int32)) ∧ (l3 - (1 : Int32)) < (M 44) l1.toNatClampNeg then (M 45) (l1 * 40 + (l3 - (1 : Int32))).toNatClampNeg else 0)) then ((if 0 ≤ l1 ∧ l1 < 4 ∧ 0 ≤ l3 ∧ l3 < (M 44) l1.toNatClampNeg then (M 45) (l1 * 40 + l3).toNatClampNeg else 0) - (if 0 ≤ l1 ∧ l1 < 4 ∧ 0 ≤ (l3 - (1 : Int32)) ∧ (l3 - (1 : Int32)) < (M 44) l1.toNatClampNeg then (M 45) (l1 * 40 + (l3 - (1 : Int32))).toNatClampNeg else 0)) else 0 - ((if 0 ≤ l1 ∧ l1 < 4 ∧ 0 ≤ l3 ∧ l3 < (M 44) l1.toNatClampNeg then (M 45) (l1 * 40 + l3).toNatClampNeg else 0) - (if 0 ≤ l1 ∧ l1 < 4 ∧ 0 ≤ (l3 - (1 : Int32)) ∧ (l3 - (1 : Int32)) < (M 44) l1.toNatClampNeg then (M 45) (l1 * 40 + (l3 - (1 : Int32))).toNatClampNeg else 0))) ≤ l2) → Q (some (.int l3)) M N)))))))) : zr_X11_judge Q 65 [some (.ref 0), some (.int l1), some (.int l2), some (.int l3), none] [] M N := ab_Run_s zm_X11_judge (sp := [(65, [true, true, true, true, false])]) 76 h
theorem zAbs2 {x w : Int32} (hw : 1 ≤ w) : (if 0 ≤ x then x else 0 - x) ≤ w ↔ ¬ w < x ∧ 0 - x ≤ w := by
  by_cases c : 0 ≤ x
  · rw [if_pos c]
    grind
  · rw [if_neg c]
    grind
theorem zL_X11_judge {Q : ab_R} {M : ab_M} {N : ab_N} {s n hr : Nat} {w : Int32} (hs : s < 4) (hw : 1 ≤ w) (h7 : M 1 4 = nI n) (h8 : n ≤ 8) (h0 : M 17 0 = nI hr) (h12 : hr ≤ 12) (h44 : M 44 s = nI hr) (hk : ∀ o : Int32, ((∃ h, h < hr ∧ o = nI h ∧ zJdB (zSv M) s n w h ∧ ∀ j, j < h → ¬ zJdB (zSv M) s n w j) ∨ (o = -1 ∧ ∀ j, j < hr → ¬ zJdB (zSv M) s n w j)) → Q (some (.int o)) M N) : ∀ (r h : Nat), h + r = hr → (∀ j, j < h → ¬ zJdB (zSv M) s n w j) → zr_X11_judge Q 65 [some (.ref 0), some (.int (nI s)), some (.int w), some (.int (nI h)), none] [] M N := by
  have at_ : ∀ i, i < hr → (if 0 ≤ nI s ∧ nI s < 4 ∧ 0 ≤ nI i ∧ nI i < (M 44) (nI s).toNatClampNeg then (M 45) (nI s * 40 + nI i).toNatClampNeg else 0) = M 45 (40 * s + i) := by
    intro i hi
    rw [nI_clamp (show s < 2 ^ 31 by omega), h44, if_pos ⟨nI_pos' (by omega), nI_lt (a := s) (b := 4) hs (by omega), nI_pos' (by omega), nI_lt (by omega) (by omega)⟩, zN_mul s 40 40, nI_add, nI_clamp (by omega), Nat.mul_comm s 40]
  have e23 : ∀ i, zSv M 23 i = M 45 i := fun i => rfl
  have sz : 0 ≤ nI s ∧ nI s < 4 → (M 44) (nI s).toNatClampNeg ≤ 40 := fun _ => by
    rw [nI_clamp (show s < 2 ^ 31 by omega), h44]
    exact nI_le (a := hr) (b := 40) (by omega) (by decide)
  intro r
  induction r with
  | zero =>
    intro h hh hj
    have e : h = hr := by omega
    subst e
    exact zv_X11_judge_65 _ _ _ ⟨ab_vpk (by decide), fun _ => hk _ (Or.inr ⟨rfl, hj⟩), fun c => absurd (by rw [h0]; exact nI_le (Nat.le_refl _) (by omega)) c⟩
  | succ r ih =>
    intro h hh hj
    have bad : zJdB (zSv M) s n w h → Q (some (.int (nI h))) M N := fun b => hk _ (Or.inl ⟨h, by omega, rfl, b, hj⟩)
    have good : ¬ zJdB (zSv M) s n w h → zr_X11_judge Q 65 [some (.ref 0), some (.int (nI s)), some (.int w), some (.int (nI (h + 1))), none] [] M N := fun g => ih (h + 1) (by omega) (fun j z => by
      by_cases e : j = h
      · rw [e]; exact g
      · exact hj j (by omega))
    have ah := at_ h (by omega)
    unfold zJdB at bad good
    refine zv_X11_judge_65 _ _ _ ?_
    rw [h0, ah, h7]
    refine ⟨ab_vpk (by decide), fun c => absurd c (nI_ge (by omega) (by omega)), fun _ => ⟨sz, fun c => bad (Or.inl (zIcn h8 rfl (by decide) c)), fun c => ⟨fun c2 => ?_, fun c2 => ⟨sz, ?_⟩⟩⟩⟩
    · have e : h = 0 := by
        have := (nI_leI (a := h) (b := 0) (by omega) (by decide)).mp c2
        omega
      subst e
      rw [nI_1]
      refine good (fun z => ?_)
      simp only [e23, if_true, Nat.sub_zero] at z
      rcases z with z | z | z
      · exact z (zIcp h8 rfl (by decide) c)
      · rw [Int32.sub_self] at z
        exact absurd hw (by grind)
      · rw [Int32.sub_self] at z
        exact z (Int32.le_trans (by decide) hw)
    · have e : ¬ h = 0 := fun z => c2 (by rw [z]; decide)
      have e1 : nI h - 1 = nI (h - 1) := by rw [show h = (h - 1) + 1 by omega, nI_pred]; rfl
      have ap := at_ (h - 1) (by omega)
      rw [show 40 * s + (h - 1) = 40 * s + h - 1 by omega] at ap
      rw [e1, ap, nI_1]
      simp only [e23, if_neg e] at bad good
      have en : M 45 (40 * s + h - 1) - M 45 (40 * s + h) = 0 - (M 45 (40 * s + h) - M 45 (40 * s + h - 1)) := by grind
      rw [en] at bad good
      refine ⟨fun c3 => good (fun z => ?_), fun c3 => bad (Or.inr ?_)⟩
      · obtain ⟨z1, z2⟩ := (zAbs2 hw).mp c3
        rcases z with z | z | z
        · exact z (zIcp h8 rfl (by decide) c)
        · exact z1 z
        · exact z z2
      · by_cases q : w < M 45 (40 * s + h) - M 45 (40 * s + h - 1)
        · exact Or.inl q
        · exact Or.inr (fun q2 => c3 ((zAbs2 hw).mpr ⟨q, q2⟩))
theorem zE_X11_judge (as : List Value) (M : ab_M) (N : ab_N) (k : ab_R) (hT : zt_X11_judge as M N k) : ab_cs as ≤ 5 ∧ zr_X11_judge k 0 (ab_en as) [] M N := by
  obtain ⟨l, w, rfl, ⟨h0, hS⟩, hk⟩ := ab_m2_e hT
  obtain ⟨n7, p8⟩ := zP_eq h0
  obtain ⟨n0, h12⟩ := zH_eq h0
  have hk := fun v (hv : zJdR (zSv M) (zPcs M) (zHrs M) l w v) => hk _ M N ⟨rfl, rfl, v, rfl, hv⟩
  have l4 : ∀ l : Int32, 0 ≤ l ∧ l < 4 ↔ 0 ≤ l ∧ l ≤ 3 := fun l => by grind
  refine ⟨Nat.le_of_ble_eq_true rfl, zv_X11_judge_0 _ _ ⟨fun c => hk _ (Or.inl ⟨fun z => ab_b_0.mp c ((l4 l).mpr z.1), rfl⟩), fun c => ⟨fun c2 => hk _ (Or.inl ⟨fun z => ab_b_0.mp c2 z.2, rfl⟩), fun c2 => ?_⟩⟩⟩
  have a1 := (l4 l).mp (zIx0 c)
  have a2 := zIx0 c2
  obtain ⟨s, y, e⟩ := zIxM (n := 3) (by decide) a1
  have ec : l.toNatClampNeg = s := by rw [e, nI_clamp (by omega)]
  have hi : vp_in l 4 := by rw [e]; exact nI_in_ (by omega)
  have hk := fun v hv => hk v (Or.inr ⟨⟨a1, a2⟩, s, by omega, e, hv⟩)
  rw [ec, n0]
  refine ⟨hi, fun c3 => hk _ (Or.inl ⟨c3, rfl⟩), fun c3 => ⟨hi, ab_vpk (by decide), fun c4 => ?_, fun c4 => hk _ (Or.inr ⟨c3, Or.inl ⟨c4, rfl⟩⟩)⟩⟩
  rw [e]
  exact zL_X11_judge (s := s) (by omega) a2.1 n7 p8 n0 h12 c4 (fun o ho => hk o (Or.inr ⟨c3, Or.inr ⟨c4, ho⟩⟩)) (zHrs M) 0 (by omega) (fun j hj => absurd hj (Nat.not_lt_zero _))
abbrev zR_X11_judge : Room := { frames := 3, cells := 0, slots := 0, locals := 65 }
set_option maxRecDepth 20000 in
theorem zM_X11_judge (l : Launch) : ab_Met l zw_C vwCl zZ_C yX11_judge cX11_judge 5 (some .int) zR_X11_judge zt_X11_judge := ab_ofRun (G := zg_X11_judge) (P := zp_X11_judge) rfl zo_X11_judge (by decide +kernel) zl_cl zl_lamC zf_X11_ok zs_tabOK zc_X11_ok zs_X11_ok (List.forall_mem_cons.mpr ⟨ab_callV zZ_C_ok (zM_X2_has l) (ab_in 554 (by decide +kernel) rfl) (ab_in 551 (by decide +kernel) rfl) (ab_in 552 (by decide +kernel) rfl) (ab_in 553 (by decide +kernel) rfl) (ab_in 2 (by decide +kernel) rfl) (by unfold ab_yok; decide +kernel) ⟨rfl, rfl⟩ (by decide) zV_X2_has, List.forall_mem_cons.mpr ⟨ab_callV zZ_C_ok (zM_X7_at l) (ab_in 625 (by decide +kernel) rfl) (ab_in 622 (by decide +kernel) rfl) (ab_in 623 (by decide +kernel) rfl) (ab_in 624 (by decide +kernel) rfl) (ab_in 10 (by decide +kernel) rfl) (by unfold ab_yok; decide +kernel) ⟨rfl, rfl⟩ (by decide) zV_X7_at, List.forall_mem_cons.mpr ⟨ab_callV zZ_C_ok (zM_X7_has l) (ab_in 621 (by decide +kernel) rfl) (ab_in 618 (by decide +kernel) rfl) (ab_in 619 (by decide +kernel) rfl) (ab_in 620 (by decide +kernel) rfl) (ab_in 10 (by decide +kernel) rfl) (by unfold ab_yok; decide +kernel) ⟨rfl, rfl⟩ (by decide) zV_X7_has, List.forall_mem_nil _⟩⟩⟩) (List.forall_mem_cons.mpr ⟨ab_callS zZ_C_ok (zM_X11_within l) (ab_in 538 (by decide +kernel) rfl) (ab_in 536 (by decide +kernel) rfl) (ab_in 537 (by decide +kernel) rfl) (ab_in 1 (by decide +kernel) rfl) (by unfold ab_yok; decide +kernel) ⟨rfl, rfl⟩ (by decide), List.forall_mem_cons.mpr ⟨ab_callAbs (ab_in 821 (by decide +kernel) rfl) (ab_in 694 (by decide +kernel) rfl) (ab_in 18 (by decide +kernel) rfl) (ab_in 695 (by decide +kernel) rfl) (by decide) (by decide), List.forall_mem_nil _⟩⟩) zE_X11_judge
theorem zJdF_u {B : Nat → Prop} {n : Nat} {v v2 : Int32} (hn : n ≤ 12) (h : (∃ h, h < n ∧ v = nI h ∧ B h ∧ ∀ j, j < h → ¬ B j) ∨ (v = -1 ∧ ∀ j, j < n → ¬ B j)) (h2 : (∃ h, h < n ∧ v2 = nI h ∧ B h ∧ ∀ j, j < h → ¬ B j) ∨ (v2 = -1 ∧ ∀ j, j < n → ¬ B j)) : v = v2 := by
  rcases h with ⟨a, a1, rfl, a3, a4⟩ | ⟨rfl, a⟩
  · rcases h2 with ⟨b, b1, rfl, b3, b4⟩ | ⟨rfl, b⟩
    · rcases Nat.lt_trichotomy a b with q | q | q
      · exact absurd a3 (b4 a q)
      · rw [q]
      · exact absurd b3 (a4 b q)
    · exact absurd a3 (b a a1)
  · rcases h2 with ⟨b, b1, rfl, b3, b4⟩ | ⟨rfl, b⟩
    · exact absurd b3 (a b b1)
    · rfl
theorem zJdR_u {M : ab_M} {n hr : Nat} {l w v v2 : Int32} (hn : hr ≤ 12) (h : zJdR M n hr l w v) (h2 : zJdR M n hr l w v2) : v = v2 := by
  rcases h with ⟨a, rfl⟩ | ⟨a, s, hs, el, h⟩
  · rcases h2 with ⟨-, rfl⟩ | ⟨b, -⟩
    · rfl
    · exact absurd b a
  · rcases h2 with ⟨b, -⟩ | ⟨-, s2, hs2, el2, h2⟩
    · exact absurd a b
    · have es : s2 = s := (nI_eq (by omega) (by omega)).mp (el2.symm.trans el)
      subst es
      rcases h with ⟨c, rfl⟩ | ⟨c, h⟩
      · rcases h2 with ⟨-, rfl⟩ | ⟨c2, -⟩
        · rfl
        · exact absurd c c2
      · rcases h2 with ⟨c2, -⟩ | ⟨-, h2⟩
        · exact absurd c2 c
        · rcases h with ⟨e, rfl⟩ | ⟨e, h⟩
          · rcases h2 with ⟨-, rfl⟩ | ⟨e2, -⟩
            · rfl
            · exact absurd e2 e
          · rcases h2 with ⟨e2, -⟩ | ⟨-, h2⟩
            · exact absurd e e2
            · exact zJdF_u hn h h2
