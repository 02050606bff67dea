/-! the reference: judge *)
-/
def zJdB (M : ab_M) (s n : Nat) (w : Int32) (h : Nat) : Prop := ¬ zHasN (M 23 (40 * s + h)) n ∨ w < M 23 (40 * s + h) - M 23 (40 * s + h - (if h = 0 then 0 else 1)) ∨ ¬ M 23 (40 * s + h - (if h = 0 then 0 else 1)) - M 23 (40 * s + h) ≤ w
def zp_X12_judge : ab_P := [(0, .iload_n 1, 1, [1], []),
  (1, .iconst 0, 2, [], [0]),
  (2, .iconst 3, 3, [], [3]),
  (3, .invokestatic 175, 6, [], []),
  (6, .ifCond .eq 12, 9, [18], []),
  (9, .iload_n 2, 10, [2], []),
  (10, .iconst 1, 11, [], [1]),
  (11, .iconst 3, 12, [], [3]),
  (12, .invokestatic 175, 15, [], []),
  (15, .ifCond .ne 6, 18, [21], []),
  (18, .bipush (-2), 20, [], [(-2)]),
  (20, .ireturn, 21, [], []),
  (21, .aload_n 0, 22, [0], []),
  (22, .getfield 98, 25, [], []),
  (25, .iload_n 1, 26, [1], []),
  (26, .iaload, 27, [], []),
  (27, .iconst (-1), 28, [], [(-1)]),
  (28, .if_icmp .ne 6, 31, [34], []),
  (31, .bipush (-11), 33, [], [(-11)]),
  (33, .ireturn, 34, [], []),
  (34, .aload_n 0, 35, [0], []),
  (35, .getfield 101, 38, [], []),
  (38, .iload_n 1, 39, [1], []),
  (39, .iaload, 40, [], []),
  (40, .aload_n 0, 41, [0], []),
  (41, .getfield 7, 44, [], []),
  (44, .if_icmp .eq 6, 47, [50], []),
  (47, .bipush (-2), 49, [], [(-2)]),
  (49, .ireturn, 50, [], []),
  (50, .iconst 0, 51, [], [0]),
  (51, .istore_n 3, 52, [3], []),
  (52, .iload_n 3, 53, [3], []),
  (53, .aload_n 0, 54, [0], []),
  (54, .getfield 7, 57, [], []),
  (57, .if_icmp .ge 75, 60, [132], []),
  (60, .aload_n 0, 61, [0], []),
  (61, .getfield 104, 64, [], []),
  (64, .bipush 40, 66, [], [40]),
  (66, .iload_n 1, 67, [1], []),
  (67, .imul, 68, [], []),
  (68, .iload_n 3, 69, [3], []),
  (69, .iadd, 70, [], []),
  (70, .iaload, 71, [], []),
  (71, .istore 4, 73, [], []),
  (73, .iload_n 3, 74, [3], []),
  (74, .ifCond .ne 8, 77, [82], []),
  (77, .iload 4, 79, [], []),
  (79, .goto 16, 82, [95], []),
  (82, .aload_n 0, 83, [0], []),
  (83, .getfield 104, 86, [], []),
  (86, .bipush 40, 88, [], [40]),
  (88, .iload_n 1, 89, [1], []),
  (89, .imul, 90, [], []),
  (90, .iload_n 3, 91, [3], []),
  (91, .iadd, 92, [], []),
  (92, .iconst 1, 93, [], [1]),
  (93, .isub, 94, [], []),
  (94, .iaload, 95, [], []),
  (95, .istore 5, 97, [], []),
  (97, .aload_n 0, 98, [0], []),
  (98, .iload 4, 100, [], []),
  (100, .invokevirtual 182, 103, [], []),
  (103, .ifCond .eq 21, 106, [124], []),
  (106, .iload 4, 108, [], []),
  (108, .iload 5, 110, [], []),
  (110, .isub, 111, [], []),
  (111, .iload_n 2, 112, [2], []),
  (112, .if_icmp .gt 12, 115, [124], []),
  (115, .iload 5, 117, [], []),
  (117, .iload 4, 119, [], []),
  (119, .isub, 120, [], []),
  (120, .iload_n 2, 121, [2], []),
  (121, .if_icmp .le 5, 124, [126], []),
  (124, .iload_n 3, 125, [3], []),
  (125, .ireturn, 126, [], []),
  (126, .iinc 3 1, 129, [], [1]),
  (129, .goto (-77), 132, [52], []),
  (132, .iconst (-1), 133, [], [(-1)]),
  (133, .ireturn, 134, [], [])]
theorem zo_X12_judge : ab_ok cX12_judge zp_X12_judge = true := by decide +kernel
def zg_X12_judge : ab_G := (zw_M, [], zf_X12, zc_X12, [], [(182, 2, zt_X12_isPiece)], [(175, 3, zt_X12_in)])
theorem zm_X12_judge : ab_MG zg_X12_judge := ab_MGof (List.forall_mem_cons.mpr ⟨ab_pure_mono _, List.forall_mem_nil _⟩) (List.forall_mem_cons.mpr ⟨ab_pure_mono _, List.forall_mem_nil _⟩)
abbrev zr_X12_judge (Q : ab_R) : ab_K := ab_Run zg_X12_judge zp_X12_judge (some .int) 6 Q
set_option maxRecDepth 20000 in
theorem zv_X12_judge_0 {Q : ab_R} {M : ab_M} {N : ab_N} (l1 : Int32) (l2 : Int32) (h : ((ab_b ((0 : Int32) ≤ l1 ∧ l1 ≤ (3 : Int32))) = 0 → Q (some (.int (-2 : Int32))) M N) ∧ (¬ ((ab_b ((0 : Int32) ≤ l1 ∧ l1 ≤ (3 : Int32))) = 0) → ((ab_b ((1 : Int32) ≤ l2 ∧ l2 ≤ (3 : Int32))) = 0 → Q (some (.int (-2 : Int32))) M N) ∧ (¬ ((ab_b ((1 : Int32) ≤ l2 ∧ l2 ≤ (3 : Int32))) = 0) → vp_in l1 4 ∧ (((M 21 l1.toNatClampNeg) = (-1 : Int32) → Q (some (.int (-11 : Int32))) M N) ∧ (¬ ((M 21 l1.toNatClampNeg) = (-1 : Int32)) → vp_in l1 4 ∧ (((M 22 l1.toNatClampNeg) = (M 0 0) → zr_X12_judge Q 52 [some (.ref 0), some (.int l1), some (.int l2), some (.int (0 : Int32)), none, none] [] M N) ∧ (¬ ((M 22 l1.toNatClampNeg) = (M 0 0)) → Q (some (.int (-2 : Int32))) M N))))))) : zr_X12_judge Q 0 [some (.ref 0), some (.int l1), some (.int l2)] [] M N := ab_Run_s zm_X12_judge (sp := [(52, [true, true, true, true, false, false]), (95, [true, true, true, true, true, false])]) 81 h
set_option maxRecDepth 20000 in
theorem zv_X12_judge_52 {Q : ab_R} {M : ab_M} {N : ab_N} (l1 : Int32) (l2 : Int32) (l3 : Int32) (h : ((M 0 0) ≤ l3 → Q (some (.int (-1 : Int32))) M N) ∧ (¬ ((M 0 0) ≤ l3) → vp_in (((40 : Int32) * l1) + l3) 160 ∧ ((l3 = 0 → zr_X12_judge Q 95 [some (.ref 0), some (.int l1), some (.int l2), some (.int l3), some (.int (M 23 (((40 : Int32) * l1) + l3).toNatClampNeg)), none] [.int (M 23 (((40 : Int32) * l1) + l3).toNatClampNeg)] M N) ∧ (¬ (l3 = 0) → vp_in ((((40 : Int32) * l1) + l3) - (1 : Int32)) 160 ∧ (zr_X12_judge Q 95 [some (.ref 0), some (.int l1), some (.int l2), some (.int l3), some (.int (M 23 (((40 : Int32) * l1) + l3).toNatClampNeg)), none] [.int (M 23 ((((40 : Int32) * l1) + l3) - (1 : Int32)).toNatClampNeg)] M N))))) : zr_X12_judge Q 52 [some (.ref 0), some (.int l1), some (.int l2), some (.int l3), none, none] [] M N := ab_Run_s zm_X12_judge (sp := [(52, [true, true, true, true, false, false]), (95, [true, true, true, true, true, false])]) 81 h
set_option maxRecDepth 20000 in
theorem zv_X12_judge_95 {Q : ab_R} {M : ab_M} {N : ab_N} (l1 : Int32) (l2 : Int32) (l3 : Int32) (l4 : Int32) (s0 : Int32) (h : ((ab_b (0 ≤ l4 ∧ l4 ≤ (M 0) 7 - 1)) = 0 → Q (some (.int l3)) M N) ∧ (¬ ((ab_b (0 ≤ l4 ∧ l4 ≤ (M 0) 7 - 1)) = 0) → (l2 < (l4 - s0) → Q (some (.int l3)) M N) ∧ (¬ (l2 < (l4 - s0)) → ((s0 - l4) ≤ l2 → zr_X12_judge Q 52 [some (.ref 0), some (.int l1), some (.int l2), some (.int (l3 + (1 : Int32))), none, none] [] M N) ∧ (¬ ((s0 - l4) ≤ l2) → Q (some (.int l3)) M N)))) : zr_X12_judge Q 95 [some (.ref 0), some (.int l1), some (.int l2), some (.int l3), some (.int l4), none] [.int s0] M N := ab_Run_s zm_X12_judge (sp := [(52, [true, true, true, true, false, false]), (95, [true, true, true, true, true, false])]) 81 h
theorem zL_X12_judge {Q : ab_R} {M : ab_M} {N : ab_N} {s n hr : Nat} {w : Int32} (hs : s < 4) (h7 : M 0 7 = nI n) (h0 : M 0 0 = nI hr) (h12 : hr ≤ 12) (hk : ∀ o : Int32, ((∃ h, h < hr ∧ o = nI h ∧ zJdB M s n w h ∧ ∀ j, j < h → ¬ zJdB M s n w j) ∨ (o = -1 ∧ ∀ j, j < hr → ¬ zJdB M s n w j)) → Q (some (.int o)) M N) : ∀ (r h : Nat), h + r = hr → (∀ j, j < h → ¬ zJdB M s n w j) → zr_X12_judge Q 52 [some (.ref 0), some (.int (nI s)), some (.int w), some (.int (nI h)), none, none] [] M N := by
  intro r
  induction r with
  | zero =>
    intro h hh hj
    have e : h = hr := by omega
    subst e
    exact zv_X12_judge_52 _ _ _ ⟨fun _ => hk _ (Or.inr ⟨rfl, hj⟩), fun c => absurd (by rw [h0]; exact nI_le (Nat.le_refl _) (by omega)) c⟩
  | succ r ih =>
    intro h hh hj
    have bad : zJdB M s n w h → Q (some (.int (nI h))) M N := fun b => hk _ (Or.inl ⟨h, by omega, rfl, b, hj⟩)
    have good : ¬ zJdB M s n w h → zr_X12_judge Q 52 [some (.ref 0), some (.int (nI s)), some (.int w), some (.int (nI (h + 1))), none, none] [] M N := fun g => ih (h + 1) (by omega) (fun j z => by
      by_cases e : j = h
      · rw [e]; exact g
      · exact hj j (by omega))
    have at95 : ∀ x : Int32, x = M 23 (40 * s + h - (if h = 0 then 0 else 1)) → zr_X12_judge Q 95 [some (.ref 0), some (.int (nI s)), some (.int w), some (.int (nI h)), some (.int (M 23 (40 * s + h))), none] [.int x] M N := by
      intro x ex
      unfold zJdB at bad good
      rw [← ex] at bad good
      refine zv_X12_judge_95 _ _ _ _ _ ?_
      rw [h7, nI_1]
      exact ⟨fun c => bad (Or.inl (ab_b_0.mp c)), fun c => ⟨fun c2 => bad (Or.inr (Or.inl c2)), fun c2 => ⟨fun c3 => good (fun z => z.elim (fun z => z (zIx0 c)) (fun z => z.elim c2 (fun z => z c3))), fun c3 => bad (Or.inr (Or.inr c3))⟩⟩⟩
    refine zv_X12_judge_52 _ _ _ ?_
    rw [h0, zSh_i, nI_clamp (show 40 * s + h < 2 ^ 31 by omega)]
    refine ⟨fun c => absurd c (nI_ge (by omega) (by omega)), fun _ => ⟨nI_in_ (by omega), fun c => ?_, fun c => ?_⟩⟩
    · have e : h = 0 := (nI_eq (b := 0) (by omega) (by decide)).mp c
      exact at95 _ (by rw [if_pos e]; rfl)
    · have e : ¬ h = 0 := fun z => c (by rw [z]; rfl)
      have e1 : nI (40 * s + h) - 1 = nI (40 * s + h - 1) := by rw [show 40 * s + h = (40 * s + h - 1) + 1 by omega, nI_pred]; rfl
      rw [e1, nI_clamp (show 40 * s + h - 1 < 2 ^ 31 by omega)]
      exact ⟨nI_in_ (by omega), at95 _ (by rw [if_neg e])⟩
def zJdR (M : ab_M) (n hr : Nat) (l w v : Int32) : Prop := (¬ ((0 ≤ l ∧ l ≤ 3) ∧ 1 ≤ w ∧ w ≤ 3) ∧ v = -2) ∨ (((0 ≤ l ∧ l ≤ 3) ∧ 1 ≤ w ∧ w ≤ 3) ∧ ∃ s : Nat, s < 4 ∧ l = nI s ∧ ((M 21 s = -1 ∧ v = -11) ∨ (¬ M 21 s = -1 ∧ ((¬ M 22 s = nI hr ∧ v = -2) ∨ (M 22 s = nI hr ∧ ((∃ h, h < hr ∧ v = nI h ∧ zJdB M s n w h ∧ ∀ j, j < h → ¬ zJdB M s n w j) ∨ (v = -1 ∧ ∀ j, j < hr → ¬ zJdB M s n w j)))))))
def zt_X12_judge : ab_T := ab_lq (α := Nat × Nat × Int32 × Int32) (fun x r M _ => r = [.int x.2.2.1, .int x.2.2.2] ∧ M 0 7 = nI x.1 ∧ M 0 0 = nI x.2.1 ∧ x.2.1 ≤ 12)
  (fun x M N o M2 N2 => M2 = M ∧ N2 = N ∧ ∃ v : Int32, o = some (.int v) ∧ zJdR M x.1 x.2.1 x.2.2.1 x.2.2.2 v)
theorem zt_X12_judge_mono : ab_mono zt_X12_judge := ab_lq_mono _ _
theorem zV_X12_judge : ab_recv zw_M vwCl RX12 zt_X12_judge := ab_lq_v
theorem zE_X12_judge (as : List Value) (M : ab_M) (N : ab_N) (k : ab_R) (hT : zt_X12_judge as M N k) : ab_cs as ≤ 6 ∧ zr_X12_judge k 0 (ab_en as) [] M N := by
  obtain ⟨⟨n, hr, l, w⟩, q, rfl, ⟨rfl, h7, h0, h12⟩, hk⟩ := hT
  dsimp only at h7 h0 h12 hk ⊢
  have hk := fun v (hv : zJdR M n hr l w v) => hk _ M N ⟨rfl, rfl, v, rfl, hv⟩
  refine ⟨Nat.le_of_ble_eq_true rfl, zv_X12_judge_0 _ _ ⟨fun c => hk _ (Or.inl ⟨fun z => ab_b_0.mp c z.1, rfl⟩), fun c => ⟨fun c2 => hk _ (Or.inl ⟨fun z => ab_b_0.mp c2 z.2, rfl⟩), fun c2 => ?_⟩⟩⟩
  have a1 := zIx0 c
  have a2 := zIx0 c2
  obtain ⟨s, y, e⟩ := zIxM (n := 3) (by decide) a1
  have ec : l.toNatClampNeg = s := by rw [e, nI_clamp (by omega)]
  have hi : vp_in l 4 := by rw [e]; exact nI_in_ (by omega)
  have hk := fun v hv => hk v (Or.inr ⟨⟨a1, a2⟩, s, by omega, e, hv⟩)
  rw [ec, h0]
  refine ⟨hi, fun c3 => hk _ (Or.inl ⟨c3, rfl⟩), fun c3 => ⟨hi, fun c4 => ?_, fun c4 => hk _ (Or.inr ⟨c3, Or.inl ⟨c4, rfl⟩⟩)⟩⟩
  rw [e]
  exact zL_X12_judge (s := s) (n := n) (hr := hr) (by omega) h7 h0 h12 (fun o ho => hk o (Or.inr ⟨c3, Or.inr ⟨c4, ho⟩⟩)) hr 0 (by omega) (fun j hj => absurd hj (Nat.not_lt_zero _))
abbrev zR_X12_judge : Room := { frames := 2, cells := 0, slots := 0, locals := 43 }
set_option maxRecDepth 20000 in
theorem zM_X12_judge (l : Launch) : ab_Met l zw_M vwCl zZ_M yX12_judge cX12_judge 6 (some .int) zR_X12_judge zt_X12_judge := ab_ofRun (G := zg_X12_judge) (P := zp_X12_judge) rfl zo_X12_judge (by decide +kernel) zl_cl zl_lamM zf_X12_ok ab_Tab_nil zc_X12_ok ab_Sta_nil (List.forall_mem_cons.mpr ⟨ab_callV zZ_M_ok (zM_X12_isPiece l) (ab_in 1208 (by decide +kernel) rfl) (ab_in 1205 (by decide +kernel) rfl) (ab_in 1207 (by decide +kernel) rfl) (ab_inS (List.mem_of_getElem? (i := 27) (by decide +kernel)) rfl) (ab_in 17 (by decide +kernel) rfl) (by unfold ab_yok; decide +kernel) ⟨rfl, rfl⟩ (by decide) zV_X12_isPiece, List.forall_mem_nil _⟩) (List.forall_mem_cons.mpr ⟨ab_callS zZ_M_ok (zM_X12_in l) (ab_in 1200 (by decide +kernel) rfl) (ab_in 1198 (by decide +kernel) rfl) (ab_in 1199 (by decide +kernel) rfl) (ab_in 17 (by decide +kernel) rfl) (by unfold ab_yok; decide +kernel) ⟨rfl, rfl⟩ (by decide), List.forall_mem_nil _⟩) zE_X12_judge
