/-! man *)
-/
abbrev zMnG (n : Nat) (k e r : Int32) : Prop := ((0 ≤ k ∧ k ≤ 5) ∧ 0 ≤ e ∧ 0 ≤ r) ∧ (zHasN (e / 10) n ∧ zHasN (e - e / 10 * 10) n) ∧ (1 ≤ r / 10 ∧ r / 10 ≤ 3) ∧ (0 ≤ r - r / 10 * 10 ∧ r - r / 10 * 10 ≤ 5)
abbrev zMnO (f : Nat → Int32) : Prop := ∀ j : Nat, j < 12 → 0 ≤ f j ∧ f j ≤ 7
def zMnX (S : ab_M) (s : Int32) : Int32 := if 0 ≤ s ∧ s ≤ 3 then (if S 21 s.toNatClampNeg = -1 then -11 else if S 22 s.toNatClampNeg = nI 12 ∧ zMnO (fun j => S 23 (40 * s.toNatClampNeg + j)) then 0 else -2) else -2
def zMnA (S : ab_M) (n mn : Nat) (k e r s : Int32) : Int32 := if zMnG n k e r then (if k = 3 ∧ ¬ zMnX S s = 0 then zMnX S s else if mn = 5 then -4 else nI mn) else -2
abbrev zMnV (S : ab_M) (n mn : Nat) (k e r s : Int32) : Prop := zMnG n k e r ∧ ¬ (k = 3 ∧ ¬ zMnX S s = 0) ∧ ¬ mn = 5
/-- the hours that a man is told, put behind those of the men before him -/
def zMnT (g : Nat → Int32) (mn i : Nat) (f : Nat → Int32) : Nat → Int32 := fun j => if 12 * mn ≤ j ∧ j < 12 * mn + i then g (j - 12 * mn) else f j
def zMnH (C : Nat → Int32) (k s : Int32) : Nat → Int32 := fun j => if k = 3 then C (40 * s.toNatClampNeg + j) else 0
theorem zMnT_0 (g f : Nat → Int32) (mn : Nat) : zMnT g mn 0 f = f := funext fun j => if_neg (by omega)
theorem zMnT_s (g f : Nat → Int32) (mn i : Nat) : upd (zMnT g mn i f) (12 * mn + i) (g i) = zMnT g mn (i + 1) f := funext fun j => by
  by_cases e : j = 12 * mn + i
  · rw [e, upd_eq]
    unfold zMnT
    rw [if_pos (by omega), show 12 * mn + i - 12 * mn = i by omega]
  · rw [upd_ne _ _ e]
    unfold zMnT
    by_cases q : 12 * mn ≤ j ∧ j < 12 * mn + i
    · rw [if_pos q, if_pos (by omega)]
    · rw [if_neg q, if_neg (by omega)]
/-- the cells of a man, but what he is told -/
def zMnC (M : ab_M) (mn : Nat) (k e r : Int32) : ab_M := ab_u (ab_u (ab_u (ab_u (ab_u (ab_u M 25 (upd (M 25) mn k)) 26 (upd (M 26) mn (e / 10))) 27 (upd (M 27) mn (e - e / 10 * 10))) 28 (upd (M 28) mn (r / 10))) 29 (upd (M 29) mn (r - r / 10 * 10))) 2 (upd (M 2) 6 (nI (mn + 1)))
def zMnK (M : ab_M) (n mn : Nat) (k e r s : Int32) : ab_M := if zMnV (zSv M) n mn k e r s then ab_u (zMnC M mn k e r) 30 (zMnT (zMnH (M 45) k s) mn 12 (M 30)) else M
def zMnB (M : ab_M) (mn : Nat) (k e r : Int32) : ab_M := ab_u (ab_u (ab_u (ab_u (ab_u M 6 (upd (M 6) mn k)) 7 (upd (M 7) mn (e / 10))) 8 (upd (M 8) mn (e - e / 10 * 10))) 9 (upd (M 9) mn (r / 10))) 10 (upd (M 10) mn (r - r / 10 * 10))
def zMnM (M : ab_M) (n mn : Nat) (k e r s : Int32) : ab_M := if zMnV M n mn k e r s then ab_u (ab_u (zMnB M mn k e r) 11 (zMnT (zMnH (M 23) k s) mn 12 (M 11))) 0 (upd (M 0) 12 (nI (mn + 1))) else M
def zt_X11_man : ab_T := ab_m4 0 (fun _ _ _ _ M _ => zI0 M ∧ zSh M) (fun k e r s M N o M2 N2 => N2 = N ∧ M2 = zMnK M (zPcs M) (zMen M) k e r s ∧ o = some (.int (zMnA (zSv M) (zPcs M) (zMen M) k e r s)))
theorem zt_X11_man_mono : ab_mono zt_X11_man := ab_m4_mono _ _ _
theorem zV_X11_man : ab_recv zw_C vwCl RX11 zt_X11_man := ab_m4_v rfl rfl
def zp_X11_man : ab_P := [(0, .iload_n 1, 1, [1], []),
  (1, .iconst 0, 2, [], [0]),
  (2, .iconst 5, 3, [], [5]),
  (3, .invokestatic 117, 6, [], []),
  (6, .ifCond .eq 63, 9, [69], []),
  (9, .iload_n 2, 10, [2], []),
  (10, .ifCond .lt 59, 13, [69], []),
  (13, .iload_n 3, 14, [3], []),
  (14, .ifCond .lt 55, 17, [69], []),
  (17, .aload_n 0, 18, [0], []),
  (18, .getfield 10, 21, [], []),
  (21, .iload_n 2, 22, [2], []),
  (22, .bipush 10, 24, [], [10]),
  (24, .idiv, 25, [], []),
  (25, .invokevirtual 130, 28, [], []),
  (28, .ifCond .eq 41, 31, [69], []),
  (31, .aload_n 0, 32, [0], []),
  (32, .getfield 10, 35, [], []),
  (35, .iload_n 2, 36, [2], []),
  (36, .bipush 10, 38, [], [10]),
  (38, .irem, 39, [], []),
  (39, .invokevirtual 130, 42, [], []),
  (42, .ifCond .eq 27, 45, [69], []),
  (45, .iload_n 3, 46, [3], []),
  (46, .bipush 10, 48, [], [10]),
  (48, .idiv, 49, [], []),
  (49, .iconst 1, 50, [], [1]),
  (50, .iconst 3, 51, [], [3]),
  (51, .invokestatic 117, 54, [], []),
  (54, .ifCond .eq 15, 57, [69], []),
  (57, .iload_n 3, 58, [3], []),
  (58, .bipush 10, 60, [], [10]),
  (60, .irem, 61, [], []),
  (61, .iconst 0, 62, [], [0]),
  (62, .iconst 5, 63, [], [5]),
  (63, .invokestatic 117, 66, [], []),
  (66, .ifCond .ne 6, 69, [72], []),
  (69, .bipush (-2), 71, [], [(-2)]),
  (71, .ireturn, 72, [], []),
  (72, .iload_n 1, 73, [1], []),
  (73, .iconst 3, 74, [], [3]),
  (74, .if_icmp .ne 23, 77, [97], []),
  (77, .aload_n 0, 78, [0], []),
  (78, .iload 4, 80, [], []),
  (80, .bipush 12, 82, [], [12]),
  (82, .bipush 7, 84, [], [7]),
  (84, .invokevirtual 167, 87, [], []),
  (87, .istore 5, 89, [], []),
  (89, .iload 5, 91, [], []),
  (91, .ifCond .eq 6, 94, [97], []),
  (94, .iload 5, 96, [], []),
  (96, .ireturn, 97, [], []),
  (97, .aload_n 0, 98, [0], []),
  (98, .getfield 19, 101, [], []),
  (101, .getfield 156, 104, [], []),
  (104, .iconst 5, 105, [], [5]),
  (105, .if_icmp .lt 6, 108, [111], []),
  (108, .bipush (-4), 110, [], [(-4)]),
  (110, .ireturn, 111, [], []),
  (111, .aload_n 0, 112, [0], []),
  (112, .getfield 19, 115, [], []),
  (115, .iload_n 1, 116, [1], []),
  (116, .iload_n 2, 117, [2], []),
  (117, .iload_n 3, 118, [3], []),
  (118, .invokevirtual 171, 121, [], []),
  (121, .istore 5, 123, [], []),
  (123, .iconst 0, 124, [], [0]),
  (124, .istore 6, 126, [], []),
  (126, .iload 6, 128, [], []),
  (128, .bipush 12, 130, [], [12]),
  (130, .if_icmp .ge 45, 133, [175], []),
  (133, .aload_n 0, 134, [0], []),
  (134, .getfield 19, 137, [], []),
  (137, .getfield 173, 140, [], []),
  (140, .iload 5, 142, [], []),
  (142, .bipush 12, 144, [], [12]),
  (144, .imul, 145, [], []),
  (145, .iload 6, 147, [], []),
  (147, .iadd, 148, [], []),
  (148, .iload_n 1, 149, [1], []),
  (149, .iconst 3, 150, [], [3]),
  (150, .if_icmp .ne 17, 153, [167], []),
  (153, .aload_n 0, 154, [0], []),
  (154, .getfield 76, 157, [], []),
  (157, .iload 4, 159, [], []),
  (159, .iload 6, 161, [], []),
  (161, .invokevirtual 176, 164, [], []),
  (164, .goto 4, 167, [168], []),
  (167, .iconst 0, 168, [], [0]),
  (168, .iastore, 169, [], []),
  (169, .iinc 6 1, 172, [], [1]),
  (172, .goto (-46), 175, [126], []),
  (175, .iload 5, 177, [], []),
  (177, .ireturn, 178, [], [])]
theorem zo_X11_man : ab_ok cX11_man zp_X11_man = true := by decide +kernel
def zg_X11_man : ab_G := (zw_C, zs_tab, zf_X11, zc_X11, [(144, 50), (147, 51)], [(130, 2, zt_X2_has), (167, 4, zt_X11_rowRefused), (171, 4, zt_X5_add), (176, 3, zt_X7_at)], [(117, 3, zt_X11_within)])
theorem zm_X11_man : ab_MG zg_X11_man := ab_MGof (List.forall_mem_cons.mpr ⟨ab_pure_mono _, List.forall_mem_cons.mpr ⟨zt_X11_rowRefused_mono, List.forall_mem_cons.mpr ⟨zt_X5_add_mono, List.forall_mem_cons.mpr ⟨ab_pp_mono _, List.forall_mem_nil _⟩⟩⟩⟩) (List.forall_mem_cons.mpr ⟨ab_pure_mono _, List.forall_mem_nil _⟩)
abbrev zr_X11_man (Q : ab_R) : ab_K := ab_Run zg_X11_man zp_X11_man (some .int) 7 Q
set_option maxRecDepth 20000 in
theorem zv_X11_man_0 {Q : ab_R} {M : ab_M} {N : ab_N} (l1 : Int32) (l2 : Int32) (l3 : Int32) (l4 : Int32) (h : ((ab_b ((0 : Int32) ≤ l1 ∧ l1 ≤ (5 : Int32))) = 0 → Q (some (.int (-2 : Int32))) M N) ∧ (¬ ((ab_b ((0 : Int32) ≤ l1 ∧ l1 ≤ (5 : Int32))) = 0) → (l2 < 0 → Q (some (.int (-2 : Int32))) M N) ∧ (¬ (l2 < 0) → (l3 < 0 → Q (some (.int (-2 : Int32))) M N) ∧ (¬ (l3 < 0) → ¬ (10 : Int32) = 0 ∧ (((ab_b (0 ≤ (l2 / (10 : Int32)) ∧ (l2 / (10 : Int32)) < (M 1) 4 ∧ (l2 / (10 : Int32)) < 8)) = 0 → Q (some (.int (-2 : Int32))) M N) ∧ (¬ ((ab_b (0 ≤ (l2 / (10 : Int32)) ∧ (l2 / (10 : Int32)) < (M 1) 4 ∧ (l2 / (10 : Int32)) < 8)) = 0) → ¬ (10 : Int32) = 0 ∧ (((ab_b (0 ≤ (l2 - l2 / (10 : Int32) * (10 : Int32)) ∧ (l2 - l2 / (10 : Int32) * (10 : Int32)) < (M 1) 4 ∧ (l2 - l2 / (10 : Int32) * (10 : Int32)) < 8)) = 0 → Q (some (.int (-2 : Int32))) M N) ∧ (¬ ((ab_b (0 ≤ (l2 - l2 / (10 : Int32) * (10 : Int32)) ∧ (l2 - l2 / (10 : Int32) * (10 : Int32)) < (M 1) 4 ∧ (l2 - l2 / (10 : Int32) * (10 : Int32)) < 8)) = 0) → ¬ (10 : Int32) = 0 ∧ (((ab_b ((1 : Int32) ≤ (l3 / (10 : Int32)) ∧ (l3 / (10 : Int32)) ≤ (3 : Int32))) = 0 → Q (some (.int (-2 : Int32))) M N) ∧ (¬ ((ab_b ((1 : Int32) ≤ (l3 / (10 : Int32)) ∧ (l3 / (10 : Int32)) ≤ (3 : Int32))) = 0) → ¬ (10 : Int32) = 0 ∧ (((ab_b ((0 : Int32) ≤ (l3 - l3 / (10 : Int32) * (10 : Int32)) ∧ (l3 - l3 / (10 : Int32) * (10 : Int32)) ≤ (5 : Int32))) = 0 → Q (some (.int (-2 : Int32))) M N) ∧ (¬ ((ab_b ((0 : Int32) ≤ (l3 - l3 / (10 : Int32) * (10 : Int32)) ∧ (l3 - l3 / (10 : Int32) * (10 : Int32)) ≤ (5 : Int32))) = 0) → (l1 = (3 : Int32) → zt_X11_rowRefused [.ref 0, .int l4, .int (12 : Int32), .int (7 : Int32)] M N (fun r M2 N2 => zr_X11_man Q 87 [some (.ref 0), some (.int l1), some (.int l2), some (.int l3), some (.int l4), none, none] (ab_ol r []) M2 N2)) ∧ (¬ (l1 = (3 : Int32)) → zr_X11_man Q 97 [some (.ref 0), some (.int l1), some (.int l2), some (.int l3), some (.int l4), none, none] [] M N))))))))))))) : zr_X11_man Q 0 [some (.ref 0), some (.int l1), some (.int l2), some (.int l3), some (.int l4)] [] M N := ab_Run_s zm_X11_man (sp := [(87, [true, true, true, true, true, false, false]), (97, [true, true, true, true, true, false, false]), (121, [true, true, false, false, true, false, false]), (126, [true, true, false, false, true, true, true])]) 96 h
set_option maxRecDepth 20000 in
theorem zv_X11_man_87 {Q : ab_R} {M : ab_M} {N : ab_N} (l1 : Int32) (l2 : Int32) (l3 : Int32) (l4 : Int32) (s0 : Int32) (h : (s0 = 0 → zr_X11_man Q 97 [some (.ref 0), some (.int l1), some (.int l2), some (.int l3), some (.int l4), none, none] [] M N) ∧ (¬ (s0 = 0) → Q (some (.int s0)) M N)) : zr_X11_man Q 87 [some (.ref 0), some (.int l1), some (.int l2), some (.int l3), some (.int l4), none, none] [.int s0] M N := ab_Run_s zm_X11_man (sp := [(87, [true, true, true, true, true, false, false]), (97, [true, true, true, true, true, false, false]), (121, [true, true, false, false, true, false, false]), (126, [true, true, false, false, true, true, true])]) 96 h
set_option maxRecDepth 20000 in
theorem zv_X11_man_97 {Q : ab_R} {M : ab_M} {N : ab_N} (l1 : Int32) (l2 : Int32) (l3 : Int32) (l4 : Int32) (h : ((M 2 6) < (5 : Int32) → zt_X5_add [.ref 2, .int l1, .int l2, .int l3] M N (fun r M2 N2 => zr_X11_man Q 121 [some (.ref 0), some (.int l1), none, none, some (.int l4), none, none] (ab_ol r []) M2 N2)) ∧ (¬ ((M 2 6) < (5 : Int32)) → Q (some (.int (-4 : Int32))) M N)) : zr_X11_man Q 97 [some (.ref 0), some (.int l1), some (.int l2), some (.int l3), some (.int l4), none, none] [] M N := ab_Run_s zm_X11_man (sp := [(87, [true, true, true, true, true, false, false]), (97, [true, true, true, true, true, false, false]), (121, [true, true, false, false, true, false, false]), (126, [true, true, false, false, true, true, true])]) 96 h
set_option maxRecDepth 20000 in
theorem zv_X11_man_121 {Q : ab_R} {M : ab_M} {N : ab_N} (l1 : Int32) (l4 : Int32) (s0 : Int32) (h : zr_X11_man Q 126 [some (.ref 0), some (.int l1), none, none, some (.int l4), some (.int s0), some (.int (0 : Int32))] [] M N) : zr_X11_man Q 121 [some (.ref 0), some (.int l1), none, none, some (.int l4), none, none] [.int s0] M N := ab_Run_s zm_X11_man (sp := [(87, [true, true, true, true, true, false, false]), (97, [true, true, true, true, true, false, false]), (121, [true, true, false, false, true, false, false]), (126, [true, true, false, false, true, true, true])]) 96 h
set_option maxRecDepth 20000 in
theorem zv_X11_man_126 {Q : ab_R} {M : ab_M} {N : ab_N} (l1 : Int32) (l4 : Int32) (l5 : Int32) (l6 : Int32) (h : ((12 : Int32) ≤ l6 → Q (some (.int l5)) M N) ∧ (¬ ((12 : Int32) ≤ l6) → (l1 = (3 : Int32) → ((0 ≤ l4 ∧ l4 < 4 → (M 44) l4.toNatClampNeg ≤ 40)) ∧ (vp_in ((l5 * (12 : Int32)) + l6) 60 ∧ (let z1 : Nat → Int32 := upd (M 30) ((l5 * (12 : Int32)) + l6).toNatClampNeg (if 0 ≤ l4 ∧ l4 < 4 ∧ 0 ≤ l6 ∧ l6 < (M 44) l4.toNatClampNeg then (M 45) (l4 * 40 + l6).toNatClampNeg else 0); zr_X11_man Q 126 [some (.ref 0), some (.int l1), none, none, some (.int l4), some (.int l5), some (.int (l6 + (1 : Int32)))] [] (ab_u M 30 z1) N))) ∧ (¬ (l1 = (3 : Int32)) → vp_in ((l5 * (12 : Int32)) + l6) 60 ∧ (let z2 : Nat → Int32 := upd (M 30) ((l5 * (12 : Int32)) + l6).toNatClampNeg (0 : Int32); zr_X11_man Q 126 [some (.ref 0), some (.int l1), none, none, some (.int l4), some (.int l5), some (.int (l6 + (1 : Int32)))] [] (ab_u M 30 z2) N)))) : zr_X11_man Q 126 [some (.ref 0), some (.int l1), none, none, some (.int l4), some (.int l5), some (.int l6)] [] M N := ab_Run_s zm_X11_man (sp := [(87, [true, true, true, true, true, false, false]), (97, [true, true, true, true, true, false, false]), (121, [true, true, false, false, true, false, false]), (126, [true, true, false, false, true, true, true])]) 96 h
theorem zL_X11_man {Q : ab_R} {N : ab_N} {k s : Int32} {mn : Nat} (hm : mn < 5) (g f : Nat → Int32) : ∀ (r i : Nat) (M : ab_M), i + r = 12 → M 30 = zMnT g mn i f → (k = 3 → (0 ≤ s ∧ s < 4) ∧ M 44 s.toNatClampNeg = nI 12 ∧ ∀ j, g j = M 45 (40 * s.toNatClampNeg + j)) → (¬ k = 3 → ∀ j, g j = 0) → Q (some (.int (nI mn))) (ab_u M 30 (zMnT g mn 12 f)) N → zr_X11_man Q 126 [some (.ref 0), some (.int k), none, none, some (.int s), some (.int (nI mn)), some (.int (nI i))] [] M N := by
  intro r
  induction r with
  | zero =>
    intro i M hi hf _ _ hk
    have e : i = 12 := by omega
    subst e
    rw [← hf, ab_u_self] at hk
    exact zv_X11_man_126 _ _ _ _ ⟨fun _ => hk, fun z => absurd (nI_le (Nat.le_refl _) (by decide)) z⟩
  | succ r ih =>
    intro i M hi hf h3 hn3 hk
    refine zv_X11_man_126 _ _ _ _ ⟨fun z => absurd z (nI_ge (a := i) (b := 12) (by omega) (by decide)), fun _ => ?_⟩
    rw [zN_mul mn 12 12, nI_add, nI_clamp (show mn * 12 + i < 2 ^ 31 by omega), nI_1, Nat.mul_comm mn 12]
    have hin : vp_in (nI (12 * mn + i)) 60 := nI_in_ (by omega)
    refine ⟨fun c => ?_, fun c => ?_⟩
    · obtain ⟨s4, e44, hg⟩ := h3 c
      obtain ⟨q, hq, rfl⟩ := zQ4_n (zQ4_c.mp s4)
      have cq : (nI q).toNatClampNeg = q := nI_clamp (by omega)
      rw [cq] at e44 hg ⊢
      rw [e44]
      have ci : 0 ≤ nI q ∧ nI q < 4 ∧ 0 ≤ nI i ∧ nI i < nI 12 := ⟨s4.1, s4.2, nI_pos' (by omega), nI_lt (by omega) (by decide)⟩
      rw [if_pos ci, zN_mul q 40 40, nI_add, nI_clamp (show q * 40 + i < 2 ^ 31 by omega), Nat.mul_comm q 40, ← hg i, hf, zMnT_s]
      refine ⟨fun _ => by decide, hin, ?_⟩
      intro z1
      refine ih (i + 1) _ (by omega) (ab_u_eq _ _ _) ?_ hn3 ?_
      · intro _
        rw [ab_u_ne _ _ (show (44 : Nat) ≠ 30 by decide), ab_u_ne _ _ (show (45 : Nat) ≠ 30 by decide), cq]
        exact ⟨s4, e44, hg⟩
      · rw [ab_u_u]
        exact hk
    · have e0 : (0 : Int32) = g i := (hn3 c i).symm
      rw [hf]
      refine ⟨hin, ?_⟩
      rw [e0, zMnT_s]
      intro z1
      refine ih (i + 1) _ (by omega) (ab_u_eq _ _ _) (fun z => absurd z c) hn3 ?_
      rw [ab_u_u]
      exact hk
theorem zMn_low {r : Int32} (h : 0 ≤ r) : 0 ≤ r - r / 10 * 10 := by
  obtain ⟨a, ha, rfl⟩ := nI_ex h
  rw [show (10 : Int32) = nI 10 from rfl, pk_rem ha (by decide) (by decide)]
  exact nI_pos' (by omega)
theorem zE_X11_man (as : List Value) (M : ab_M) (N : ab_N) (k : ab_R) (hT : zt_X11_man as M N k) : ab_cs as ≤ 7 ∧ zr_X11_man k 0 (ab_en as) [] M N := by
  obtain ⟨kd, e, r, s, rfl, ⟨h0, hS⟩, hk⟩ := ab_m4_e hT
  obtain ⟨n7, p8⟩ := zP_eq h0
  obtain ⟨n12, m5⟩ := zM_eq h0
  have hk := hk _ _ _ ⟨rfl, rfl, rfl⟩
  unfold zMnA zMnK at hk
  have bad : ¬ zMnG (zPcs M) kd e r → k (some (.int (-2))) M N := fun z => by
    have nv : ¬ zMnV (zSv M) (zPcs M) (zMen M) kd e r s := fun w => z w.1
    rw [if_neg nv, if_neg z] at hk
    exact hk
  refine ⟨Nat.le_of_ble_eq_true rfl, zv_X11_man_0 _ _ _ _ ⟨fun c => bad (fun z => ab_b_0.mp c z.1.1), fun c => ⟨fun c2 => bad (fun z => Int32.not_lt.mpr z.1.2.1 c2), fun c2 => ⟨fun c3 => bad (fun z => Int32.not_lt.mpr z.1.2.2 c3), fun c3 => ⟨by decide, ?_⟩⟩⟩⟩⟩
  rw [n7]
  refine ⟨fun c4 => bad (fun z => zIcn p8 rfl (by decide) c4 z.2.1.1), fun c4 => ⟨by decide, fun c5 => bad (fun z => zIcn p8 rfl (by decide) c5 z.2.1.2), fun c5 => ⟨by decide, fun c6 => bad (fun z => ab_b_0.mp c6 z.2.2.1), fun c6 => ⟨by decide, fun c7 => bad (fun z => ab_b_0.mp c7 z.2.2.2), fun c7 => ?_⟩⟩⟩⟩
  have gd : zMnG (zPcs M) kd e r := ⟨⟨zIx0 c, Int32.not_lt.mp c2, Int32.not_lt.mp c3⟩, ⟨zIcp p8 rfl (by decide) c4, zIcp p8 rfl (by decide) c5⟩, zIx0 c6, zIx0 c7⟩
  have ex : zRefused M s (nI 12) 7 = zMnX (zSv M) s := zRefused_hw (by decide)
  have go : ¬ (kd = 3 ∧ ¬ zMnX (zSv M) s = 0) → zr_X11_man k 97 [some (.ref 0), some (.int kd), some (.int e), some (.int r), some (.int s), none, none] [] M N := fun ok => by
    rw [if_pos gd, if_neg ok] at hk
    refine zv_X11_man_97 _ _ _ _ ?_
    rw [n12]
    refine ⟨fun c8 => ?_, fun c8 => ?_⟩
    · have m4 : zMen M < 5 := (nI_ltI (b := 5) (by omega) (by decide)).mp c8
      have nm : ¬ zMen M = 5 := by omega
      have vv : zMnV (zSv M) (zPcs M) (zMen M) kd e r s := ⟨gd, ok, nm⟩
      rw [if_pos vv, if_neg nm] at hk
      refine ab_m3_i (by rw [n12]; exact nI_in_ m4) ?_
      rintro o M2 N2 ⟨rfl, rfl, rfl⟩
      rw [n12, nI_clamp (show zMen M < 2 ^ 31 by omega), nI_1]
      refine zv_X11_man_121 _ _ _ (zL_X11_man m4 (zMnH (M 45) kd s) (M 30) 12 0 _ rfl ?_ ?_ ?_ ?_)
      · rw [zMnT_0]
        rfl
      · intro c9
        have x0 : zMnX (zSv M) s = 0 := Classical.byContradiction fun z => ok ⟨c9, z⟩
        unfold zMnX at x0
        by_cases d1 : 0 ≤ s ∧ s ≤ 3
        · rw [if_pos d1] at x0
          by_cases d2 : zSv M 21 s.toNatClampNeg = -1
          · rw [if_pos d2] at x0
            exact absurd x0 (by decide)
          · rw [if_neg d2] at x0
            by_cases d3 : zSv M 22 s.toNatClampNeg = nI 12 ∧ zMnO (fun j => zSv M 23 (40 * s.toNatClampNeg + j))
            · refine ⟨zQ4_c.mpr d1, d3.1, fun j => ?_⟩
              unfold zMnH
              rw [if_pos c9]
              rfl
            · rw [if_neg d3] at x0
              exact absurd x0 (by decide)
        · rw [if_neg d1] at x0
          exact absurd x0 (by decide)
      · intro c9 j
        unfold zMnH
        rw [if_neg c9]
      · exact hk
    · have nm : zMen M = 5 := by
        by_cases q : zMen M = 5
        · exact q
        · exact absurd (nI_lt (a := zMen M) (b := 5) (by omega) (by decide)) c8
      have nv : ¬ zMnV (zSv M) (zPcs M) (zMen M) kd e r s := fun w => w.2.2 nm
      rw [if_neg nv, if_pos nm] at hk
      exact hk
  refine ⟨fun c8 => ab_m3_i hS ?_, fun c8 => go (fun z => c8 z.1)⟩
  rintro o M2 N2 ⟨rfl, e1, e2⟩
  rw [e1, e2, show (12 : Int32) = nI 12 from rfl, ex]
  refine zv_X11_man_87 _ _ _ _ _ ⟨fun c9 => go (fun z => z.2 c9), fun c9 => ?_⟩
  have cc : kd = 3 ∧ ¬ zMnX (zSv M) s = 0 := ⟨c8, c9⟩
  have nv : ¬ zMnV (zSv M) (zPcs M) (zMen M) kd e r s := fun w => w.2.1 cc
  rw [if_pos gd, if_pos cc, if_neg nv] at hk
  exact hk
abbrev zR_X11_man : Room := { frames := 4, cells := 0, slots := 0, locals := 89 }
set_option maxRecDepth 20000 in
theorem zM_X11_man (l : Launch) : ab_Met l zw_C vwCl zZ_C yX11_man cX11_man 7 (some .int) zR_X11_man zt_X11_man := ab_ofRun (G := zg_X11_man) (P := zp_X11_man) rfl zo_X11_man (by decide +kernel) zl_cl zl_lamC zf_X11_ok zs_tabOK zc_X11_ok zs_X11_ok (List.forall_mem_cons.mpr ⟨ab_callV zZ_C_ok (zM_X2_has l) (ab_in 554 (by decide +kernel) rfl) (ab_in 551 (by decide +kernel) rfl) (ab_in 552 (by decide +kernel) rfl) (ab_in 553 (by decide +kernel) rfl) (ab_in 2 (by decide +kernel) rfl) (by unfold ab_yok; decide +kernel) ⟨rfl, rfl⟩ (by decide) zV_X2_has, List.forall_mem_cons.mpr ⟨ab_callV zZ_C_ok (zM_X11_rowRefused l) (ab_in 617 (by decide +kernel) rfl) (ab_in 614 (by decide +kernel) rfl) (ab_in 616 (by decide +kernel) rfl) (ab_inS (List.mem_of_getElem? (i := 12) (by decide +kernel)) rfl) (ab_in 1 (by decide +kernel) rfl) (by unfold ab_yok; decide +kernel) ⟨rfl, rfl⟩ (by decide) zV_X11_rowRefused, List.forall_mem_cons.mpr ⟨ab_callV zZ_C_ok (zM_X5_add l) (ab_in 634 (by decide +kernel) rfl) (ab_in 631 (by decide +kernel) rfl) (ab_in 632 (by decide +kernel) rfl) (ab_in 633 (by decide +kernel) rfl) (ab_in 3 (by decide +kernel) rfl) (by unfold ab_yok; decide +kernel) ⟨rfl, rfl⟩ (by decide) zV_X5_add, List.forall_mem_cons.mpr ⟨ab_callV zZ_C_ok (zM_X7_at l) (ab_in 625 (by decide +kernel) rfl) (ab_in 622 (by decide +kernel) rfl) (ab_in 623 (by decide +kernel) rfl) (ab_in 624 (by decide +kernel) rfl) (ab_in 10 (by decide +kernel) rfl) (by unfold ab_yok; decide +kernel) ⟨rfl, rfl⟩ (by decide) zV_X7_at, List.forall_mem_nil _⟩⟩⟩⟩) (List.forall_mem_cons.mpr ⟨ab_callS zZ_C_ok (zM_X11_within l) (ab_in 538 (by decide +kernel) rfl) (ab_in 536 (by decide +kernel) rfl) (ab_in 537 (by decide +kernel) rfl) (ab_in 1 (by decide +kernel) rfl) (by unfold ab_yok; decide +kernel) ⟨rfl, rfl⟩ (by decide), List.forall_mem_nil _⟩) zE_X11_man
