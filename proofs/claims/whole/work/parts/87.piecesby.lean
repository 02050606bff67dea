/-! piecesBy *)
-/
theorem nI_inj32 {a b : Nat} (ha : a < 2 ^ 32) (hb : b < 2 ^ 32) (h : nI a = nI b) : a = b := by
  have := congrArg (fun x : Int32 => x.toBitVec.toNat) h
  simpa [nI, Nat.mod_eq_of_lt ha, Nat.mod_eq_of_lt hb] using this
def zPbOk (Z : Int32) (a0 : Int32) (k : Nat) : Prop := 0 ≤ a0 ∧ a0.toNatClampNeg + 2 * k + 1 < Z.toNatClampNeg
abbrev zPbOkD (Z : Int32) (a0 : Int32) (k : Nat) : Decidable (zPbOk Z a0 k) := inferInstanceAs (Decidable (_ ∧ _))
theorem zPb_i {a k : Nat} (ha : a < 2 ^ 31) (hk : k ≤ 8) : nI a + 2 * nI k = nI (a + 2 * k) := by
  rw [show (2 : Int32) = nI 2 from rfl, pk_mul, nI_add]
/-- a place that is not below 0 -/
theorem zPb_j {x z : Nat} (hx : x < 2 ^ 31 + 20) (hz : z ≤ 40) (h : 0 ≤ nI x ∧ nI x < nI z) : x < z := by
  obtain ⟨j, j1, e⟩ := nI_ex h.1
  have := nI_inj32 (by omega) (by omega) e
  subst this
  exact (nI_ltI j1 (by omega)).mp h.2
theorem zPb_c {a k z : Nat} (ha : a < 2 ^ 31) (hk : k ≤ 8) (hz : z ≤ 40) : ((0 ≤ nI a + 2 * nI k ∧ nI a + 2 * nI k < nI z) ∧ 0 ≤ nI a + 2 * nI k + 1 ∧ nI a + 2 * nI k + 1 < nI z) ↔ a + 2 * k + 1 < z := by
  rw [zPb_i ha hk, nI_1]
  constructor
  · rintro ⟨-, h2⟩
    exact zPb_j (by omega) hz h2
  · intro h
    exact ⟨⟨nI_pos' (by omega), nI_lt (by omega) (by omega)⟩, nI_pos' (by omega), nI_lt (by omega) (by omega)⟩
theorem zPb_r {a k z : Nat} (ha : a < 2 ^ 31) (hk : k ≤ 8) (hz : z ≤ 40) : (¬ nI a + 2 * nI k < nI a ∧ nI a + 2 * nI k ≤ nI z - 2) ↔ a + 2 * k + 1 < z := by
  rw [zPb_i ha hk]
  constructor
  · rintro ⟨h1, h2⟩
    obtain ⟨j, j1, e⟩ := nI_ex (Int32.le_trans (nI_pos' ha) (Int32.not_lt.mp h1))
    have := nI_inj32 (by omega) (by omega) e
    rw [show (2 : Int32) = nI 2 from rfl, e, zLeSub32 (by omega) (by decide) j1] at h2
    omega
  · intro h
    rw [show (2 : Int32) = nI 2 from rfl, zLeSub32 (by omega) (by decide) (by omega)]
    exact ⟨nI_nlt (by omega) (by omega), by omega⟩
def zPbC (s : Nat) (a0 : Int32) : Nat → Nat → Int32 → ab_M → Int32 × ab_M
  | 0, _, c, M => (c, M)
  | r + 1, k, c, M => match zPbOkD (M 44 s) a0 k with
    | .isTrue _ => zPbC s a0 r (k + 1) (if zPcA (M 45 (40 * s + a0.toNatClampNeg + 2 * k)) (M 45 (40 * s + a0.toNatClampNeg + 2 * k + 1)) (zPcs M) < 0 then c + 0 else c + 1) (zPcC M (M 45 (40 * s + a0.toNatClampNeg + 2 * k)) (M 45 (40 * s + a0.toNatClampNeg + 2 * k + 1)) (zPcs M))
    | .isFalse _ => (-12, M)
theorem zPbC_t {s : Nat} {a0 : Int32} {r k : Nat} {c : Int32} {M : ab_M} (h : zPbOk (M 44 s) a0 k) : zPbC s a0 (r + 1) k c M = zPbC s a0 r (k + 1) (if zPcA (M 45 (40 * s + a0.toNatClampNeg + 2 * k)) (M 45 (40 * s + a0.toNatClampNeg + 2 * k + 1)) (zPcs M) < 0 then c + 0 else c + 1) (zPcC M (M 45 (40 * s + a0.toNatClampNeg + 2 * k)) (M 45 (40 * s + a0.toNatClampNeg + 2 * k + 1)) (zPcs M)) := by
  rw [zPbC]
  split
  · rfl
  · rename_i n _
    exact absurd h n
theorem zPbC_f {s : Nat} {a0 : Int32} {r k : Nat} {c : Int32} {M : ab_M} (h : ¬ zPbOk (M 44 s) a0 k) : zPbC s a0 (r + 1) k c M = (-12, M) := by
  rw [zPbC]
  split
  · rename_i n _
    exact absurd n h
  · rfl
def zPbR (s : Nat) (a0 : Int32) : Nat → Nat → Int32 → ab_M → Int32 × ab_M
  | 0, _, c, M => (c, M)
  | r + 1, k, c, M => match zPbOkD (M 22 s) a0 k with
    | .isTrue _ => zPbR s a0 r (k + 1) (if zPcA (M 23 (40 * s + a0.toNatClampNeg + 2 * k)) (M 23 (40 * s + a0.toNatClampNeg + 2 * k + 1)) (M 0 7).toNatClampNeg < 0 then c + 0 else c + 1) (zPcM M (M 23 (40 * s + a0.toNatClampNeg + 2 * k)) (M 23 (40 * s + a0.toNatClampNeg + 2 * k + 1)) (M 0 7).toNatClampNeg)
    | .isFalse _ => (-12, M)
theorem zPbR_t {s : Nat} {a0 : Int32} {r k : Nat} {c : Int32} {M : ab_M} (h : zPbOk (M 22 s) a0 k) : zPbR s a0 (r + 1) k c M = zPbR s a0 r (k + 1) (if zPcA (M 23 (40 * s + a0.toNatClampNeg + 2 * k)) (M 23 (40 * s + a0.toNatClampNeg + 2 * k + 1)) (M 0 7).toNatClampNeg < 0 then c + 0 else c + 1) (zPcM M (M 23 (40 * s + a0.toNatClampNeg + 2 * k)) (M 23 (40 * s + a0.toNatClampNeg + 2 * k + 1)) (M 0 7).toNatClampNeg) := by
  rw [zPbR]
  split
  · rfl
  · rename_i n _
    exact absurd h n
theorem zPbR_f {s : Nat} {a0 : Int32} {r k : Nat} {c : Int32} {M : ab_M} (h : ¬ zPbOk (M 22 s) a0 k) : zPbR s a0 (r + 1) k c M = (-12, M) := by
  rw [zPbR]
  split
  · rename_i n _
    exact absurd n h
  · rfl
abbrev zPbG (s t n : Int32) : Prop := zQ4 s ∧ (0 ≤ t ∧ t ≤ 2) ∧ (0 ≤ n ∧ n ≤ 8)
/-- answer and memory, out of what the pieces come to -/
def zPbX (S : Nat → Int32) (s t n : Int32) (M : ab_M) (x : Int32 × ab_M) : Int32 × ab_M := if zPbG s t n then (if S s.toNatClampNeg = -1 then (-11, M) else if S s.toNatClampNeg = t then x else (-13, M)) else (-2, M)
theorem zPcC_n {M : ab_M} {a b : Int32} {n c : Nat} (h : c ∉ [1, 5, 13, 14]) : zPcC M a b n c = M c := by
  simp only [List.mem_cons, List.not_mem_nil, or_false, not_or] at h
  unfold zPcC
  split
  · rw [ab_u_ne _ _ h.1, ab_u_ne _ _ h.2.2.2, ab_u_ne _ _ h.2.2.1, zFg_n M h.2.1]
  · rfl
theorem zPcC_1 {M : ab_M} {a b : Int32} {n : Nat} : zPcC M a b n 1 = if zPcV a b n then upd (M 1) 4 (nI (n + 1)) else M 1 := by
  unfold zPcC
  by_cases c : zPcV a b n
  · rw [if_pos c, if_pos c, ab_u_eq]
  · rw [if_neg c, if_neg c]
theorem zPcC_I0 {M : ab_M} (h : zI0 M) (a b : Int32) : zI0 (zPcC M a b (zPcs M)) := by
  obtain ⟨n7, p8⟩ := zP_eq h
  unfold zI0 at h ⊢
  rw [zPcC_n (c := 2) (by decide), zPcC_n (c := 17) (by decide), zPcC_1]
  by_cases c : zPcV a b (zPcs M)
  · rw [if_pos c, upd_eq, upd_ne _ _ (by decide)]
    have : ¬ zPcs M = 8 := c.2.2
    exact ⟨h.1, h.2.1, h.2.2.1, h.2.2.2.1, h.2.2.2.2.1, ⟨nI_pos' (by omega), nI_le (b := 8) (by omega) (by decide)⟩, h.2.2.2.2.2.2⟩
  · rw [if_neg c]
    exact h
def zt_X11_piecesBy : ab_T := ab_m4 0 (fun _ _ _ _ M _ => zI0 M ∧ zSh M) (fun s t a0 n M N o M2 N2 => N2 = N ∧ M2 = (zPbX (M 43) s t n M (zPbC s.toNatClampNeg a0 n.toNatClampNeg 0 0 M)).2 ∧ o = some (.int (zPbX (M 43) s t n M (zPbC s.toNatClampNeg a0 n.toNatClampNeg 0 0 M)).1))
theorem zt_X11_piecesBy_mono : ab_mono zt_X11_piecesBy := ab_m4_mono _ _ _
theorem zV_X11_piecesBy : ab_recv zw_C vwCl RX11 zt_X11_piecesBy := ab_m4_v rfl rfl
def zp_X11_piecesBy : ab_P := [(0, .aload_n 0, 1, [0], []),
  (1, .getfield 76, 4, [], []),
  (4, .iload_n 1, 5, [1], []),
  (5, .invokevirtual 278, 8, [], []),
  (8, .ifCond .eq 23, 11, [31], []),
  (11, .iload_n 2, 12, [2], []),
  (12, .iconst 0, 13, [], [0]),
  (13, .iconst 2, 14, [], [2]),
  (14, .invokestatic 117, 17, [], []),
  (17, .ifCond .eq 14, 20, [31], []),
  (20, .iload 4, 22, [], []),
  (22, .iconst 0, 23, [], [0]),
  (23, .bipush 8, 25, [], [8]),
  (25, .invokestatic 117, 28, [], []),
  (28, .ifCond .ne 6, 31, [34], []),
  (31, .bipush (-2), 33, [], [(-2)]),
  (33, .ireturn, 34, [], []),
  (34, .aload_n 0, 35, [0], []),
  (35, .getfield 76, 38, [], []),
  (38, .getfield 279, 41, [], []),
  (41, .iload_n 1, 42, [1], []),
  (42, .iaload, 43, [], []),
  (43, .iconst (-1), 44, [], [(-1)]),
  (44, .if_icmp .ne 6, 47, [50], []),
  (47, .bipush (-11), 49, [], [(-11)]),
  (49, .ireturn, 50, [], []),
  (50, .aload_n 0, 51, [0], []),
  (51, .getfield 76, 54, [], []),
  (54, .getfield 279, 57, [], []),
  (57, .iload_n 1, 58, [1], []),
  (58, .iaload, 59, [], []),
  (59, .iload_n 2, 60, [2], []),
  (60, .if_icmp .eq 6, 63, [66], []),
  (63, .bipush (-13), 65, [], [(-13)]),
  (65, .ireturn, 66, [], []),
  (66, .iconst 0, 67, [], [0]),
  (67, .istore 5, 69, [], []),
  (69, .iconst 0, 70, [], [0]),
  (70, .istore 6, 72, [], []),
  (72, .iload 6, 74, [], []),
  (74, .iload 4, 76, [], []),
  (76, .if_icmp .ge 87, 79, [163], []),
  (79, .iload_n 3, 80, [3], []),
  (80, .iconst 2, 81, [], [2]),
  (81, .iload 6, 83, [], []),
  (83, .imul, 84, [], []),
  (84, .iadd, 85, [], []),
  (85, .istore 7, 87, [], []),
  (87, .aload_n 0, 88, [0], []),
  (88, .getfield 76, 91, [], []),
  (91, .iload_n 1, 92, [1], []),
  (92, .iload 7, 94, [], []),
  (94, .invokevirtual 330, 97, [], []),
  (97, .ifCond .eq 18, 100, [115], []),
  (100, .aload_n 0, 101, [0], []),
  (101, .getfield 76, 104, [], []),
  (104, .iload_n 1, 105, [1], []),
  (105, .iload 7, 107, [], []),
  (107, .iconst 1, 108, [], [1]),
  (108, .iadd, 109, [], []),
  (109, .invokevirtual 330, 112, [], []),
  (112, .ifCond .ne 6, 115, [118], []),
  (115, .bipush (-12), 117, [], [(-12)]),
  (117, .ireturn, 118, [], []),
  (118, .iload 5, 120, [], []),
  (120, .aload_n 0, 121, [0], []),
  (121, .aload_n 0, 122, [0], []),
  (122, .getfield 76, 125, [], []),
  (125, .iload_n 1, 126, [1], []),
  (126, .iload 7, 128, [], []),
  (128, .invokevirtual 176, 131, [], []),
  (131, .aload_n 0, 132, [0], []),
  (132, .getfield 76, 135, [], []),
  (135, .iload_n 1, 136, [1], []),
  (136, .iload 7, 138, [], []),
  (138, .iconst 1, 139, [], [1]),
  (139, .iadd, 140, [], []),
  (140, .invokevirtual 176, 143, [], []),
  (143, .invokevirtual 336, 146, [], []),
  (146, .ifCond .lt 7, 149, [153], []),
  (149, .iconst 1, 150, [], [1]),
  (150, .goto 4, 153, [154], []),
  (153, .iconst 0, 154, [], [0]),
  (154, .iadd, 155, [], []),
  (155, .istore 5, 157, [], []),
  (157, .iinc 6 1, 160, [], [1]),
  (160, .goto (-88), 163, [72], []),
  (163, .iload 5, 165, [], []),
  (165, .ireturn, 166, [], [])]
theorem zo_X11_piecesBy : ab_ok cX11_piecesBy zp_X11_piecesBy = true := by decide +kernel
def zg_X11_piecesBy : ab_G := (zw_C, zs_tab, zf_X11, zc_X11, [(144, 50), (147, 51)], [(176, 3, zt_X7_at), (278, 2, zt_X7_has), (330, 3, zt_X7_holds), (336, 3, zt_X11_piece)], [(117, 3, zt_X11_within)])
theorem zm_X11_piecesBy : ab_MG zg_X11_piecesBy := ab_MGof (List.forall_mem_cons.mpr ⟨ab_pp_mono _, List.forall_mem_cons.mpr ⟨ab_pure_mono _, List.forall_mem_cons.mpr ⟨ab_pure_mono _, List.forall_mem_cons.mpr ⟨zt_X11_piece_mono, List.forall_mem_nil _⟩⟩⟩⟩) (List.forall_mem_cons.mpr ⟨ab_pure_mono _, List.forall_mem_nil _⟩)
abbrev zr_X11_piecesBy (Q : ab_R) : ab_K := ab_Run zg_X11_piecesBy zp_X11_piecesBy (some .int) 8 Q
set_option maxRecDepth 20000 in
theorem zv_X11_piecesBy_0 {Q : ab_R} {M : ab_M} {N : ab_N} (l1 : Int32) (l2 : Int32) (l3 : Int32) (l4 : Int32) (h : ((ab_b (0 ≤ l1 ∧ l1 < 4)) = 0 → Q (some (.int (-2 : Int32))) M N) ∧ (¬ ((ab_b (0 ≤ l1 ∧ l1 < 4)) = 0) → ((ab_b ((0 : Int32) ≤ l2 ∧ l2 ≤ (2 : Int32))) = 0 → Q (some (.int (-2 : Int32))) M N) ∧ (¬ ((ab_b ((0 : Int32) ≤ l2 ∧ l2 ≤ (2 : Int32))) = 0) → ((ab_b ((0 : Int32) ≤ l4 ∧ l4 ≤ (8 : Int32))) = 0 → Q (some (.int (-2 : Int32))) M N) ∧ (¬ ((ab_b ((0 : Int32) ≤ l4 ∧ l4 ≤ (8 : Int32))) = 0) → vp_in l1 4 ∧ (((M 43 l1.toNatClampNeg) = (-1 : Int32) → Q (some (.int (-11 : Int32))) M N) ∧ (¬ ((M 43 l1.toNatClampNeg) = (-1 : Int32)) → vp_in l1 4 ∧ (((M 43 l1.toNatClampNeg) = l2 → zr_X11_piecesBy Q 72 [some (.ref 0), some (.int l1), none, some (.int l3), some (.int l4), some (.int (0 : Int32)), some (.int (0 : Int32)), none] [] M N) ∧ (¬ ((M 43 l1.toNatClampNeg) = l2) → Q (some (.int (-13 : Int32))) M N)))))))) : zr_X11_piecesBy Q 0 [some (.ref 0), some (.int l1), some (.int l2), some (.int l3), some (.int l4)] [] M N := ab_Run_s zm_X11_piecesBy (sp := [(72, [true, true, false, true, true, true, true, false]), (146, [true, true, false, true, true, false, true, false])]) 91 h
set_option maxRecDepth 20000 in
theorem zv_X11_piecesBy_72 {Q : ab_R} {M : ab_M} {N : ab_N} (l1 : Int32) (l3 : Int32) (l4 : Int32) (l5 : Int32) (l6 : Int32) (h : (l4 ≤ l6 → Q (some (.int l5)) M N) ∧ (¬ (l4 ≤ l6) → ((ab_b (0 ≤ l1 ∧ l1 < 4 ∧ 0 ≤ (l3 + ((2 : Int32) * l6)) ∧ (l3 + ((2 : Int32) * l6)) < (M 44) l1.toNatClampNeg)) = 0 → Q (some (.int (-12 : Int32))) M N) ∧ (¬ ((ab_b (0 ≤ l1 ∧ l1 < 4 ∧ 0 ≤ (l3 + ((2 : Int32) * l6)) ∧ (l3 + ((2 : Int32) * l6)) < (M 44) l1.toNatClampNeg)) = 0) → ((ab_b (0 ≤ l1 ∧ l1 < 4 ∧ 0 ≤ ((l3 + ((2 : Int32) * l6)) + (1 : Int32)) ∧ ((l3 + ((2 : Int32) * l6)) + (1 : Int32)) < (M 44) l1.toNatClampNeg)) = 0 → Q (some (.int (-12 : Int32))) M N) ∧ (¬ ((ab_b (0 ≤ l1 ∧ l1 < 4 ∧ 0 ≤ ((l3 + ((2 : Int32) * l6)) + (1 : Int32)) ∧ ((l3 + ((2 : Int32) * l6)) + (1 : Int32)) < (M 44) l1.toNatClampNeg)) = 0) → ((0 ≤ l1 ∧ l1 < 4 → (M 44) l1.toNatClampNeg ≤ 40)) ∧ (((0 ≤ l1 ∧ l1 < 4 → (M 44) l1.toNatClampNeg ≤ 40)) ∧ (zt_X11_piece [.ref 0, .int (if 0 ≤ l1 ∧ l1 < 4 ∧ 0 ≤ (l3 + ((2 : Int32) * l6)) ∧ (l3 + ((2 : Int32) * l6)) < (M 44) l1.toNatClampNeg then (M 45) (l1 * 40 + (l3 + ((2 : Int32) * l6))).toNatClampNeg else 0), .int (if 0 ≤ l1 ∧ l1 < 4 ∧ 0 ≤ ((l3 + ((2 : Int32) * l6)) + (1 : Int32)) ∧ ((l3 + ((2 : Int32) * l6)) + (1 : Int32)) < (M 44) l1.toNatClampNeg then (M 45) (l1 * 40 + ((l3 + ((2 : Int32) * l6)) + (1 : Int32))).toNatClampNeg else 0)] M N (fun r M2 N2 => zr_X11_piecesBy Q 146 [some (.ref 0), some (.int l1), none, some (.int l3), some (.int l4), none, some (.int l6), none] (ab_ol r [.int l5]) M2 N2))))))) : zr_X11_piecesBy Q 72 [some (.ref 0), some (.int l1), none, some (.int l3), some (.int l4), some (.int l5), some (.int l6), none] [] M N := ab_Run_s zm_X11_piecesBy (sp := [(72, [true, true, false, true, true, true, true, false]), (146, [true, true, false, true, true, false, true, false])]) 91 h
set_option maxRecDepth 20000 in
theorem zv_X11_piecesBy_146 {Q : ab_R} {M : ab_M} {N : ab_N} (l1 : Int32) (l3 : Int32) (l4 : Int32) (l6 : Int32) (s0 : Int32) (s1 : Int32) (h : (s1 < 0 → zr_X11_piecesBy Q 72 [some (.ref 0), some (.int l1), none, some (.int l3), some (.int l4), some (.int (s0 + (0 : Int32))), some (.int (l6 + (1 : Int32))), none] [] M N) ∧ (¬ (s1 < 0) → zr_X11_piecesBy Q 72 [some (.ref 0), some (.int l1), none, some (.int l3), some (.int l4), some (.int (s0 + (1 : Int32))), some (.int (l6 + (1 : Int32))), none] [] M N)) : zr_X11_piecesBy Q 146 [some (.ref 0), some (.int l1), none, some (.int l3), some (.int l4), none, some (.int l6), none] [.int s1, .int s0] M N := ab_Run_s zm_X11_piecesBy (sp := [(72, [true, true, false, true, true, true, true, false]), (146, [true, true, false, true, true, false, true, false])]) 91 h
theorem zL_X11_piecesBy {Q : ab_R} {N : ab_N} {s n : Nat} {a0 : Int32} (hs : s < 4) (hn : n ≤ 8) : ∀ (r k : Nat) (c : Int32) (M : ab_M), k + r = n → zI0 M → zSh M → (k = 0 ∨ 0 ≤ a0) → Q (some (.int (zPbC s a0 r k c M).1)) (zPbC s a0 r k c M).2 N → zr_X11_piecesBy Q 72 [some (.ref 0), some (.int (nI s)), none, some (.int a0), some (.int (nI n)), some (.int c), some (.int (nI k)), none] [] M N := by
  have cs : (nI s).toNatClampNeg = s := nI_clamp (by omega)
  intro r
  induction r with
  | zero =>
    intro k c M hk h0 hS ha hQ
    have e : k = n := by omega
    subst e
    exact zv_X11_piecesBy_72 _ _ _ _ _ ⟨fun _ => hQ, fun z => absurd (nI_le (Nat.le_refl _) (by omega)) z⟩
  | succ r ih =>
    intro k c M hk h0 hS ha hQ
    obtain ⟨z, z40, ez⟩ := hS s hs
    have cz : (nI z).toNatClampNeg = z := nI_clamp (by omega)
    have q4 : 0 ≤ nI s ∧ nI s < 4 := ⟨nI_pos' (by omega), nI_lt (b := 4) hs (by decide)⟩
    have bad : ¬ zPbOk (M 44 s) a0 k → Q (some (.int (-12))) M N := fun b => by
      rw [zPbC_f b] at hQ
      exact hQ
    refine zv_X11_piecesBy_72 _ _ _ _ _ ?_
    rw [cs, ez]
    refine ⟨fun w => absurd w (nI_ge (by omega) (by omega)), fun _ => ?_⟩
    by_cases hok : zPbOk (M 44 s) a0 k
    · obtain ⟨o1, o2⟩ := id hok
      rw [ez, cz] at o2
      obtain ⟨a, a1, rfl⟩ := nI_ex o1
      rw [nI_clamp a1] at o2
      have ei : nI a + 2 * nI k = nI (a + 2 * k) := zPb_i a1 (by omega)
      have c1 : 0 ≤ nI s ∧ nI s < 4 ∧ 0 ≤ nI a + 2 * nI k ∧ nI a + 2 * nI k < nI z := by
        rw [ei]; exact ⟨q4.1, q4.2, nI_pos' (by omega), nI_lt (by omega) (by omega)⟩
      have c2 : 0 ≤ nI s ∧ nI s < 4 ∧ 0 ≤ nI a + 2 * nI k + 1 ∧ nI a + 2 * nI k + 1 < nI z := by
        rw [ei, nI_1]; exact ⟨q4.1, q4.2, nI_pos' (by omega), nI_lt (by omega) (by omega)⟩
      rw [zPbC_t hok, nI_clamp a1] at hQ
      rw [if_pos c1, if_pos c2]
      have sz : 0 ≤ nI s ∧ nI s < 4 → nI z ≤ 40 := fun _ => nI_le (b := 40) z40 (by decide)
      refine ⟨fun w => absurd c1 (ab_b_0.mp w), fun _ => ⟨fun w => absurd c2 (ab_b_0.mp w), fun _ => ⟨sz, sz, ab_m2_i h0 ?_⟩⟩⟩
      rintro o M2 N2 ⟨rfl, rfl, rfl⟩
      rw [ei, nI_1, zN_mul s 40 40, nI_add, nI_add, nI_clamp (show s * 40 + (a + 2 * k) < 2 ^ 31 by omega), nI_clamp (show s * 40 + (a + 2 * k + 1) < 2 ^ 31 by omega), show s * 40 + (a + 2 * k) = 40 * s + a + 2 * k by omega, show s * 40 + (a + 2 * k + 1) = 40 * s + a + 2 * k + 1 by omega]
      have go := fun c2 (q : Q _ _ _) => ih (k + 1) c2 (zPcC M (M 45 (40 * s + a + 2 * k)) (M 45 (40 * s + a + 2 * k + 1)) (zPcs M)) (by omega) (zPcC_I0 h0 _ _) (fun j hj => by rw [zPcC_n (c := 44) (by decide)]; exact hS j hj) (Or.inr o1) q
      refine zv_X11_piecesBy_146 _ _ _ _ _ _ ?_
      rw [nI_1]
      refine ⟨fun w => ?_, fun w => ?_⟩
      · rw [if_pos w] at hQ
        exact go _ hQ
      · rw [if_neg w] at hQ
        exact go _ hQ
    · have bad := bad hok
      refine ⟨fun _ => bad, fun w1 => ⟨fun _ => bad, fun w2 => absurd ?_ hok⟩⟩
      have v1 := zIx0 w1
      have v2 := zIx0 w2
      have a00 : 0 ≤ a0 := by
        rcases ha with e | e
        · subst e
          have := v1.2.2.1
          rw [show a0 + 2 * nI 0 = a0 by rw [show (2 : Int32) * nI 0 = 0 by decide, Int32.add_zero]] at this
          exact this
        · exact e
      obtain ⟨a, a1, rfl⟩ := nI_ex a00
      refine ⟨a00, ?_⟩
      rw [nI_clamp a1, ez, cz]
      exact (zPb_c a1 (by omega) z40).mp ⟨v1.2.2, v2.2.2⟩
theorem zE_X11_piecesBy (as : List Value) (M : ab_M) (N : ab_N) (k : ab_R) (hT : zt_X11_piecesBy as M N k) : ab_cs as ≤ 8 ∧ zr_X11_piecesBy k 0 (ab_en as) [] M N := by
  obtain ⟨s, t, a0, n, rfl, ⟨h0, hS⟩, hk⟩ := ab_m4_e hT
  have hk := hk _ _ _ ⟨rfl, rfl, rfl⟩
  unfold zPbX at hk
  have bad : ¬ zPbG s t n → k (some (.int (-2))) M N := fun b => by
    rw [if_neg b] at hk
    exact hk
  refine ⟨Nat.le_of_ble_eq_true rfl, zv_X11_piecesBy_0 _ _ _ _ ⟨fun c => bad (fun z => ab_b_0.mp c (zQ4_c.mpr z.1)), fun c => ⟨fun c2 => bad (fun z => ab_b_0.mp c2 z.2.1), fun c2 => ⟨fun c3 => bad (fun z => ab_b_0.mp c3 z.2.2), fun c3 => ?_⟩⟩⟩⟩
  have a1 := zQ4_c.mp (zIx0 c)
  have g : zPbG s t n := ⟨a1, zIx0 c2, zIx0 c3⟩
  rw [if_pos g] at hk
  obtain ⟨q, hq, rfl⟩ := zQ4_n a1
  obtain ⟨kn, hn, rfl⟩ := zIxM (n := 8) (by decide) (zIx0 c3)
  rw [nI_clamp (show q < 2 ^ 31 by omega), nI_clamp (show kn < 2 ^ 31 by omega)] at hk
  rw [nI_clamp (show q < 2 ^ 31 by omega)]
  refine ⟨nI_in_ hq, fun c4 => ?_, fun c4 => ⟨nI_in_ hq, fun c5 => ?_, fun c5 => ?_⟩⟩
  · rw [if_pos c4] at hk; exact hk
  · rw [if_neg c4, if_pos c5] at hk
    exact zL_X11_piecesBy hq hn kn 0 0 M (by omega) h0 hS (Or.inl rfl) hk
  · rw [if_neg c4, if_neg c5] at hk; exact hk
abbrev zR_X11_piecesBy : Room := { frames := 3, cells := 0, slots := 0, locals := 65 }
set_option maxRecDepth 20000 in
theorem zM_X11_piecesBy (l : Launch) : ab_Met l zw_C vwCl zZ_C yX11_piecesBy cX11_piecesBy 8 (some .int) zR_X11_piecesBy zt_X11_piecesBy := ab_ofRun (G := zg_X11_piecesBy) (P := zp_X11_piecesBy) rfl zo_X11_piecesBy (by decide +kernel) zl_cl zl_lamC zf_X11_ok zs_tabOK zc_X11_ok zs_X11_ok (List.forall_mem_cons.mpr ⟨ab_callV zZ_C_ok (zM_X7_at l) (ab_in 625 (by decide +kernel) rfl) (ab_in 622 (by decide +kernel) rfl) (ab_in 623 (by decide +kernel) rfl) (ab_in 624 (by decide +kernel) rfl) (ab_in 10 (by decide +kernel) rfl) (by unfold ab_yok; decide +kernel) ⟨rfl, rfl⟩ (by decide) zV_X7_at, List.forall_mem_cons.mpr ⟨ab_callV zZ_C_ok (zM_X7_has l) (ab_in 621 (by decide +kernel) rfl) (ab_in 618 (by decide +kernel) rfl) (ab_in 619 (by decide +kernel) rfl) (ab_in 620 (by decide +kernel) rfl) (ab_in 10 (by decide +kernel) rfl) (by unfold ab_yok; decide +kernel) ⟨rfl, rfl⟩ (by decide) zV_X7_has, List.forall_mem_cons.mpr ⟨ab_callV zZ_C_ok (zM_X7_holds l) (ab_in 629 (by decide +kernel) rfl) (ab_in 932 (by decide +kernel) rfl) (ab_in 627 (by decide +kernel) rfl) (ab_in 628 (by decide +kernel) rfl) (ab_in 10 (by decide +kernel) rfl) (by unfold ab_yok; decide +kernel) ⟨rfl, rfl⟩ (by decide) zV_X7_holds, List.forall_mem_cons.mpr ⟨ab_callV zZ_C_ok (zM_X11_piece l) (ab_in 535 (by decide +kernel) rfl) (ab_in 941 (by decide +kernel) rfl) (ab_in 533 (by decide +kernel) rfl) (ab_in 534 (by decide +kernel) rfl) (ab_in 1 (by decide +kernel) rfl) (by unfold ab_yok; decide +kernel) ⟨rfl, rfl⟩ (by decide) zV_X11_piece, List.forall_mem_nil _⟩⟩⟩⟩) (List.forall_mem_cons.mpr ⟨ab_callS zZ_C_ok (zM_X11_within l) (ab_in 538 (by decide +kernel) rfl) (ab_in 536 (by decide +kernel) rfl) (ab_in 537 (by decide +kernel) rfl) (ab_in 1 (by decide +kernel) rfl) (by unfold ab_yok; decide +kernel) ⟨rfl, rfl⟩ (by decide), List.forall_mem_nil _⟩) zE_X11_piecesBy
theorem zPcM_n {M : ab_M} {a b : Int32} {n c : Nat} (h : c ∉ [0, 2, 3]) : zPcM M a b n c = M c := by
  simp only [List.mem_cons, List.not_mem_nil, or_false, not_or] at h
  unfold zPcM
  split
  · rw [ab_u_ne _ _ h.1, ab_u_ne _ _ h.2.2, ab_u_ne _ _ h.2.1]
  · rfl
theorem zPcM_7 {M : ab_M} {a b : Int32} {n : Nat} (h7 : M 0 7 = nI n) (h8 : n ≤ 8) : ∃ n2 : Nat, n2 ≤ 8 ∧ zPcM M a b n 0 7 = nI n2 := by
  unfold zPcM
  split
  · rename_i c
    exact ⟨n + 1, by have := c.2.2; omega, by rw [ab_u_eq, upd_eq]⟩
  · exact ⟨n, h8, h7⟩
def zt_X12_piecesBy : ab_T := ab_lq (α := Int32 × Int32 × Int32 × Int32) (fun x r M _ => r = [.int x.1, .int x.2.1, .int x.2.2.1, .int x.2.2.2] ∧ zShR M ∧ ∃ n : Nat, n ≤ 8 ∧ M 0 7 = nI n)
  (fun x M N o M2 N2 => N2 = N ∧ M2 = (zPbX (M 21) x.1 x.2.1 x.2.2.2 M (zPbR x.1.toNatClampNeg x.2.2.1 x.2.2.2.toNatClampNeg 0 0 M)).2 ∧ o = some (.int (zPbX (M 21) x.1 x.2.1 x.2.2.2 M (zPbR x.1.toNatClampNeg x.2.2.1 x.2.2.2.toNatClampNeg 0 0 M)).1))
theorem zt_X12_piecesBy_mono : ab_mono zt_X12_piecesBy := ab_lq_mono _ _
theorem zV_X12_piecesBy : ab_recv zw_M vwCl RX12 zt_X12_piecesBy := ab_lq_v
def zp_X12_piecesBy : ab_P := [(0, .iload_n 1, 1, [1], []),
  (1, .iconst 0, 2, [], [0]),
  (2, .iconst 3, 3, [], [3]),
  (3, .invokestatic 175, 6, [], []),
  (6, .ifCond .eq 23, 9, [29], []),
  (9, .iload_n 2, 10, [2], []),
  (10, .iconst 0, 11, [], [0]),
  (11, .iconst 2, 12, [], [2]),
  (12, .invokestatic 175, 15, [], []),
  (15, .ifCond .eq 14, 18, [29], []),
  (18, .iload 4, 20, [], []),
  (20, .iconst 0, 21, [], [0]),
  (21, .bipush 8, 23, [], [8]),
  (23, .invokestatic 175, 26, [], []),
  (26, .ifCond .ne 6, 29, [32], []),
  (29, .bipush (-2), 31, [], [(-2)]),
  (31, .ireturn, 32, [], []),
  (32, .aload_n 0, 33, [0], []),
  (33, .getfield 98, 36, [], []),
  (36, .iload_n 1, 37, [1], []),
  (37, .iaload, 38, [], []),
  (38, .iconst (-1), 39, [], [(-1)]),
  (39, .if_icmp .ne 6, 42, [45], []),
  (42, .bipush (-11), 44, [], [(-11)]),
  (44, .ireturn, 45, [], []),
  (45, .aload_n 0, 46, [0], []),
  (46, .getfield 98, 49, [], []),
  (49, .iload_n 1, 50, [1], []),
  (50, .iaload, 51, [], []),
  (51, .iload_n 2, 52, [2], []),
  (52, .if_icmp .eq 6, 55, [58], []),
  (55, .bipush (-13), 57, [], [(-13)]),
  (57, .ireturn, 58, [], []),
  (58, .iconst 0, 59, [], [0]),
  (59, .istore 5, 61, [], []),
  (61, .iconst 0, 62, [], [0]),
  (62, .istore 6, 64, [], []),
  (64, .iload 6, 66, [], []),
  (66, .iload 4, 68, [], []),
  (68, .if_icmp .ge 85, 71, [153], []),
  (71, .iload_n 3, 72, [3], []),
  (72, .iconst 2, 73, [], [2]),
  (73, .iload 6, 75, [], []),
  (75, .imul, 76, [], []),
  (76, .iadd, 77, [], []),
  (77, .istore 7, 79, [], []),
  (79, .iload_n 3, 80, [3], []),
  (80, .ifCond .lt 22, 83, [102], []),
  (83, .iload 7, 85, [], []),
  (85, .iload_n 3, 86, [3], []),
  (86, .if_icmp .lt 16, 89, [102], []),
  (89, .iload 7, 91, [], []),
  (91, .aload_n 0, 92, [0], []),
  (92, .getfield 101, 95, [], []),
  (95, .iload_n 1, 96, [1], []),
  (96, .iaload, 97, [], []),
  (97, .iconst 2, 98, [], [2]),
  (98, .isub, 99, [], []),
  (99, .if_icmp .le 6, 102, [105], []),
  (102, .bipush (-12), 104, [], [(-12)]),
  (104, .ireturn, 105, [], []),
  (105, .bipush 40, 107, [], [40]),
  (107, .iload_n 1, 108, [1], []),
  (108, .imul, 109, [], []),
  (109, .iload 7, 111, [], []),
  (111, .iadd, 112, [], []),
  (112, .istore 8, 114, [], []),
  (114, .iload 5, 116, [], []),
  (116, .aload_n 0, 117, [0], []),
  (117, .aload_n 0, 118, [0], []),
  (118, .getfield 104, 121, [], []),
  (121, .iload 8, 123, [], []),
  (123, .iaload, 124, [], []),
  (124, .aload_n 0, 125, [0], []),
  (125, .getfield 104, 128, [], []),
  (128, .iload 8, 130, [], []),
  (130, .iconst 1, 131, [], [1]),
  (131, .iadd, 132, [], []),
  (132, .iaload, 133, [], []),
  (133, .invokevirtual 412, 136, [], []),
  (136, .ifCond .lt 7, 139, [143], []),
  (139, .iconst 1, 140, [], [1]),
  (140, .goto 4, 143, [144], []),
  (143, .iconst 0, 144, [], [0]),
  (144, .iadd, 145, [], []),
  (145, .istore 5, 147, [], []),
  (147, .iinc 6 1, 150, [], [1]),
  (150, .goto (-86), 153, [64], []),
  (153, .iload 5, 155, [], []),
  (155, .ireturn, 156, [], [])]
theorem zo_X12_piecesBy : ab_ok cX12_piecesBy zp_X12_piecesBy = true := by decide +kernel
def zg_X12_piecesBy : ab_G := (zw_M, [], zf_X12, zc_X12, [], [(412, 3, zt_X12_piece)], [(175, 3, zt_X12_in)])
theorem zm_X12_piecesBy : ab_MG zg_X12_piecesBy := ab_MGof (List.forall_mem_cons.mpr ⟨zt_X12_piece_mono, List.forall_mem_nil _⟩) (List.forall_mem_cons.mpr ⟨ab_pure_mono _, List.forall_mem_nil _⟩)
abbrev zr_X12_piecesBy (Q : ab_R) : ab_K := ab_Run zg_X12_piecesBy zp_X12_piecesBy (some .int) 9 Q
set_option maxRecDepth 20000 in
theorem zv_X12_piecesBy_0 {Q : ab_R} {M : ab_M} {N : ab_N} (l1 : Int32) (l2 : Int32) (l3 : Int32) (l4 : Int32) (h : ((ab_b ((0 : Int32) ≤ l1 ∧ l1 ≤ (3 : Int32))) = 0 → Q (some (.int (-2 : Int32))) M N) ∧ (¬ ((ab_b ((0 : Int32) ≤ l1 ∧ l1 ≤ (3 : Int32))) = 0) → ((ab_b ((0 : Int32) ≤ l2 ∧ l2 ≤ (2 : Int32))) = 0 → Q (some (.int (-2 : Int32))) M N) ∧ (¬ ((ab_b ((0 : Int32) ≤ l2 ∧ l2 ≤ (2 : Int32))) = 0) → ((ab_b ((0 : Int32) ≤ l4 ∧ l4 ≤ (8 : Int32))) = 0 → Q (some (.int (-2 : Int32))) M N) ∧ (¬ ((ab_b ((0 : Int32) ≤ l4 ∧ l4 ≤ (8 : Int32))) = 0) → vp_in l1 4 ∧ (((M 21 l1.toNatClampNeg) = (-1 : Int32) → Q (some (.int (-11 : Int32))) M N) ∧ (¬ ((M 21 l1.toNatClampNeg) = (-1 : Int32)) → vp_in l1 4 ∧ (((M 21 l1.toNatClampNeg) = l2 → zr_X12_piecesBy Q 64 [some (.ref 0), some (.int l1), none, some (.int l3), some (.int l4), some (.int (0 : Int32)), some (.int (0 : Int32)), none, none] [] M N) ∧ (¬ ((M 21 l1.toNatClampNeg) = l2) → Q (some (.int (-13 : Int32))) M N)))))))) : zr_X12_piecesBy Q 0 [some (.ref 0), some (.int l1), some (.int l2), some (.int l3), some (.int l4)] [] M N := ab_Run_s zm_X12_piecesBy (sp := [(64, [true, true, false, true, true, true, true, false, false]), (136, [true, true, false, true, true, false, true, false, false])]) 92 h
set_option maxRecDepth 20000 in
theorem zv_X12_piecesBy_64 {Q : ab_R} {M : ab_M} {N : ab_N} (l1 : Int32) (l3 : Int32) (l4 : Int32) (l5 : Int32) (l6 : Int32) (h : (l4 ≤ l6 → Q (some (.int l5)) M N) ∧ (¬ (l4 ≤ l6) → (l3 < 0 → Q (some (.int (-12 : Int32))) M N) ∧ (¬ (l3 < 0) → ((l3 + ((2 : Int32) * l6)) < l3 → Q (some (.int (-12 : Int32))) M N) ∧ (¬ ((l3 + ((2 : Int32) * l6)) < l3) → vp_in l1 4 ∧ (((l3 + ((2 : Int32) * l6)) ≤ ((M 22 l1.toNatClampNeg) - (2 : Int32)) → vp_in (((40 : Int32) * l1) + (l3 + ((2 : Int32) * l6))) 160 ∧ (vp_in ((((40 : Int32) * l1) + (l3 + ((2 : Int32) * l6))) + (1 : Int32)) 160 ∧ (zt_X12_piece [.ref 0, .int (M 23 (((40 : Int32) * l1) + (l3 + ((2 : Int32) * l6))).toNatClampNeg), .int (M 23 ((((40 : Int32) * l1) + (l3 + ((2 : Int32) * l6))) + (1 : Int32)).toNatClampNeg)] M N (fun r M2 N2 => zr_X12_piecesBy Q 136 [some (.ref 0), some (.int l1), none, some (.int l3), some (.int l4), none, some (.int l6), none, none] (ab_ol r [.int l5]) M2 N2)))) ∧ (¬ ((l3 + ((2 : Int32) * l6)) ≤ ((M 22 l1.toNatClampNeg) - (2 : Int32))) → Q (some (.int (-12 : Int32))) M N)))))) : zr_X12_piecesBy Q 64 [some (.ref 0), some (.int l1), none, some (.int l3), some (.int l4), some (.int l5), some (.int l6), none, none] [] M N := ab_Run_s zm_X12_piecesBy (sp := [(64, [true, true, false, true, true, true, true, false, false]), (136, [true, true, false, true, true, false, true, false, false])]) 92 h
set_option maxRecDepth 20000 in
theorem zv_X12_piecesBy_136 {Q : ab_R} {M : ab_M} {N : ab_N} (l1 : Int32) (l3 : Int32) (l4 : Int32) (l6 : Int32) (s0 : Int32) (s1 : Int32) (h : (s1 < 0 → zr_X12_piecesBy Q 64 [some (.ref 0), some (.int l1), none, some (.int l3), some (.int l4), some (.int (s0 + (0 : Int32))), some (.int (l6 + (1 : Int32))), none, none] [] M N) ∧ (¬ (s1 < 0) → zr_X12_piecesBy Q 64 [some (.ref 0), some (.int l1), none, some (.int l3), some (.int l4), some (.int (s0 + (1 : Int32))), some (.int (l6 + (1 : Int32))), none, none] [] M N)) : zr_X12_piecesBy Q 136 [some (.ref 0), some (.int l1), none, some (.int l3), some (.int l4), none, some (.int l6), none, none] [.int s1, .int s0] M N := ab_Run_s zm_X12_piecesBy (sp := [(64, [true, true, false, true, true, true, true, false, false]), (136, [true, true, false, true, true, false, true, false, false])]) 92 h
theorem zL_X12_piecesBy {Q : ab_R} {N : ab_N} {s n : Nat} {a0 : Int32} (hs : s < 4) (hn : n ≤ 8) : ∀ (r k : Nat) (c : Int32) (M : ab_M), k + r = n → zShR M → (∃ n : Nat, n ≤ 8 ∧ M 0 7 = nI n) → Q (some (.int (zPbR s a0 r k c M).1)) (zPbR s a0 r k c M).2 N → zr_X12_piecesBy Q 64 [some (.ref 0), some (.int (nI s)), none, some (.int a0), some (.int (nI n)), some (.int c), some (.int (nI k)), none, none] [] M N := by
  have cs : (nI s).toNatClampNeg = s := nI_clamp (by omega)
  intro r
  induction r with
  | zero =>
    intro k c M hk hS h7 hQ
    have e : k = n := by omega
    subst e
    exact zv_X12_piecesBy_64 _ _ _ _ _ ⟨fun _ => hQ, fun z => absurd (nI_le (Nat.le_refl _) (by omega)) z⟩
  | succ r ih =>
    intro k c M hk hS h7 hQ
    obtain ⟨z, z40, ez⟩ := hS s hs
    obtain ⟨pn, pn8, e7⟩ := h7
    have cz : (nI z).toNatClampNeg = z := nI_clamp (by omega)
    have bad : ¬ zPbOk (M 22 s) a0 k → Q (some (.int (-12))) M N := fun b => by
      rw [zPbR_f b] at hQ
      exact hQ
    refine zv_X12_piecesBy_64 _ _ _ _ _ ?_
    rw [cs, ez]
    refine ⟨fun w => absurd w (nI_ge (by omega) (by omega)), fun _ => ⟨fun w => bad (fun b => Int32.not_lt.mpr b.1 w), fun w => ?_⟩⟩
    have a00 := Int32.not_lt.mp w
    obtain ⟨a, a1, rfl⟩ := nI_ex a00
    have okI : zPbOk (M 22 s) (nI a) k ↔ a + 2 * k + 1 < z := by
      unfold zPbOk
      rw [nI_clamp a1, ez, cz]
      exact ⟨fun q => q.2, fun q => ⟨a00, q⟩⟩
    have rI := zPb_r (k := k) a1 (by omega) z40
    refine ⟨fun w1 => bad (fun b => (rI.mpr (okI.mp b)).1 w1), fun w1 => ⟨nI_in_ hs, fun w2 => ?_, fun w2 => bad (fun b => w2 (rI.mpr (okI.mp b)).2)⟩⟩
    have ok2 := rI.mp ⟨w1, w2⟩
    have hok := okI.mpr ok2
    rw [zPbR_t hok, nI_clamp a1, e7, nI_clamp (show pn < 2 ^ 31 by omega)] at hQ
    rw [zPb_i a1 (by omega), zSh_i, nI_1, nI_clamp (show 40 * s + (a + 2 * k) < 2 ^ 31 by omega), nI_clamp (show 40 * s + (a + 2 * k) + 1 < 2 ^ 31 by omega), show 40 * s + (a + 2 * k) = 40 * s + a + 2 * k by omega]
    refine ⟨nI_in_ (by omega), nI_in_ (by omega), (pn, M 23 (40 * s + a + 2 * k), M 23 (40 * s + a + 2 * k + 1)), _, rfl, ⟨rfl, e7, pn8⟩, ?_⟩
    rintro o M2 N2 ⟨rfl, rfl, rfl⟩
    dsimp only
    have go := fun c2 (q : Q _ _ _) => ih (k + 1) c2 (zPcM M (M 23 (40 * s + a + 2 * k)) (M 23 (40 * s + a + 2 * k + 1)) pn) (by omega) (fun j hj => by rw [zPcM_n (c := 22) (by decide)]; exact hS j hj) (zPcM_7 e7 pn8) q
    refine zv_X12_piecesBy_136 _ _ _ _ _ _ ?_
    rw [nI_1]
    refine ⟨fun w => ?_, fun w => ?_⟩
    · rw [if_pos w] at hQ
      exact go _ hQ
    · rw [if_neg w] at hQ
      exact go _ hQ
theorem zE_X12_piecesBy (as : List Value) (M : ab_M) (N : ab_N) (k : ab_R) (hT : zt_X12_piecesBy as M N k) : ab_cs as ≤ 9 ∧ zr_X12_piecesBy k 0 (ab_en as) [] M N := by
  obtain ⟨⟨s, t, a0, n⟩, r, rfl, ⟨rfl, hS, h7⟩, hk⟩ := hT
  dsimp only at hk ⊢
  have hk := hk _ _ _ ⟨rfl, rfl, rfl⟩
  unfold zPbX at hk
  have bad : ¬ zPbG s t n → k (some (.int (-2))) M N := fun b => by
    rw [if_neg b] at hk
    exact hk
  refine ⟨Nat.le_of_ble_eq_true rfl, zv_X12_piecesBy_0 _ _ _ _ ⟨fun c => bad (fun z => ab_b_0.mp c z.1), fun c => ⟨fun c2 => bad (fun z => ab_b_0.mp c2 z.2.1), fun c2 => ⟨fun c3 => bad (fun z => ab_b_0.mp c3 z.2.2), fun c3 => ?_⟩⟩⟩⟩
  have a1 : zQ4 s := zIx0 c
  have g : zPbG s t n := ⟨a1, zIx0 c2, zIx0 c3⟩
  rw [if_pos g] at hk
  obtain ⟨q, hq, rfl⟩ := zQ4_n a1
  obtain ⟨kn, hn, rfl⟩ := zIxM (n := 8) (by decide) (zIx0 c3)
  rw [nI_clamp (show q < 2 ^ 31 by omega), nI_clamp (show kn < 2 ^ 31 by omega)] at hk
  rw [nI_clamp (show q < 2 ^ 31 by omega)]
  refine ⟨nI_in_ hq, fun c4 => ?_, fun c4 => ⟨nI_in_ hq, fun c5 => ?_, fun c5 => ?_⟩⟩
  · rw [if_pos c4] at hk; exact hk
  · rw [if_neg c4, if_pos c5] at hk
    exact zL_X12_piecesBy hq hn kn 0 0 M (by omega) hS h7 hk
  · rw [if_neg c4, if_neg c5] at hk; exact hk
abbrev zR_X12_piecesBy : Room := { frames := 2, cells := 0, slots := 0, locals := 44 }
set_option maxRecDepth 20000 in
theorem zM_X12_piecesBy (l : Launch) : ab_Met l zw_M vwCl zZ_M yX12_piecesBy cX12_piecesBy 9 (some .int) zR_X12_piecesBy zt_X12_piecesBy := ab_ofRun (G := zg_X12_piecesBy) (P := zp_X12_piecesBy) rfl zo_X12_piecesBy (by decide +kernel) zl_cl zl_lamM zf_X12_ok ab_Tab_nil zc_X12_ok ab_Sta_nil (List.forall_mem_cons.mpr ⟨ab_callV zZ_M_ok (zM_X12_piece l) (ab_in 1197 (by decide +kernel) rfl) (ab_in 1532 (by decide +kernel) rfl) (ab_in 1195 (by decide +kernel) rfl) (ab_in 1196 (by decide +kernel) rfl) (ab_in 17 (by decide +kernel) rfl) (by unfold ab_yok; decide +kernel) ⟨rfl, rfl⟩ (by decide) zV_X12_piece, List.forall_mem_nil _⟩) (List.forall_mem_cons.mpr ⟨ab_callS zZ_M_ok (zM_X12_in l) (ab_in 1200 (by decide +kernel) rfl) (ab_in 1198 (by decide +kernel) rfl) (ab_in 1199 (by decide +kernel) rfl) (ab_in 17 (by decide +kernel) rfl) (by unfold ab_yok; decide +kernel) ⟨rfl, rfl⟩ (by decide), List.forall_mem_nil _⟩) zE_X12_piecesBy
