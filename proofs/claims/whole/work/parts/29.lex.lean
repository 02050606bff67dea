/-! the tokens of the tape *)
-/
def zRun (p : Int32 → Bool) (B : Nat → Int32) : Nat → Nat → Nat
  | 0, i => i
  | f + 1, i => if p (B i) = true then zRun p B f (i + 1) else i
theorem zRun_ge (p : Int32 → Bool) (B : Nat → Int32) : ∀ f i, i ≤ zRun p B f i
  | 0, i => Nat.le_refl _
  | f + 1, i => by
    unfold zRun
    split
    · exact Nat.le_trans (Nat.le_succ i) (zRun_ge p B f (i + 1))
    · exact Nat.le_refl _
theorem zRun_le (p : Int32 → Bool) (B : Nat → Int32) : ∀ f i, zRun p B f i ≤ i + f
  | 0, i => Nat.le_refl _
  | f + 1, i => by
    unfold zRun
    split
    · have := zRun_le p B f (i + 1); omega
    · omega
theorem zRun_go {p : Int32 → Bool} {B : Nat → Int32} {n i : Nat} (h : i < n) (hp : p (B i) = true) : zRun p B (n - i) i = zRun p B (n - (i + 1)) (i + 1) := by
  obtain ⟨d, rfl⟩ : ∃ d, n = i + 1 + d := ⟨n - (i + 1), by omega⟩
  rw [show i + 1 + d - i = d + 1 by omega, show i + 1 + d - (i + 1) = d by omega]
  show (if p (B i) = true then _ else _) = _
  rw [if_pos hp]
theorem zRun_st {p : Int32 → Bool} {B : Nat → Int32} {n i : Nat} (h : ¬ (i < n ∧ p (B i) = true)) : zRun p B (n - i) i = i := by
  by_cases hi : i < n
  · obtain ⟨d, rfl⟩ : ∃ d, n = i + 1 + d := ⟨n - (i + 1), by omega⟩
    rw [show i + 1 + d - i = d + 1 by omega]
    show (if p (B i) = true then _ else _) = _
    rw [if_neg (fun z => h ⟨hi, z⟩)]
  · rw [show n - i = 0 by omega]
    rfl
theorem zRun_lt {p : Int32 → Bool} {B : Nat → Int32} {n i : Nat} (hi : i ≤ n) : zRun p B (n - i) i ≤ n := by
  have := zRun_le p B (n - i) i
  omega
def zbS (b : Int32) : Bool := decide (b = 32 ∨ b = 10)
def zbL (b : Int32) : Bool := decide (97 ≤ b ∧ b ≤ 122)
def zbD (b : Int32) : Bool := decide (48 ≤ b ∧ b ≤ 57)
def zNumF (B : Nat → Int32) : Nat → Nat → Int32 → Int32
  | 0, _, a => a
  | f + 1, i, a => zNumF B f (i + 1) (a * 10 + B i - 48)
def zWt (B : Nat → Int32) (pl bh : Nat) : List Int32 → Int32 → Nat → Bool → Int32
  | [], _, _, _ => -2
  | c :: r, w, i, sm => if c = 32 then (if sm = true ∧ i = bh then w else zWt B pl bh r (w + 1) pl true) else zWt B pl bh r w (i + 1) (sm && decide (i < bh) && decide (B i = c))
def zs_W : List Int32 := zs_byt.getD 1 []
def zWd (B : Nat → Int32) (pl bh : Nat) : Int32 := zWt B pl bh zs_W 1 pl true
abbrev zTkT : Type := Int32 × Int32 × Nat × Nat
/-- the token from i on: what it is, its number, where it begins, what stands behind it -/
def zTk (B : Nat → Int32) (n i : Nat) : zTkT :=
  let pl := zRun zbS B (n - i) i
  let el := zRun zbL B (n - (pl + 1)) (pl + 1)
  let ed := zRun zbD B (n - (pl + 1)) (pl + 1)
  if n ≤ pl then (-1, 0, pl, pl + 1)
  else if zbL (B pl) = true then (zWd B pl el, 0, pl, el)
  else if zbD (B pl) = true then (if 4 < ed - pl then -2 else 0, zNumF B (ed - (pl + 1)) (pl + 1) (B pl - 48), pl, ed)
  else (if zSign (B pl) then B pl else -2, 0, pl, pl + 1)
theorem zAt_in (g : Nat → Int32) {n i : Nat} (hi : i < n) (hn : n ≤ 160) : (if 0 ≤ nI i ∧ nI i < nI n ∧ nI i < (160 : Int32) then g (nI i).toNatClampNeg else (-1 : Int32)) = g i := by
  rw [if_pos ⟨nI_pos' (by omega), nI_lt hi (by omega), nI_lt (a := i) (b := 160) (by omega) (by omega)⟩, nI_clamp (by omega)]
theorem zAt_out (g : Nat → Int32) {n i : Nat} (hi : n ≤ i) (h : i < 2 ^ 31) : (if 0 ≤ nI i ∧ nI i < nI n ∧ nI i < (160 : Int32) then g (nI i).toNatClampNeg else (-1 : Int32)) = -1 := by
  rw [if_neg (fun z => nI_nlt hi h z.2.1)]
theorem zbL_b {b : Int32} : ab_b (97 ≤ b ∧ b ≤ 122) = 0 ↔ ¬ zbL b = true := by
  rw [ab_b_0]; unfold zbL; simp only [decide_eq_true_eq]
theorem zbD_b {b : Int32} : ab_b (48 ≤ b ∧ b ≤ 57) = 0 ↔ ¬ zbD b = true := by
  rw [ab_b_0]; unfold zbD; simp only [decide_eq_true_eq]
theorem zbS_b {b : Int32} : zbS b = true ↔ b = 32 ∨ b = 10 := by
  unfold zbS; simp only [decide_eq_true_eq]
theorem zs_Wd : ∀ k, k < 57 → zs_W.drop k = zs_ch 1 k :: zs_W.drop (k + 1) := by decide +kernel
/-- a word -/
def zt_X8_wordToken : ab_T := ab_m0 4 (fun M _ => ∃ n pl bh : Nat, n ≤ 160 ∧ pl ≤ bh ∧ bh ≤ n ∧ M 4 2 = nI n ∧ M 4 5 = nI pl ∧ M 4 6 = nI bh) (fun M N o M2 N2 => M2 = M ∧ N2 = N ∧ o = some (.int (zWd (M 34) (M 4 5).toNatClampNeg (M 4 6).toNatClampNeg)))
theorem zt_X8_wordToken_mono : ab_mono zt_X8_wordToken := ab_m0_mono _ _ _
theorem zV_X8_wordToken : ab_recv zw_C vwCl RX8 zt_X8_wordToken := ab_m0_v rfl rfl
def zp_X8_wordToken : ab_P := [(0, .iconst 1, 1, [], [1]),
  (1, .istore_n 1, 2, [1], []),
  (2, .aload_n 0, 3, [0], []),
  (3, .getfield 40, 6, [], []),
  (6, .istore_n 2, 7, [2], []),
  (7, .iconst 1, 8, [], [1]),
  (8, .istore_n 3, 9, [3], []),
  (9, .iconst 0, 10, [], [0]),
  (10, .istore 4, 12, [], []),
  (12, .iload 4, 14, [], []),
  (14, .ldc 98, 16, [], []),
  (16, .invokevirtual 100, 19, [], []),
  (19, .if_icmp .ge 84, 22, [103], []),
  (22, .ldc 98, 24, [], []),
  (24, .iload 4, 26, [], []),
  (26, .invokevirtual 105, 29, [], []),
  (29, .bipush 32, 31, [], [32]),
  (31, .if_icmp .eq 42, 34, [73], []),
  (34, .iload_n 3, 35, [3], []),
  (35, .ifCond .eq 30, 38, [65], []),
  (38, .iload_n 2, 39, [2], []),
  (39, .aload_n 0, 40, [0], []),
  (40, .getfield 28, 43, [], []),
  (43, .if_icmp .ge 22, 46, [65], []),
  (46, .aload_n 0, 47, [0], []),
  (47, .iload_n 2, 48, [2], []),
  (48, .invokevirtual 78, 51, [], []),
  (51, .ldc 98, 53, [], []),
  (53, .iload 4, 55, [], []),
  (55, .invokevirtual 105, 58, [], []),
  (58, .if_icmp .ne 7, 61, [65], []),
  (61, .iconst 1, 62, [], [1]),
  (62, .goto 4, 65, [66], []),
  (65, .iconst 0, 66, [], [0]),
  (66, .istore_n 3, 67, [3], []),
  (67, .iinc 2 1, 70, [], [1]),
  (70, .goto 27, 73, [97], []),
  (73, .iload_n 3, 74, [3], []),
  (74, .ifCond .eq 13, 77, [87], []),
  (77, .iload_n 2, 78, [2], []),
  (78, .aload_n 0, 79, [0], []),
  (79, .getfield 28, 82, [], []),
  (82, .if_icmp .ne 5, 85, [87], []),
  (85, .iload_n 1, 86, [1], []),
  (86, .ireturn, 87, [], []),
  (87, .iinc 1 1, 90, [], [1]),
  (90, .aload_n 0, 91, [0], []),
  (91, .getfield 40, 94, [], []),
  (94, .istore_n 2, 95, [2], []),
  (95, .iconst 1, 96, [], [1]),
  (96, .istore_n 3, 97, [3], []),
  (97, .iinc 4 1, 100, [], [1]),
  (100, .goto (-88), 103, [12], []),
  (103, .bipush (-2), 105, [], [(-2)]),
  (105, .ireturn, 106, [], [])]
theorem zo_X8_wordToken : ab_ok cX8_wordToken zp_X8_wordToken = true := by decide +kernel
def zg_X8_wordToken : ab_G := (zw_C, zs_tab, zf_X8, zc_X8, [], [(78, 2, zt_X8_at), (100, 1, zt_J0_length_8abf5), (105, 2, zt_J0_charAt_5068e)], [])
theorem zm_X8_wordToken : ab_MG zg_X8_wordToken := ab_MGof (List.forall_mem_cons.mpr ⟨ab_pure_mono _, List.forall_mem_cons.mpr ⟨zt_J0_length_8abf5_mono, List.forall_mem_cons.mpr ⟨zt_J0_charAt_5068e_mono, List.forall_mem_nil _⟩⟩⟩) (List.forall_mem_nil _)
abbrev zr_X8_wordToken (Q : ab_R) : ab_K := ab_Run zg_X8_wordToken zp_X8_wordToken (some .int) 5 Q
set_option maxRecDepth 20000 in
theorem zv_X8_wordToken_0 {Q : ab_R} {M : ab_M} {N : ab_N}  (h : zr_X8_wordToken Q 12 [some (.ref 4), some (.int (1 : Int32)), some (.int (M 4 5)), some (.int (1 : Int32)), some (.int (0 : Int32))] [] M N) : zr_X8_wordToken Q 0 [some (.ref 4)] [] M N := ab_Run_s zm_X8_wordToken (sp := [(12, [true, true, true, true, true])]) 57 h
set_option maxRecDepth 20000 in
theorem zv_X8_wordToken_12 {Q : ab_R} {M : ab_M} {N : ab_N} (l1 : Int32) (l2 : Int32) (l3 : Int32) (l4 : Int32) (h : (True) ∧ (((Int32.ofNat 57) ≤ l4 → Q (some (.int (-2 : Int32))) M N) ∧ (¬ ((Int32.ofNat 57) ≤ l4) → (vp_in l4 57) ∧ (((zs_ch 1 l4.toNatClampNeg) = (32 : Int32) → (l3 = 0 → zr_X8_wordToken Q 12 [some (.ref 4), some (.int (l1 + (1 : Int32))), some (.int (M 4 5)), some (.int (1 : Int32)), some (.int (l4 + (1 : Int32)))] [] M N) ∧ (¬ (l3 = 0) → (l2 = (M 4 6) → Q (some (.int l1)) M N) ∧ (¬ (l2 = (M 4 6)) → zr_X8_wordToken Q 12 [some (.ref 4), some (.int (l1 + (1 : Int32))), some (.int (M 4 5)), some (.int (1 : Int32)), some (.int (l4 + (1 : Int32)))] [] M N))) ∧ (¬ ((zs_ch 1 l4.toNatClampNeg) = (32 : Int32)) → (l3 = 0 → zr_X8_wordToken Q 12 [some (.ref 4), some (.int l1), some (.int (l2 + (1 : Int32))), some (.int (0 : Int32)), some (.int (l4 + (1 : Int32)))] [] M N) ∧ (¬ (l3 = 0) → ((M 4 6) ≤ l2 → zr_X8_wordToken Q 12 [some (.ref 4), some (.int l1), some (.int (l2 + (1 : Int32))), some (.int (0 : Int32)), some (.int (l4 + (1 : Int32)))] [] M N) ∧ (¬ ((M 4 6) ≤ l2) → (vp_in l4 57) ∧ (((if 0 ≤ l2 ∧ l2 < (M 4) 2 ∧ l2 < 160 then (M 34) l2.toNatClampNeg else -1) = (zs_ch 1 l4.toNatClampNeg) → zr_X8_wordToken Q 12 [some (.ref 4), some (.int l1), some (.int (l2 + (1 : Int32))), some (.int (1 : Int32)), some (.int (l4 + (1 : Int32)))] [] M N) ∧ (¬ ((if 0 ≤ l2 ∧ l2 < (M 4) 2 ∧ l2 < 160 then (M 34) l2.toNatClampNeg else -1) = (zs_ch 1 l4.toNatClampNeg)) → zr_X8_wordToken Q 12 [some (.ref 4), some (.int l1), some (.int (l2 + (1 : Int32))), some (.int (0 : Int32)), some (.int (l4 + (1 : Int32)))] [] M N))))))))) : zr_X8_wordToken Q 12 [some (.ref 4), some (.int l1), some (.int l2), some (.int l3), some (.int l4)] [] M N := ab_Run_s zm_X8_wordToken (sp := [(12, [true, true, true, true, true])]) 57 h
theorem zL_X8_wordToken {Q : ab_R} {M : ab_M} {N : ab_N} (n pl bh : Nat) (hn : n ≤ 160) (h1 : pl ≤ bh) (h2 : bh ≤ n) (e2 : M 4 2 = nI n) (e5 : M 4 5 = nI pl) (e6 : M 4 6 = nI bh) (hq : Q (some (.int (zWd (M 34) pl bh))) M N) : ∀ (r k i : Nat) (w : Int32) (sm : Bool), k + r = 57 → i ≤ pl + k → zWt (M 34) pl bh (zs_W.drop k) w i sm = zWd (M 34) pl bh → zr_X8_wordToken Q 12 [some (.ref 4), some (.int w), some (.int (nI i)), some (.int (if sm = true then 1 else 0)), some (.int (nI k))] [] M N := by
  intro r
  induction r with
  | zero =>
    intro k i w sm hk hi hE
    have ek : k = 57 := by omega
    subst ek
    have e0 : zs_W.drop 57 = [] := by decide +kernel
    rw [e0] at hE
    refine zv_X8_wordToken_12 _ _ _ _ ⟨trivial, fun _ => ?_, fun c => absurd (show nI 57 ≤ nI 57 from nI_le (by omega) (by omega)) c⟩
    rw [← hE] at hq
    exact hq
  | succ r ih =>
    intro k i w sm hk hi hE
    rw [zs_Wd k (by omega)] at hE
    have nk : ¬ (Int32.ofNat 57) ≤ nI k := show ¬ nI 57 ≤ nI k from nI_ge (by omega) (by omega)
    have ink : vp_in (nI k) 57 := nI_in_ (by omega)
    refine zv_X8_wordToken_12 _ _ _ _ ⟨trivial, fun c => absurd c nk, fun _ => ⟨ink, ?_⟩⟩
    rw [nI_clamp (show k < 2 ^ 31 by omega), e2, e5, e6]
    refine ⟨fun c => ?_, fun c => ?_⟩
    · have hE2 : (if sm = true ∧ i = bh then w else zWt (M 34) pl bh (zs_W.drop (k + 1)) (w + 1) pl true) = zWd (M 34) pl bh := by
        rw [zWt, if_pos c] at hE
        exact hE
      refine ⟨fun c2 => ?_, fun c2 => ⟨fun c3 => ?_, fun c3 => ?_⟩⟩
      · have hs : ¬ sm = true := fun z => by rw [if_pos z] at c2; exact absurd c2 (by decide)
        rw [if_neg (fun z => hs z.1)] at hE2
        rw [nI_1]
        exact ih (k + 1) pl (w + 1) true (by omega) (by omega) hE2
      · have hs : sm = true := Decidable.byContradiction fun z => c2 (by rw [if_neg z])
        have e3 : i = bh := (nI_eq (by omega) (by omega)).mp c3
        rw [if_pos ⟨hs, e3⟩] at hE2
        rw [hE2]
        exact hq
      · rw [if_neg (fun z => c3 (by rw [z.2]))] at hE2
        rw [nI_1]
        exact ih (k + 1) pl (w + 1) true (by omega) (by omega) hE2
    · have hE2 : zWt (M 34) pl bh (zs_W.drop (k + 1)) w (i + 1) (sm && decide (i < bh) && decide (M 34 i = zs_ch 1 k)) = zWd (M 34) pl bh := by
        rw [zWt, if_neg c] at hE
        exact hE
      have fin : ∀ b : Bool, (sm && decide (i < bh) && decide (M 34 i = zs_ch 1 k)) = b → zr_X8_wordToken Q 12 [some (.ref 4), some (.int w), some (.int (nI i + 1)), some (.int (if b = true then 1 else 0)), some (.int (nI k + 1))] [] M N := fun b eb => by
        rw [nI_1, nI_1]
        rw [eb] at hE2
        exact ih (k + 1) (i + 1) w b (by omega) (by omega) hE2
      refine ⟨fun c2 => fin false ?_, fun c2 => ⟨fun c3 => fin false ?_, fun c3 => ⟨ink, ?_⟩⟩⟩
      · have hs : ¬ sm = true := fun z => by rw [if_pos z] at c2; exact absurd c2 (by decide)
        simp [hs]
      · have : ¬ i < bh := fun z => nI_ge z (by omega) c3
        simp [this]
      · have hs : sm = true := Decidable.byContradiction fun z => c2 (by rw [if_neg z])
        have hib : i < bh := Nat.not_le.mp fun z => c3 (nI_le z (by omega))
        rw [zAt_in (M 34) (show i < n by omega) hn]
        exact ⟨fun c4 => fin true (by simp [hs, hib, c4]), fun c4 => fin false (by simp [c4])⟩
theorem zE_X8_wordToken (as : List Value) (M : ab_M) (N : ab_N) (k : ab_R) (hT : zt_X8_wordToken as M N k) : ab_cs as ≤ 5 ∧ zr_X8_wordToken k 0 (ab_en as) [] M N := by
  obtain ⟨rfl, ⟨n, pl, bh, hn, h1, h2, e2, e5, e6⟩, hk⟩ := ab_m0_e hT
  refine ⟨Nat.le_of_ble_eq_true rfl, zv_X8_wordToken_0 ?_⟩
  rw [e5]
  refine zL_X8_wordToken n pl bh hn h1 h2 e2 e5 e6 (hk _ _ _ ⟨rfl, rfl, ?_⟩) 57 0 pl 1 true (by omega) (by omega) rfl
  rw [e5, e6, nI_clamp (by omega), nI_clamp (by omega)]
abbrev zR_X8_wordToken : Room := { frames := 4, cells := 0, slots := 0, locals := 85 }
set_option maxRecDepth 20000 in
theorem zM_X8_wordToken (l : Launch) : ab_Met l zw_C vwCl zZ_C yX8_wordToken cX8_wordToken 5 (some .int) zR_X8_wordToken zt_X8_wordToken := ab_ofRun (G := zg_X8_wordToken) (P := zp_X8_wordToken) rfl zo_X8_wordToken (by decide +kernel) zl_cl zl_lamC zf_X8_ok zs_tabOK zc_X8_ok ab_Sta_nil (List.forall_mem_cons.mpr ⟨ab_callV zZ_C_ok (zM_X8_at l) (ab_in 444 (by decide +kernel) rfl) (ab_in 441 (by decide +kernel) rfl) (ab_in 443 (by decide +kernel) rfl) (ab_inS (List.mem_of_getElem? (i := 1) (by decide +kernel)) rfl) (ab_in 5 (by decide +kernel) rfl) (by unfold ab_yok; decide +kernel) ⟨rfl, rfl⟩ (by decide) zV_X8_at, List.forall_mem_cons.mpr ⟨ab_callT (zM_J0_length_8abf5 l) rfl (ab_in 384 (by decide +kernel) rfl) (ab_in 453 (by decide +kernel) rfl) (ab_in 382 (by decide +kernel) rfl) (ab_in 383 (by decide +kernel) rfl) (ab_in 13 (by decide +kernel) rfl) (by unfold ab_yok; decide +kernel) ⟨rfl, rfl⟩ (by decide) zV_J0_length_8abf5, List.forall_mem_cons.mpr ⟨ab_callT (zM_J0_charAt_5068e l) rfl (ab_in 394 (by decide +kernel) rfl) (ab_in 454 (by decide +kernel) rfl) (ab_in 392 (by decide +kernel) rfl) (ab_in 393 (by decide +kernel) rfl) (ab_in 13 (by decide +kernel) rfl) (by unfold ab_yok; decide +kernel) ⟨rfl, rfl⟩ (by decide) zV_J0_charAt_5068e, List.forall_mem_nil _⟩⟩⟩) (List.forall_mem_nil _) zE_X8_wordToken
/-- a number -/
def zt_X8_numberToken : ab_T := ab_m0 4 (fun M _ => ∃ n pl : Nat, n ≤ 160 ∧ pl < n ∧ M 4 2 = nI n ∧ M 4 5 = nI pl ∧ M 4 6 = nI (pl + 1))
  (fun M N o M2 N2 => N2 = N ∧ ∃ f : Nat → Int32, M2 = ab_u M 4 f ∧ f 2 = M 4 2 ∧ f 7 = M 4 7 ∧ ∀ n pl : Nat, n ≤ 160 → pl < n → M 4 2 = nI n → M 4 5 = nI pl → f 5 = nI pl ∧ f 6 = nI (zRun zbD (M 34) (n - (pl + 1)) (pl + 1)) ∧ f 4 = zNumF (M 34) (zRun zbD (M 34) (n - (pl + 1)) (pl + 1) - (pl + 1)) (pl + 1) (M 34 pl - 48) ∧ o = some (.int (if 4 < zRun zbD (M 34) (n - (pl + 1)) (pl + 1) - pl then -2 else 0)))
theorem zt_X8_numberToken_mono : ab_mono zt_X8_numberToken := ab_m0_mono _ _ _
theorem zV_X8_numberToken : ab_recv zw_C vwCl RX8 zt_X8_numberToken := ab_m0_v rfl rfl
def zp_X8_numberToken : ab_P := [(0, .aload_n 0, 1, [0], []),
  (1, .aload_n 0, 2, [0], []),
  (2, .aload_n 0, 3, [0], []),
  (3, .getfield 40, 6, [], []),
  (6, .invokevirtual 78, 9, [], []),
  (9, .bipush 48, 11, [], [48]),
  (11, .isub, 12, [], []),
  (12, .putfield 72, 15, [], []),
  (15, .aload_n 0, 16, [0], []),
  (16, .getfield 28, 19, [], []),
  (19, .aload_n 0, 20, [0], []),
  (20, .getfield 15, 23, [], []),
  (23, .if_icmp .ge 53, 26, [76], []),
  (26, .aload_n 0, 27, [0], []),
  (27, .aload_n 0, 28, [0], []),
  (28, .getfield 28, 31, [], []),
  (31, .invokevirtual 78, 34, [], []),
  (34, .invokestatic 89, 37, [], []),
  (37, .ifCond .eq 39, 40, [76], []),
  (40, .aload_n 0, 41, [0], []),
  (41, .aload_n 0, 42, [0], []),
  (42, .getfield 72, 45, [], []),
  (45, .bipush 10, 47, [], [10]),
  (47, .imul, 48, [], []),
  (48, .aload_n 0, 49, [0], []),
  (49, .aload_n 0, 50, [0], []),
  (50, .getfield 28, 53, [], []),
  (53, .invokevirtual 78, 56, [], []),
  (56, .iadd, 57, [], []),
  (57, .bipush 48, 59, [], [48]),
  (59, .isub, 60, [], []),
  (60, .putfield 72, 63, [], []),
  (63, .aload_n 0, 64, [0], []),
  (64, .dup, 65, [], []),
  (65, .getfield 28, 68, [], []),
  (68, .iconst 1, 69, [], [1]),
  (69, .iadd, 70, [], []),
  (70, .putfield 28, 73, [], []),
  (73, .goto (-58), 76, [15], []),
  (76, .aload_n 0, 77, [0], []),
  (77, .getfield 28, 80, [], []),
  (80, .aload_n 0, 81, [0], []),
  (81, .getfield 40, 84, [], []),
  (84, .isub, 85, [], []),
  (85, .iconst 4, 86, [], [4]),
  (86, .if_icmp .le 8, 89, [94], []),
  (89, .bipush (-2), 91, [], [(-2)]),
  (91, .goto 4, 94, [95], []),
  (94, .iconst 0, 95, [], [0]),
  (95, .ireturn, 96, [], [])]
theorem zo_X8_numberToken : ab_ok cX8_numberToken zp_X8_numberToken = true := by decide +kernel
def zg_X8_numberToken : ab_G := (zw_C, zs_tab, zf_X8, zc_X8, [], [(78, 2, zt_X8_at)], [(89, 1, zt_X8_isDigit)])
theorem zm_X8_numberToken : ab_MG zg_X8_numberToken := ab_MGof (List.forall_mem_cons.mpr ⟨ab_pure_mono _, List.forall_mem_nil _⟩) (List.forall_mem_cons.mpr ⟨ab_pure_mono _, List.forall_mem_nil _⟩)
abbrev zr_X8_numberToken (Q : ab_R) : ab_K := ab_Run zg_X8_numberToken zp_X8_numberToken (some .int) 1 Q
set_option maxRecDepth 20000 in
theorem zv_X8_numberToken_0 {Q : ab_R} {M : ab_M} {N : ab_N}  (h : let z1 : Nat → Int32 := upd (M 4) 4 ((if 0 ≤ (M 4 5) ∧ (M 4 5) < (M 4) 2 ∧ (M 4 5) < 160 then (M 34) (M 4 5).toNatClampNeg else -1) - (48 : Int32)); zr_X8_numberToken Q 15 [some (.ref 4)] [] (ab_u M 4 z1) N) : zr_X8_numberToken Q 0 [some (.ref 4)] [] M N := ab_Run_s zm_X8_numberToken (sp := [(15, [true]), (76, [true])]) 52 h
set_option maxRecDepth 20000 in
theorem zv_X8_numberToken_15 {Q : ab_R} {M : ab_M} {N : ab_N}  (h : ((M 4 2) ≤ (M 4 6) → zr_X8_numberToken Q 76 [some (.ref 4)] [] M N) ∧ (¬ ((M 4 2) ≤ (M 4 6)) → ((ab_b (48 ≤ (if 0 ≤ (M 4 6) ∧ (M 4 6) < (M 4) 2 ∧ (M 4 6) < 160 then (M 34) (M 4 6).toNatClampNeg else -1) ∧ (if 0 ≤ (M 4 6) ∧ (M 4 6) < (M 4) 2 ∧ (M 4 6) < 160 then (M 34) (M 4 6).toNatClampNeg else -1) ≤ 57)) = 0 → zr_X8_numberToken Q 76 [some (.ref 4)] [] M N) ∧ (¬ ((ab_b (48 ≤ (if 0 ≤ (M 4 6) ∧ (M 4 6) < (M 4) 2 ∧ (M 4 6) < 160 then (M 34) (M 4 6).toNatClampNeg else -1) ∧ (if 0 ≤ (M 4 6) ∧ (M 4 6) < (M 4) 2 ∧ (M 4 6) < 160 then (M 34) (M 4 6).toNatClampNeg else -1) ≤ 57)) = 0) → let z1 : Nat → Int32 := upd (M 4) 4 ((((M 4 4) * (10 : Int32)) + (if 0 ≤ (M 4 6) ∧ (M 4 6) < (M 4) 2 ∧ (M 4 6) < 160 then (M 34) (M 4 6).toNatClampNeg else -1)) - (48 : Int32)); let z2 : Nat → Int32 := upd (z1) 6 ((z1 6) + (1 : Int32)); zr_X8_numberToken Q 15 [some (.ref 4)] [] (ab_u (ab_u M 4 z1) 4 z2) N))) : zr_X8_numberToken Q 15 [some (.ref 4)] [] M N := ab_Run_s zm_X8_numberToken (sp := [(15, [true]), (76, [true])]) 52 h
set_option maxRecDepth 20000 in
theorem zv_X8_numberToken_76 {Q : ab_R} {M : ab_M} {N : ab_N}  (h : (((M 4 6) - (M 4 5)) ≤ (4 : Int32) → Q (some (.int (0 : Int32))) M N) ∧ (¬ (((M 4 6) - (M 4 5)) ≤ (4 : Int32)) → Q (some (.int (-2 : Int32))) M N)) : zr_X8_numberToken Q 76 [some (.ref 4)] [] M N := ab_Run_s zm_X8_numberToken (sp := [(15, [true]), (76, [true])]) 52 h
theorem zL_X8_numberToken {Q : ab_R} {M : ab_M} {N : ab_N} (n pl e : Nat) (num : Int32) (hn : n ≤ 160) (hp : pl < e) (he : e ≤ n) (hq : ∀ f : Nat → Int32, f 2 = M 4 2 → f 7 = M 4 7 → f 5 = nI pl → f 6 = nI e → f 4 = num → Q (some (.int (if 4 < e - pl then -2 else 0))) (ab_u M 4 f) N) (e2 : M 4 2 = nI n) : ∀ (r i : Nat) (a : Int32) (f : Nat → Int32), i + r = n → pl < i → f 2 = M 4 2 → f 7 = M 4 7 → f 5 = nI pl → f 6 = nI i → f 4 = a → zRun zbD (M 34) (n - i) i = e → zNumF (M 34) (e - i) i a = num → zr_X8_numberToken Q 15 [some (.ref 4)] [] (ab_u M 4 f) N := by
  intro r
  have stop : ∀ (f : Nat → Int32), f 2 = M 4 2 → f 7 = M 4 7 → f 5 = nI pl → f 6 = nI e → f 4 = num → zr_X8_numberToken Q 76 [some (.ref 4)] [] (ab_u M 4 f) N := by
    intro f f2 f7 f5 f6 f4
    have h0 := hq f f2 f7 f5 f6 f4
    refine zv_X8_numberToken_76 ?_
    rw [ab_u_eq, f5, f6, pk_sub (by omega)]
    refine ⟨fun c => ?_, fun c => ?_⟩
    · rw [if_neg (show ¬ 4 < e - pl from fun z => nI_ge (a := 4) (b := e - pl) z (by omega) c)] at h0
      exact h0
    · rw [if_pos (show 4 < e - pl from Nat.not_le.mp fun z => c (nI_le (a := e - pl) (b := 4) z (by omega)))] at h0
      exact h0
  induction r with
  | zero =>
    intro i a f hi hpi f2 f7 f5 f6 f4 hr hnum
    have : e = i := by
      rw [← hr, show n - i = 0 by omega]
      rfl
    subst this
    refine zv_X8_numberToken_15 ⟨fun _ => stop f f2 f7 f5 f6 (by rw [f4, ← hnum, Nat.sub_self]; rfl), fun c => absurd ?_ c⟩
    rw [ab_u_eq, f2, f6, e2]
    exact nI_le (by omega) (by omega)
  | succ r ih =>
    intro i a f hi hpi f2 f7 f5 f6 f4 hr hnum
    refine zv_X8_numberToken_15 ?_
    rw [ab_u_eq, f6, f2, e2, ab_u_ne _ _ (show (34 : Nat) ≠ 4 by decide), zAt_in (M 34) (show i < n by omega) hn]
    refine ⟨fun c => absurd c (nI_ge (by omega) (by omega)), fun _ => ⟨fun c => ?_, fun c => ?_⟩⟩
    · have hd := zbD_b.mp c
      have : e = i := by rw [← hr, zRun_st (fun z => hd z.2)]
      subst this
      exact stop f f2 f7 f5 f6 (by rw [f4, ← hnum, Nat.sub_self]; rfl)
    · have hd : zbD (M 34 i) = true := Decidable.byContradiction fun z => c (zbD_b.mpr z)
      rw [zRun_go (by omega) hd] at hr
      have hie : i < e := by have := zRun_ge zbD (M 34) (n - (i + 1)) (i + 1); omega
      intro z1 z2
      rw [ab_u_u, ab_u_u]
      refine ih (i + 1) (a * 10 + M 34 i - 48) _ (by omega) (by omega) ?_ ?_ ?_ ?_ ?_ hr ?_
      · simp [z2, z1, upd, f2]
      · simp [z2, z1, upd, f7]
      · simp [z2, z1, upd, f5]
      · simp [z2, z1, upd, f6, nI_1]
      · simp [z2, z1, upd, f4]
      · rw [show e - i = (e - (i + 1)) + 1 by omega] at hnum
        exact hnum
theorem zE_X8_numberToken (as : List Value) (M : ab_M) (N : ab_N) (k : ab_R) (hT : zt_X8_numberToken as M N k) : ab_cs as ≤ 1 ∧ zr_X8_numberToken k 0 (ab_en as) [] M N := by
  obtain ⟨rfl, ⟨n, pl, hn, h1, e2, e5, e6⟩, hk⟩ := ab_m0_e hT
  refine ⟨Nat.le_of_ble_eq_true rfl, zv_X8_numberToken_0 ?_⟩
  rw [e5, e2, zAt_in (M 34) h1 hn]
  have g1 := zRun_ge zbD (M 34) (n - (pl + 1)) (pl + 1)
  have g2 : zRun zbD (M 34) (n - (pl + 1)) (pl + 1) ≤ n := zRun_lt (by omega)
  refine zL_X8_numberToken n pl _ _ hn (by omega) g2 (fun f f2 f7 f5 f6 f4 => hk _ _ _ ⟨rfl, f, rfl, f2, f7, fun n' pl' hn' hp' en ep => ?_⟩) e2 (n - (pl + 1)) (pl + 1) (M 34 pl - 48) _ (by omega) (by omega) ?_ ?_ ?_ ?_ ?_ rfl rfl
  · have a1 : n' = n := (nI_eq (by omega) (by omega)).mp (en.symm.trans e2)
    have a2 : pl' = pl := (nI_eq (by omega) (by omega)).mp (ep.symm.trans e5)
    subst a1
    subst a2
    exact ⟨f5, f6, f4, rfl⟩
  · rw [upd_ne _ _ (by decide)]
  · rw [upd_ne _ _ (by decide)]
  · rw [upd_ne _ _ (by decide), e5]
  · rw [upd_ne _ _ (by decide), e6]
  · rw [upd_eq]
abbrev zR_X8_numberToken : Room := { frames := 1, cells := 0, slots := 0, locals := 21 }
set_option maxRecDepth 20000 in
theorem zM_X8_numberToken (l : Launch) : ab_Met l zw_C vwCl zZ_C yX8_numberToken cX8_numberToken 1 (some .int) zR_X8_numberToken zt_X8_numberToken := ab_ofRun (G := zg_X8_numberToken) (P := zp_X8_numberToken) rfl zo_X8_numberToken (by decide +kernel) zl_cl zl_lamC zf_X8_ok zs_tabOK zc_X8_ok ab_Sta_nil (List.forall_mem_cons.mpr ⟨ab_callV zZ_C_ok (zM_X8_at l) (ab_in 444 (by decide +kernel) rfl) (ab_in 441 (by decide +kernel) rfl) (ab_in 443 (by decide +kernel) rfl) (ab_inS (List.mem_of_getElem? (i := 1) (by decide +kernel)) rfl) (ab_in 5 (by decide +kernel) rfl) (by unfold ab_yok; decide +kernel) ⟨rfl, rfl⟩ (by decide) zV_X8_at, List.forall_mem_nil _⟩) (List.forall_mem_cons.mpr ⟨ab_callS zZ_C_ok (zM_X8_isDigit l) (ab_in 457 (by decide +kernel) rfl) (ab_in 455 (by decide +kernel) rfl) (ab_in 456 (by decide +kernel) rfl) (ab_in 5 (by decide +kernel) rfl) (by unfold ab_yok; decide +kernel) ⟨rfl, rfl⟩ (by decide), List.forall_mem_nil _⟩) zE_X8_numberToken
/-- the tape: so many bytes -/
def zTp (M : ab_M) (n : Nat) : Prop := n ≤ 160 ∧ M 4 2 = nI n ∧ ∀ j, j < n → 0 ≤ M 34 j
/-- what stands read -/
def zLa (f B : Nat → Int32) (n i : Nat) : Prop := f 3 = (zTk B n i).1 ∧ ((zTk B n i).1 = 0 → f 4 = (zTk B n i).2.1) ∧ f 5 = nI (zTk B n i).2.2.1 ∧ f 6 = nI (zTk B n i).2.2.2
def zt_X8_advance : ab_T := ab_m0 4 (fun M _ => ∃ n i : Nat, zTp M n ∧ i ≤ n ∧ M 4 6 = nI i)
  (fun M N o M2 N2 => o = none ∧ N2 = N ∧ ∃ f : Nat → Int32, M2 = ab_u M 4 f ∧ f 2 = M 4 2 ∧ f 7 = M 4 7 ∧ ∀ n i : Nat, n ≤ 160 → i ≤ n → M 4 2 = nI n → M 4 6 = nI i → zLa f (M 34) n i)
theorem zt_X8_advance_mono : ab_mono zt_X8_advance := ab_m0_mono _ _ _
theorem zV_X8_advance : ab_recv zw_C vwCl RX8 zt_X8_advance := ab_m0_v rfl rfl
def zp_X8_advance : ab_P := [(0, .aload_n 0, 1, [0], []),
  (1, .aload_n 0, 2, [0], []),
  (2, .getfield 28, 5, [], []),
  (5, .putfield 40, 8, [], []),
  (8, .aload_n 0, 9, [0], []),
  (9, .getfield 40, 12, [], []),
  (12, .aload_n 0, 13, [0], []),
  (13, .getfield 15, 16, [], []),
  (16, .if_icmp .ge 42, 19, [58], []),
  (19, .aload_n 0, 20, [0], []),
  (20, .aload_n 0, 21, [0], []),
  (21, .getfield 40, 24, [], []),
  (24, .invokevirtual 78, 27, [], []),
  (27, .bipush 32, 29, [], [32]),
  (29, .if_icmp .eq 16, 32, [45], []),
  (32, .aload_n 0, 33, [0], []),
  (33, .aload_n 0, 34, [0], []),
  (34, .getfield 40, 37, [], []),
  (37, .invokevirtual 78, 40, [], []),
  (40, .bipush 10, 42, [], [10]),
  (42, .if_icmp .ne 16, 45, [58], []),
  (45, .aload_n 0, 46, [0], []),
  (46, .dup, 47, [], []),
  (47, .getfield 40, 50, [], []),
  (50, .iconst 1, 51, [], [1]),
  (51, .iadd, 52, [], []),
  (52, .putfield 40, 55, [], []),
  (55, .goto (-47), 58, [8], []),
  (58, .aload_n 0, 59, [0], []),
  (59, .aload_n 0, 60, [0], []),
  (60, .getfield 40, 63, [], []),
  (63, .iconst 1, 64, [], [1]),
  (64, .iadd, 65, [], []),
  (65, .putfield 28, 68, [], []),
  (68, .aload_n 0, 69, [0], []),
  (69, .aload_n 0, 70, [0], []),
  (70, .getfield 40, 73, [], []),
  (73, .invokevirtual 78, 76, [], []),
  (76, .istore_n 1, 77, [1], []),
  (77, .iload_n 1, 78, [1], []),
  (78, .invokestatic 82, 81, [], []),
  (81, .ifCond .eq 52, 84, [133], []),
  (84, .aload_n 0, 85, [0], []),
  (85, .getfield 28, 88, [], []),
  (88, .aload_n 0, 89, [0], []),
  (89, .getfield 15, 92, [], []),
  (92, .if_icmp .ge 30, 95, [122], []),
  (95, .aload_n 0, 96, [0], []),
  (96, .aload_n 0, 97, [0], []),
  (97, .getfield 28, 100, [], []),
  (100, .invokevirtual 78, 103, [], []),
  (103, .invokestatic 82, 106, [], []),
  (106, .ifCond .eq 16, 109, [122], []),
  (109, .aload_n 0, 110, [0], []),
  (110, .dup, 111, [], []),
  (111, .getfield 28, 114, [], []),
  (114, .iconst 1, 115, [], [1]),
  (115, .iadd, 116, [], []),
  (116, .putfield 28, 119, [], []),
  (119, .goto (-35), 122, [84], []),
  (122, .aload_n 0, 123, [0], []),
  (123, .aload_n 0, 124, [0], []),
  (124, .invokevirtual 85, 127, [], []),
  (127, .putfield 37, 130, [], []),
  (130, .goto 46, 133, [176], []),
  (133, .iload_n 1, 134, [1], []),
  (134, .invokestatic 89, 137, [], []),
  (137, .ifCond .eq 14, 140, [151], []),
  (140, .aload_n 0, 141, [0], []),
  (141, .aload_n 0, 142, [0], []),
  (142, .invokevirtual 92, 145, [], []),
  (145, .putfield 37, 148, [], []),
  (148, .goto 28, 151, [176], []),
  (151, .aload_n 0, 152, [0], []),
  (152, .iload_n 1, 153, [1], []),
  (153, .ifCond .ge 7, 156, [160], []),
  (156, .iconst (-1), 157, [], [(-1)]),
  (157, .goto 16, 160, [173], []),
  (160, .iload_n 1, 161, [1], []),
  (161, .invokestatic 95, 164, [], []),
  (164, .ifCond .eq 7, 167, [171], []),
  (167, .iload_n 1, 168, [1], []),
  (168, .goto 5, 171, [173], []),
  (171, .bipush (-2), 173, [], [(-2)]),
  (173, .putfield 37, 176, [], []),
  (176, .return_, 177, [], [])]
theorem zo_X8_advance : ab_ok cX8_advance zp_X8_advance = true := by decide +kernel
def zg_X8_advance : ab_G := (zw_C, zs_tab, zf_X8, zc_X8, [], [(78, 2, zt_X8_at), (85, 1, zt_X8_wordToken), (92, 1, zt_X8_numberToken)], [(82, 1, zt_X8_isLetter), (89, 1, zt_X8_isDigit), (95, 1, zt_X8_isSign)])
theorem zm_X8_advance : ab_MG zg_X8_advance := ab_MGof (List.forall_mem_cons.mpr ⟨ab_pure_mono _, List.forall_mem_cons.mpr ⟨zt_X8_wordToken_mono, List.forall_mem_cons.mpr ⟨zt_X8_numberToken_mono, List.forall_mem_nil _⟩⟩⟩) (List.forall_mem_cons.mpr ⟨ab_pure_mono _, List.forall_mem_cons.mpr ⟨ab_pure_mono _, List.forall_mem_cons.mpr ⟨ab_pure_mono _, List.forall_mem_nil _⟩⟩⟩)
abbrev zr_X8_advance (Q : ab_R) : ab_K := ab_Run zg_X8_advance zp_X8_advance none 2 Q
set_option maxRecDepth 20000 in
theorem zv_X8_advance_0 {Q : ab_R} {M : ab_M} {N : ab_N}  (h : let z1 : Nat → Int32 := upd (M 4) 5 (M 4 6); zr_X8_advance Q 8 [some (.ref 4), none] [] (ab_u M 4 z1) N) : zr_X8_advance Q 0 [some (.ref 4)] [] M N := ab_Run_s zm_X8_advance (sp := [(8, [true, false]), (58, [true, false]), (84, [true, false]), (127, [false, false]), (145, [false, false])]) 88 h
set_option maxRecDepth 20000 in
theorem zv_X8_advance_8 {Q : ab_R} {M : ab_M} {N : ab_N}  (h : ((M 4 2) ≤ (M 4 5) → zr_X8_advance Q 58 [some (.ref 4), none] [] M N) ∧ (¬ ((M 4 2) ≤ (M 4 5)) → ((if 0 ≤ (M 4 5) ∧ (M 4 5) < (M 4) 2 ∧ (M 4 5) < 160 then (M 34) (M 4 5).toNatClampNeg else -1) = (32 : Int32) → let z1 : Nat → Int32 := upd (M 4) 5 ((M 4 5) + (1 : Int32)); zr_X8_advance Q 8 [some (.ref 4), none] [] (ab_u M 4 z1) N) ∧ (¬ ((if 0 ≤ (M 4 5) ∧ (M 4 5) < (M 4) 2 ∧ (M 4 5) < 160 then (M 34) (M 4 5).toNatClampNeg else -1) = (32 : Int32)) → ((if 0 ≤ (M 4 5) ∧ (M 4 5) < (M 4) 2 ∧ (M 4 5) < 160 then (M 34) (M 4 5).toNatClampNeg else -1) = (10 : Int32) → let z2 : Nat → Int32 := upd (M 4) 5 ((M 4 5) + (1 : Int32)); zr_X8_advance Q 8 [some (.ref 4), none] [] (ab_u M 4 z2) N) ∧ (¬ ((if 0 ≤ (M 4 5) ∧ (M 4 5) < (M 4) 2 ∧ (M 4 5) < 160 then (M 34) (M 4 5).toNatClampNeg else -1) = (10 : Int32)) → zr_X8_advance Q 58 [some (.ref 4), none] [] M N)))) : zr_X8_advance Q 8 [some (.ref 4), none] [] M N := ab_Run_s zm_X8_advance (sp := [(8, [true, false]), (58, [true, false]), (84, [true, false]), (127, [false, false]), (145, [false, false])]) 88 h
set_option maxRecDepth 20000 in
theorem zv_X8_advance_58 {Q : ab_R} {M : ab_M} {N : ab_N}  (h : let z1 : Nat → Int32 := upd (M 4) 6 ((M 4 5) + (1 : Int32)); ((ab_b (97 ≤ (if 0 ≤ (z1 5) ∧ (z1 5) < z1 2 ∧ (z1 5) < 160 then (M 34) (z1 5).toNatClampNeg else -1) ∧ (if 0 ≤ (z1 5) ∧ (z1 5) < z1 2 ∧ (z1 5) < 160 then (M 34) (z1 5).toNatClampNeg else -1) ≤ 122)) = 0 → ((ab_b (48 ≤ (if 0 ≤ (z1 5) ∧ (z1 5) < z1 2 ∧ (z1 5) < 160 then (M 34) (z1 5).toNatClampNeg else -1) ∧ (if 0 ≤ (z1 5) ∧ (z1 5) < z1 2 ∧ (z1 5) < 160 then (M 34) (z1 5).toNatClampNeg else -1) ≤ 57)) = 0 → (0 ≤ (if 0 ≤ (z1 5) ∧ (z1 5) < z1 2 ∧ (z1 5) < 160 then (M 34) (z1 5).toNatClampNeg else -1) → ((ab_b (zSign (if 0 ≤ (z1 5) ∧ (z1 5) < z1 2 ∧ (z1 5) < 160 then (M 34) (z1 5).toNatClampNeg else -1))) = 0 → let z2 : Nat → Int32 := upd (z1) 3 (-2 : Int32); Q none (ab_u (ab_u M 4 z1) 4 z2) N) ∧ (¬ ((ab_b (zSign (if 0 ≤ (z1 5) ∧ (z1 5) < z1 2 ∧ (z1 5) < 160 then (M 34) (z1 5).toNatClampNeg else -1))) = 0) → let z3 : Nat → Int32 := upd (z1) 3 (if 0 ≤ (z1 5) ∧ (z1 5) < z1 2 ∧ (z1 5) < 160 then (M 34) (z1 5).toNatClampNeg else -1); Q none (ab_u (ab_u M 4 z1) 4 z3) N)) ∧ (¬ (0 ≤ (if 0 ≤ (z1 5) ∧ (z1 5) < z1 2 ∧ (z1 5) < 160 then (M 34) (z1 5).toNatClampNeg else -1)) → let z4 : Nat → Int32 := upd (z1) 3 (-1 : Int32); Q none (ab_u (ab_u M 4 z1) 4 z4) N)) ∧ (¬ ((ab_b (48 ≤ (if 0 ≤ (z1 5) ∧ (z1 5) < z1 2 ∧ (z1 5) < 160 then (M 34) (z1 5).toNatClampNeg else -1) ∧ (if 0 ≤ (z1 5) ∧ (z1 5) < z1 2 ∧ (z1 5) < 160 then (M 34) (z1 5).toNatClampNeg else -1) ≤ 57)) = 0) → zt_X8_numberToken [.ref 4] (ab_u M 4 z1) N (fun r M2 N2 => zr_X8_advance Q 145 [none, none] (ab_ol r [.ref 4]) M2 N2))) ∧ (¬ ((ab_b (97 ≤ (if 0 ≤ (z1 5) ∧ (z1 5) < z1 2 ∧ (z1 5) < 160 then (M 34) (z1 5).toNatClampNeg else -1) ∧ (if 0 ≤ (z1 5) ∧ (z1 5) < z1 2 ∧ (z1 5) < 160 then (M 34) (z1 5).toNatClampNeg else -1) ≤ 122)) = 0) → zr_X8_advance Q 84 [some (.ref 4), none] [] (ab_u M 4 z1) N)) : zr_X8_advance Q 58 [some (.ref 4), none] [] M N := ab_Run_s zm_X8_advance (sp := [(8, [true, false]), (58, [true, false]), (84, [true, false]), (127, [false, false]), (145, [false, false])]) 88 h
set_option maxRecDepth 20000 in
theorem zv_X8_advance_84 {Q : ab_R} {M : ab_M} {N : ab_N}  (h : ((M 4 2) ≤ (M 4 6) → zt_X8_wordToken [.ref 4] M N (fun r M2 N2 => zr_X8_advance Q 127 [none, none] (ab_ol r [.ref 4]) M2 N2)) ∧ (¬ ((M 4 2) ≤ (M 4 6)) → ((ab_b (97 ≤ (if 0 ≤ (M 4 6) ∧ (M 4 6) < (M 4) 2 ∧ (M 4 6) < 160 then (M 34) (M 4 6).toNatClampNeg else -1) ∧ (if 0 ≤ (M 4 6) ∧ (M 4 6) < (M 4) 2 ∧ (M 4 6) < 160 then (M 34) (M 4 6).toNatClampNeg else -1) ≤ 122)) = 0 → zt_X8_wordToken [.ref 4] M N (fun r M2 N2 => zr_X8_advance Q 127 [none, none] (ab_ol r [.ref 4]) M2 N2)) ∧ (¬ ((ab_b (97 ≤ (if 0 ≤ (M 4 6) ∧ (M 4 6) < (M 4) 2 ∧ (M 4 6) < 160 then (M 34) (M 4 6).toNatClampNeg else -1) ∧ (if 0 ≤ (M 4 6) ∧ (M 4 6) < (M 4) 2 ∧ (M 4 6) < 160 then (M 34) (M 4 6).toNatClampNeg else -1) ≤ 122)) = 0) → let z1 : Nat → Int32 := upd (M 4) 6 ((M 4 6) + (1 : Int32)); zr_X8_advance Q 84 [some (.ref 4), none] [] (ab_u M 4 z1) N))) : zr_X8_advance Q 84 [some (.ref 4), none] [] M N := ab_Run_s zm_X8_advance (sp := [(8, [true, false]), (58, [true, false]), (84, [true, false]), (127, [false, false]), (145, [false, false])]) 88 h
set_option maxRecDepth 20000 in
theorem zv_X8_advance_127 {Q : ab_R} {M : ab_M} {N : ab_N} (s1 : Int32) (h : let z1 : Nat → Int32 := upd (M 4) 3 s1; Q none (ab_u M 4 z1) N) : zr_X8_advance Q 127 [none, none] [.int s1, .ref 4] M N := ab_Run_s zm_X8_advance (sp := [(8, [true, false]), (58, [true, false]), (84, [true, false]), (127, [false, false]), (145, [false, false])]) 88 h
set_option maxRecDepth 20000 in
theorem zv_X8_advance_145 {Q : ab_R} {M : ab_M} {N : ab_N} (s1 : Int32) (h : let z1 : Nat → Int32 := upd (M 4) 3 s1; Q none (ab_u M 4 z1) N) : zr_X8_advance Q 145 [none, none] [.int s1, .ref 4] M N := ab_Run_s zm_X8_advance (sp := [(8, [true, false]), (58, [true, false]), (84, [true, false]), (127, [false, false]), (145, [false, false])]) 88 h
theorem zTk_pl (B : Nat → Int32) (n i : Nat) : (zTk B n i).2.2.1 = zRun zbS B (n - i) i := by
  unfold zTk
  dsimp only
  split
  · rfl
  · split
    · rfl
    · split <;> rfl
theorem zLa_end {f B : Nat → Int32} {n i pl : Nat} (hp : zRun zbS B (n - i) i = pl) (h : n ≤ pl) (f3 : f 3 = -1) (f5 : f 5 = nI pl) (f6 : f 6 = nI (pl + 1)) : zLa f B n i := by
  have e : zTk B n i = (-1, 0, pl, pl + 1) := by unfold zTk; dsimp only; rw [hp, if_pos h]
  unfold zLa
  rw [e]
  exact ⟨f3, fun z => absurd z (show ¬ (-1 : Int32) = 0 by decide), f5, f6⟩
theorem zWd_pos (B : Nat → Int32) (pl bh : Nat) : ∀ (l : List Int32) (w : Int32) (i : Nat) (sm : Bool), (0 < w ∧ w.toInt + l.length < 100) → zWt B pl bh l w i sm ≠ 0
  | [], w, i, sm, h => by unfold zWt; decide
  | c :: r, w, i, sm, h => by
    have h2 : 0 < w + 1 ∧ (w + 1).toInt + r.length < 100 := by
      obtain ⟨h0, h1⟩ := h
      simp only [List.length_cons] at h1
      push_cast at h1
      have g0 : (0 : Int32).toInt < w.toInt := Int32.lt_iff_toInt_lt.mp h0
      have e0 : (0 : Int32).toInt = 0 := by decide
      rw [e0] at g0
      have e1 : (w + 1).toInt = w.toInt + 1 := by
        rw [Int32.toInt_add, show (1 : Int32).toInt = 1 by decide]
        apply Int.bmod_eq_of_le <;> omega
      refine ⟨Int32.lt_iff_toInt_lt.mpr (by rw [e0, e1]; omega), by rw [e1]; omega⟩
    unfold zWt
    split
    · split
      · exact fun z => absurd h.1 (by rw [z]; decide)
      · exact zWd_pos B pl bh r _ _ _ h2
    · refine zWd_pos B pl bh r _ _ _ ⟨h.1, ?_⟩
      have := h.2
      simp only [List.length_cons] at this
      push_cast at this
      omega
theorem zLa_word {f B : Nat → Int32} {n i pl : Nat} (hp : zRun zbS B (n - i) i = pl) (h : pl < n) (hl : zbL (B pl) = true) (f3 : f 3 = zWd B pl (zRun zbL B (n - (pl + 1)) (pl + 1))) (f5 : f 5 = nI pl) (f6 : f 6 = nI (zRun zbL B (n - (pl + 1)) (pl + 1))) : zLa f B n i := by
  have e : zTk B n i = (zWd B pl (zRun zbL B (n - (pl + 1)) (pl + 1)), 0, pl, zRun zbL B (n - (pl + 1)) (pl + 1)) := by unfold zTk; dsimp only; rw [hp, if_neg (by omega), if_pos hl]
  unfold zLa
  rw [e]
  exact ⟨f3, fun z => absurd z (zWd_pos _ _ _ _ _ _ _ (by decide +kernel)), f5, f6⟩
theorem zLa_num {f B : Nat → Int32} {n i pl e : Nat} (hp : zRun zbS B (n - i) i = pl) (h : pl < n) (hl : ¬ zbL (B pl) = true) (hd : zbD (B pl) = true) (he : zRun zbD B (n - (pl + 1)) (pl + 1) = e) (f3 : f 3 = if 4 < e - pl then -2 else 0) (f4 : f 4 = zNumF B (e - (pl + 1)) (pl + 1) (B pl - 48)) (f5 : f 5 = nI pl) (f6 : f 6 = nI e) : zLa f B n i := by
  have ee : zTk B n i = (if 4 < e - pl then -2 else 0, zNumF B (e - (pl + 1)) (pl + 1) (B pl - 48), pl, e) := by unfold zTk; dsimp only; rw [hp, he, if_neg (by omega), if_neg hl, if_pos hd]
  unfold zLa
  rw [ee]
  exact ⟨f3, fun _ => f4, f5, f6⟩
theorem zLa_sign {f B : Nat → Int32} {n i pl : Nat} (hp : zRun zbS B (n - i) i = pl) (h : pl < n) (hl : ¬ zbL (B pl) = true) (hd : ¬ zbD (B pl) = true) (f3 : f 3 = if zSign (B pl) then B pl else -2) (f5 : f 5 = nI pl) (f6 : f 6 = nI (pl + 1)) : zLa f B n i := by
  have ee : zTk B n i = (if zSign (B pl) then B pl else -2, 0, pl, pl + 1) := by unfold zTk; dsimp only; rw [hp, if_neg (by omega), if_neg hl, if_neg hd]
  unfold zLa
  rw [ee]
  refine ⟨f3, fun z => ?_, f5, f6⟩
  dsimp only at z
  split at z
  · rename_i hs
    rw [z] at hs
    exact absurd hs (by decide)
  · exact absurd z (by decide)
section Adv
variable {Q : ab_R} {M : ab_M} {N : ab_N} {n i : Nat}
theorem zL_X8_adv2 (hT : zTp M n) (hq : ∀ f : Nat → Int32, f 2 = M 4 2 → f 7 = M 4 7 → zLa f (M 34) n i → Q none (ab_u M 4 f) N) {pl : Nat} (hp : zRun zbS (M 34) (n - i) i = pl) (hpn : pl < n) (hl : zbL (M 34 pl) = true) : ∀ (r j : Nat) (f : Nat → Int32), j + r = n → pl < j → f 2 = M 4 2 → f 7 = M 4 7 → f 5 = nI pl → f 6 = nI j → zRun zbL (M 34) (n - j) j = zRun zbL (M 34) (n - (pl + 1)) (pl + 1) → zr_X8_advance Q 84 [some (.ref 4), none] [] (ab_u M 4 f) N := by
  obtain ⟨hn, e2, hB⟩ := hT
  intro r
  have stop : ∀ (j : Nat) (f : Nat → Int32), j ≤ n → pl < j → f 2 = M 4 2 → f 7 = M 4 7 → f 5 = nI pl → f 6 = nI j → j = zRun zbL (M 34) (n - (pl + 1)) (pl + 1) → zt_X8_wordToken [.ref 4] (ab_u M 4 f) N (fun r M2 N2 => zr_X8_advance Q 127 [none, none] (ab_ol r [.ref 4]) M2 N2) := by
    intro j f hj hpj f2 f7 f5 f6 ej
    refine ab_m0_i ⟨n, pl, j, hn, by omega, hj, by rw [ab_u_eq, f2, e2], by rw [ab_u_eq, f5], by rw [ab_u_eq, f6]⟩ ?_
    rintro o M2 N2 ⟨rfl, rfl, rfl⟩
    refine zv_X8_advance_127 _ ?_
    intro z1
    rw [ab_u_u]
    have ew : zWd (ab_u M 4 f 34) (ab_u M 4 f 4 5).toNatClampNeg (ab_u M 4 f 4 6).toNatClampNeg = zWd (M 34) pl j := by
      rw [ab_u_eq, ab_u_ne _ _ (by decide), f5, f6, nI_clamp (by omega), nI_clamp (by omega)]
    refine hq z1 ?_ ?_ (zLa_word hp hpn hl ?_ ?_ ?_)
    · simp [z1, upd, f2, ab_u_eq]
    · simp [z1, upd, f7, ab_u_eq]
    · rw [← ej, ← ew]; simp [z1, upd]
    · simp [z1, upd, f5, ab_u_eq]
    · rw [← ej]; simp [z1, upd, f6, ab_u_eq]
  induction r with
  | zero =>
    intro j f hj hpj f2 f7 f5 f6 hr
    have ej : j = zRun zbL (M 34) (n - (pl + 1)) (pl + 1) := by
      rw [← hr, show n - j = 0 by omega]
      rfl
    refine zv_X8_advance_84 ⟨fun _ => stop j f (by omega) hpj f2 f7 f5 f6 ej, fun c => absurd ?_ c⟩
    rw [ab_u_eq, f2, f6, e2]
    exact nI_le (by omega) (by omega)
  | succ r ih =>
    intro j f hj hpj f2 f7 f5 f6 hr
    have hs := stop j f (by omega) hpj f2 f7 f5 f6
    refine zv_X8_advance_84 ?_
    rw [ab_u_eq, f6, f2, e2, ab_u_ne _ _ (show (34 : Nat) ≠ 4 by decide), zAt_in (M 34) (show j < n by omega) hn]
    refine ⟨fun c => absurd c (nI_ge (by omega) (by omega)), fun _ => ⟨fun c => ?_, fun c => ?_⟩⟩
    · have hd := zbL_b.mp c
      exact hs (by rw [← hr, zRun_st (fun z => hd z.2)])
    · have hd : zbL (M 34 j) = true := Decidable.byContradiction fun z => c (zbL_b.mpr z)
      rw [zRun_go (by omega) hd] at hr
      intro z1
      rw [ab_u_u]
      refine ih (j + 1) z1 (by omega) (by omega) ?_ ?_ ?_ ?_ hr
      · simp [z1, upd, f2]
      · simp [z1, upd, f7]
      · simp [z1, upd, f5]
      · simp [z1, upd, nI_1]
theorem zL_X8_adv1 (hT : zTp M n) (hq : ∀ f : Nat → Int32, f 2 = M 4 2 → f 7 = M 4 7 → zLa f (M 34) n i → Q none (ab_u M 4 f) N) {pl : Nat} (hp : zRun zbS (M 34) (n - i) i = pl) (hpn : pl ≤ n) {f : Nat → Int32} (f2 : f 2 = M 4 2) (f7 : f 7 = M 4 7) (f5 : f 5 = nI pl) : zr_X8_advance Q 58 [some (.ref 4), none] [] (ab_u M 4 f) N := by
  obtain ⟨hn, e2, hB⟩ := id hT
  refine zv_X8_advance_58 ?_
  rw [ab_u_eq, ab_u_ne _ _ (show (34 : Nat) ≠ 4 by decide)]
  intro z1
  have z5 : z1 5 = nI pl := by simp [z1, upd, f5]
  have z2 : z1 2 = M 4 2 := by simp [z1, upd, f2]
  have z6 : z1 6 = nI (pl + 1) := by simp [z1, upd, f5, nI_1]
  have z7 : z1 7 = M 4 7 := by simp [z1, upd, f7]
  clear_value z1
  rw [z5, z2, e2]
  by_cases c : pl < n
  · rw [zAt_in (M 34) c hn]
    have hb0 := hB pl c
    generalize hb : M 34 pl = b at hb0 ⊢
    refine ⟨fun c1 => ⟨fun c2 => ⟨fun _ => ⟨fun c3 => ?_, fun c3 => ?_⟩, fun c3 => absurd hb0 c3⟩, fun c2 => ?_⟩, fun c1 => ?_⟩
    · intro y
      rw [ab_u_u, ab_u_u]
      refine hq y (by simp [y, upd, z2]) (by simp [y, upd, z7]) (zLa_sign hp c (by rw [hb]; exact zbL_b.mp c1) (by rw [hb]; exact zbD_b.mp c2) ?_ (by simp [y, upd, z5]) (by simp [y, upd, z6]))
      rw [hb, if_neg (ab_b_0.mp c3)]
      simp [y, upd]
    · intro y
      rw [ab_u_u, ab_u_u]
      refine hq y (by simp [y, upd, z2]) (by simp [y, upd, z7]) (zLa_sign hp c (by rw [hb]; exact zbL_b.mp c1) (by rw [hb]; exact zbD_b.mp c2) ?_ (by simp [y, upd, z5]) (by simp [y, upd, z6]))
      rw [hb, if_pos (Decidable.byContradiction fun z => c3 (ab_b_0.mpr z))]
      simp [y, upd]
    · have hd : zbD (M 34 pl) = true := Decidable.byContradiction fun z => c2 (zbD_b.mpr (by rw [hb] at z; exact z))
      rw [ab_u_u]
      refine ab_m0_i ⟨n, pl, hn, c, by rw [ab_u_eq, z2, e2], by rw [ab_u_eq, z5], by rw [ab_u_eq, z6]⟩ ?_
      rintro o M2 N2 ⟨rfl, g, rfl, g2, g7, hg⟩
      obtain ⟨g5, g6, g4, rfl⟩ := hg n pl hn c (by rw [ab_u_eq, z2, e2]) (by rw [ab_u_eq, z5])
      rw [ab_u_ne _ _ (show (34 : Nat) ≠ 4 by decide)] at g6 g4
      rw [ab_u_eq] at g2 g7
      refine zv_X8_advance_145 _ ?_
      intro y
      rw [ab_u_u, ab_u_u]
      refine hq y (by simp [y, upd, g2, z2, ab_u_eq]) (by simp [y, upd, g7, z7, ab_u_eq]) (zLa_num hp c (by rw [hb]; exact zbL_b.mp c1) hd rfl ?_ ?_ ?_ ?_)
      · simp [y, upd, ab_u_ne]
      · simp [y, upd, g4, ab_u_eq]
      · simp [y, upd, g5, ab_u_eq]
      · simp [y, upd, g6, ab_u_eq]
    · have hl : zbL (M 34 pl) = true := Decidable.byContradiction fun z => c1 (zbL_b.mpr (by rw [hb] at z; exact z))
      rw [ab_u_u]
      exact zL_X8_adv2 hT hq hp c hl (n - (pl + 1)) (pl + 1) z1 (by omega) (by omega) z2 z7 z5 z6 rfl
  · have ep : pl = n := by omega
    rw [zAt_out (M 34) (by omega) (by omega)]
    refine ⟨fun _ => ⟨fun _ => ⟨fun c3 => absurd c3 (by decide), fun _ => ?_⟩, fun c2 => absurd (show ab_b _ = 0 by decide) c2⟩, fun c1 => absurd (show ab_b _ = 0 by decide) c1⟩
    intro y
    rw [ab_u_u, ab_u_u]
    exact hq y (by simp [y, upd, z2]) (by simp [y, upd, z7]) (zLa_end hp (by omega) (by simp [y, upd]) (by simp [y, upd, z5]) (by simp [y, upd, z6]))
theorem zL_X8_adv0 (hT : zTp M n) (hi : i ≤ n) (hq : ∀ f : Nat → Int32, f 2 = M 4 2 → f 7 = M 4 7 → zLa f (M 34) n i → Q none (ab_u M 4 f) N) : ∀ (r j : Nat) (f : Nat → Int32), j + r = n → i ≤ j → f 2 = M 4 2 → f 7 = M 4 7 → f 5 = nI j → zRun zbS (M 34) (n - j) j = zRun zbS (M 34) (n - i) i → zr_X8_advance Q 8 [some (.ref 4), none] [] (ab_u M 4 f) N := by
  obtain ⟨hn, e2, hB⟩ := id hT
  intro r
  induction r with
  | zero =>
    intro j f hj hij f2 f7 f5 hr
    have ej : zRun zbS (M 34) (n - i) i = j := by
      rw [← hr, show n - j = 0 by omega]
      rfl
    refine zv_X8_advance_8 ⟨fun _ => zL_X8_adv1 hT hq ej (by omega) f2 f7 f5, fun c => absurd ?_ c⟩
    rw [ab_u_eq, f2, f5, e2]
    exact nI_le (by omega) (by omega)
  | succ r ih =>
    intro j f hj hij f2 f7 f5 hr
    have hs := fun z => zL_X8_adv1 hT hq (f := f) z (show j ≤ n by omega) f2 f7 f5
    refine zv_X8_advance_8 ?_
    rw [ab_u_eq, f5, f2, e2, ab_u_ne _ _ (show (34 : Nat) ≠ 4 by decide), zAt_in (M 34) (show j < n by omega) hn]
    have go : zbS (M 34 j) = true → let z1 : Nat → Int32 := upd f 5 (nI j + 1); zr_X8_advance Q 8 [some (.ref 4), none] [] (ab_u (ab_u M 4 f) 4 z1) N := by
      intro hd z1
      rw [zRun_go (by omega) hd] at hr
      rw [ab_u_u]
      refine ih (j + 1) z1 (by omega) (by omega) ?_ ?_ ?_ hr
      · simp [z1, upd, f2]
      · simp [z1, upd, f7]
      · simp [z1, upd, nI_1]
    refine ⟨fun c => absurd c (nI_ge (by omega) (by omega)), fun _ => ⟨fun c => go (zbS_b.mpr (Or.inl c)), fun c => ⟨fun c2 => go (zbS_b.mpr (Or.inr c2)), fun c2 => ?_⟩⟩⟩
    refine hs ?_
    rw [← hr, zRun_st (fun z => (zbS_b.mp z.2).elim c c2)]
end Adv
theorem zE_X8_advance (as : List Value) (M : ab_M) (N : ab_N) (k : ab_R) (hT : zt_X8_advance as M N k) : ab_cs as ≤ 2 ∧ zr_X8_advance k 0 (ab_en as) [] M N := by
  obtain ⟨rfl, ⟨n, i, hT, hi, e6⟩, hk⟩ := ab_m0_e hT
  refine ⟨Nat.le_of_ble_eq_true rfl, zv_X8_advance_0 ?_⟩
  intro z1
  refine zL_X8_adv0 hT hi (fun f f2 f7 hL => hk _ _ _ ⟨rfl, rfl, f, rfl, f2, f7, fun n' i' hn' hi' en ei => ?_⟩) (n - i) i z1 (by omega) (Nat.le_refl _) (by simp [z1, upd]) (by simp [z1, upd]) (by simp [z1, upd, e6]) rfl
  have a1 : n' = n := (nI_eq (by omega) (by have := hT.1; omega)).mp (en.symm.trans hT.2.1)
  have a2 : i' = i := (nI_eq (by omega) (by have := hT.1; omega)).mp (ei.symm.trans e6)
  subst a1
  subst a2
  exact hL
abbrev zR_X8_advance : Room := { frames := 5, cells := 0, slots := 0, locals := 109 }
set_option maxRecDepth 20000 in
theorem zM_X8_advance (l : Launch) : ab_Met l zw_C vwCl zZ_C yX8_advance cX8_advance 2 none zR_X8_advance zt_X8_advance := ab_ofRun (G := zg_X8_advance) (P := zp_X8_advance) rfl zo_X8_advance (by decide +kernel) zl_cl zl_lamC zf_X8_ok zs_tabOK zc_X8_ok ab_Sta_nil (List.forall_mem_cons.mpr ⟨ab_callV zZ_C_ok (zM_X8_at l) (ab_in 444 (by decide +kernel) rfl) (ab_in 441 (by decide +kernel) rfl) (ab_in 443 (by decide +kernel) rfl) (ab_inS (List.mem_of_getElem? (i := 1) (by decide +kernel)) rfl) (ab_in 5 (by decide +kernel) rfl) (by unfold ab_yok; decide +kernel) ⟨rfl, rfl⟩ (by decide) zV_X8_at, List.forall_mem_cons.mpr ⟨ab_callV zZ_C_ok (zM_X8_wordToken l) (ab_in 451 (by decide +kernel) rfl) (ab_in 448 (by decide +kernel) rfl) (ab_in 450 (by decide +kernel) rfl) (ab_inS (List.mem_of_getElem? (i := 2) (by decide +kernel)) rfl) (ab_in 5 (by decide +kernel) rfl) (by unfold ab_yok; decide +kernel) ⟨rfl, rfl⟩ (by decide) zV_X8_wordToken, List.forall_mem_cons.mpr ⟨ab_callV zZ_C_ok (zM_X8_numberToken l) (ab_in 461 (by decide +kernel) rfl) (ab_in 458 (by decide +kernel) rfl) (ab_in 460 (by decide +kernel) rfl) (ab_inS (List.mem_of_getElem? (i := 3) (by decide +kernel)) rfl) (ab_in 5 (by decide +kernel) rfl) (by unfold ab_yok; decide +kernel) ⟨rfl, rfl⟩ (by decide) zV_X8_numberToken, List.forall_mem_nil _⟩⟩⟩) (List.forall_mem_cons.mpr ⟨ab_callS zZ_C_ok (zM_X8_isLetter l) (ab_in 447 (by decide +kernel) rfl) (ab_in 445 (by decide +kernel) rfl) (ab_in 446 (by decide +kernel) rfl) (ab_in 5 (by decide +kernel) rfl) (by unfold ab_yok; decide +kernel) ⟨rfl, rfl⟩ (by decide), List.forall_mem_cons.mpr ⟨ab_callS zZ_C_ok (zM_X8_isDigit l) (ab_in 457 (by decide +kernel) rfl) (ab_in 455 (by decide +kernel) rfl) (ab_in 456 (by decide +kernel) rfl) (ab_in 5 (by decide +kernel) rfl) (by unfold ab_yok; decide +kernel) ⟨rfl, rfl⟩ (by decide), List.forall_mem_cons.mpr ⟨ab_callS zZ_C_ok (zM_X8_isSign l) (ab_in 464 (by decide +kernel) rfl) (ab_in 462 (by decide +kernel) rfl) (ab_in 463 (by decide +kernel) rfl) (ab_in 5 (by decide +kernel) rfl) (by unfold ab_yok; decide +kernel) ⟨rfl, rfl⟩ (by decide), List.forall_mem_nil _⟩⟩⟩) zE_X8_advance
