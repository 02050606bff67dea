/-! the reference: words, tokens (u_tn, g_or, g_shl: rows of kit/laws/BITS.to-paste) *)
-/
theorem u_tn {n : Nat} (h : n < 2 ^ 64) : (UInt64.ofNat n).toNat = n := Nat.mod_eq_of_lt h
theorem g_or {k p a b : Nat} (hp : 2 ^ k = p) (ha : a < p) (h : b * p + a < 2 ^ 64) : lN (b * p) ||| lN a = lN (b * p + a) := by
  subst hp
  have h1 : b * 2 ^ k ||| a = b * 2 ^ k + a := by rw [← Nat.shiftLeft_eq, Nat.shiftLeft_add_eq_or_of_lt ha]
  have h3 : UInt64.ofNat (b * 2 ^ k) ||| UInt64.ofNat a = UInt64.ofNat (b * 2 ^ k + a) := UInt64.toNat_inj.mp (by rw [UInt64.toNat_or, u_tn (by omega), u_tn (by omega), u_tn h, h1])
  have h2 := congrArg UInt64.toInt64 h3
  exact h2
theorem g_shl {a k p : Nat} {y : Int64} (hy : y.toBitVec.smod 64 = BitVec.ofNat 64 k) (hk : k < 64) (hp : 2 ^ k = p) (ha : a < 2 ^ 64) : lN a <<< y = lN (a * p) := by
  subst hp
  apply Int64.toBitVec_inj.mp
  rw [Int64.toBitVec_shiftLeft, hy]
  apply BitVec.eq_of_toNat_eq
  have hb : (lN a).toBitVec.toNat = a := Nat.mod_eq_of_lt ha
  have hk' : (BitVec.ofNat 64 k).toNat = k := Nat.mod_eq_of_lt (by omega)
  have h : ((lN a).toBitVec <<< BitVec.ofNat 64 k).toNat = (a * 2 ^ k) % 2 ^ 64 := by simp only [BitVec.shiftLeft_eq', BitVec.toNat_shiftLeft, hb, hk', Nat.shiftLeft_eq]
  exact h
def zKw : List (List Int32) := [[119, 97, 116, 101, 114], [111, 108, 100], [119, 105, 110, 100], [115, 116, 101, 112], [119, 111, 114, 116, 104], [112, 97, 99, 101], [114, 105, 115, 107], [115, 101, 101, 110], [104, 97, 114, 109], [111, 114], [97, 110, 100], [110, 111, 116]]
/-- the first word that it is, from w on *)
-/
def zKwI (l : List Int32) : List (List Int32) → Int32 → Int32
  | [], _ => -2
  | k :: r, w => if l = k then w else zKwI l r (w + 1)
def zFw (B : Nat → Int32) : Nat → Nat → List Int32
  | _, 0 => []
  | i, n + 1 => B i :: zFw B (i + 1) n
def zM (B : Nat → Int32) (bh : Nat) : Nat → List Int32 → Bool
  | i, [] => decide (i = bh)
  | i, c :: r => decide (i < bh) && (decide (B i = c) && zM B bh (i + 1) r)
theorem zM_fw {B : Nat → Int32} {bh : Nat} : ∀ (l : List Int32) (i : Nat), i ≤ bh → (zM B bh i l = true ↔ zFw B i (bh - i) = l)
  | [], i, hi => by
    show decide (i = bh) = true ↔ _
    rw [decide_eq_true_eq]
    constructor
    · rintro rfl; rw [Nat.sub_self]; rfl
    · intro h
      rcases Nat.eq_or_lt_of_le hi with e | e
      · exact e
      · obtain ⟨n, hn⟩ : ∃ n, bh - i = n + 1 := ⟨bh - i - 1, by omega⟩
        rw [hn] at h
        cases h
  | c :: r, i, hi => by
    show (decide (i < bh) && (decide (B i = c) && zM B bh (i + 1) r)) = true ↔ _
    rw [Bool.and_eq_true, Bool.and_eq_true, decide_eq_true_eq, decide_eq_true_eq]
    rcases Nat.eq_or_lt_of_le hi with e | e
    · subst e
      rw [Nat.sub_self]
      exact ⟨fun z => absurd z.1 (Nat.lt_irrefl _), fun z => by cases z⟩
    · have ih := zM_fw (B := B) r (i + 1) e
      rw [ih, show bh - i = (bh - (i + 1)) + 1 by omega]
      show _ ↔ B i :: zFw B (i + 1) (bh - (i + 1)) = c :: r
      constructor
      · rintro ⟨-, z1, z2⟩; rw [z1, z2]
      · intro z; injection z with z1 z2; exact ⟨e, z1, z2⟩
theorem zWt_w {B : Nat → Int32} {pl bh : Nat} {r : List Int32} : ∀ (l : List Int32) (w : Int32) (i : Nat) (sm : Bool), (∀ c ∈ l, ¬ c = 32) → zWt B pl bh (l ++ 32 :: r) w i sm = if (sm && zM B bh i l) = true then w else zWt B pl bh r (w + 1) pl true
  | [], w, i, sm, _ => by
    show (if (32 : Int32) = 32 then (if sm = true ∧ i = bh then w else zWt B pl bh r (w + 1) pl true) else _) = _
    rw [if_pos rfl]
    show _ = if (sm && decide (i = bh)) = true then _ else _
    cases sm <;> by_cases c : i = bh <;> simp [c]
  | c :: l, w, i, sm, h => by
    have hc : ¬ c = 32 := h c List.mem_cons_self
    show (if c = 32 then _ else zWt B pl bh (l ++ 32 :: r) w (i + 1) (sm && decide (i < bh) && decide (B i = c))) = _
    rw [if_neg hc, zWt_w l w (i + 1) _ (fun c h2 => h c (List.mem_cons_of_mem _ h2))]
    show _ = if (sm && (decide (i < bh) && (decide (B i = c) && zM B bh (i + 1) l))) = true then _ else _
    rw [Bool.and_assoc, Bool.and_assoc]
def zCat : List (List Int32) → List Int32
  | [] => []
  | k :: r => k ++ 32 :: zCat r
theorem zWd_k {B : Nat → Int32} {pl bh : Nat} (h : pl ≤ bh) : ∀ (ks : List (List Int32)) (w : Int32), (∀ k ∈ ks, ∀ c ∈ k, ¬ c = 32) → zWt B pl bh (zCat ks) w pl true = zKwI (zFw B pl (bh - pl)) ks w
  | [], w, _ => rfl
  | k :: ks, w, hk => by
    show zWt B pl bh (k ++ 32 :: zCat ks) w pl true = if zFw B pl (bh - pl) = k then w else zKwI (zFw B pl (bh - pl)) ks (w + 1)
    rw [zWt_w k w pl true (hk k List.mem_cons_self), zWd_k h ks (w + 1) (fun k2 h2 => hk k2 (List.mem_cons_of_mem _ h2)), Bool.true_and]
    by_cases c : zFw B pl (bh - pl) = k
    · rw [if_pos c, if_pos ((zM_fw k pl h).mpr c)]
    · rw [if_neg c, if_neg (fun z => c ((zM_fw k pl h).mp z))]
theorem zWd_kw {B : Nat → Int32} {pl bh : Nat} (h : pl ≤ bh) : zWd B pl bh = zKwI (zFw B pl (bh - pl)) zKw 1 := by
  have e : zs_W = zCat zKw := by decide +kernel
  unfold zWd
  rw [e]
  exact zWd_k h zKw 1 (by decide)
/-- a word as a number -/
theorem zbL_n {c : Int32} (h : zbL c = true) : 97 ≤ c.toNatClampNeg ∧ c.toNatClampNeg ≤ 122 ∧ c = nI c.toNatClampNeg := by
  unfold zbL at h
  rw [decide_eq_true_eq] at h
  have h0 : 0 ≤ c := by have := h.1; grind
  obtain ⟨j, hj, rfl⟩ := nI_of (Int32.not_lt.mpr h0)
  rw [nI_clamp hj]
  exact ⟨(nI_leI (by decide) hj).mp (show nI 97 ≤ nI j from h.1), (nI_leI hj (by decide)).mp (show nI j ≤ nI 122 from h.2), rfl⟩
def zPk : List Int32 → Nat
  | [] => 0
  | c :: r => c.toNatClampNeg + 256 * zPk r
theorem zPk_inj : ∀ (a b : List Int32), (∀ c ∈ a, zbL c = true) → (∀ c ∈ b, zbL c = true) → zPk a = zPk b → a = b
  | [], [], _, _, _ => rfl
  | [], c :: r, _, hb, h => by
    have := zbL_n (hb c List.mem_cons_self)
    simp only [zPk] at h
    omega
  | c :: r, [], ha, _, h => by
    have := zbL_n (ha c List.mem_cons_self)
    simp only [zPk] at h
    omega
  | c :: r, c2 :: r2, ha, hb, h => by
    have h1 := zbL_n (ha c List.mem_cons_self)
    have h2 := zbL_n (hb c2 List.mem_cons_self)
    simp only [zPk] at h
    have e1 : c.toNatClampNeg = c2.toNatClampNeg := by omega
    rw [show c = c2 by rw [h1.2.2, h2.2.2, e1], zPk_inj r r2 (fun x q => ha x (List.mem_cons_of_mem _ q)) (fun x q => hb x (List.mem_cons_of_mem _ q)) (by omega)]
def zWds : Nat → Int64 := fun j => ([1919513451, 1936024942, 1751216749, 512736126322, 7302244, 2003398244, 1937007984, 512970880104, 1885430629, 28530, 6385252, 7237492] : List Int64).getD j 0
def zKwR : List (List Int32) := [[114, 105, 115, 107], [115, 101, 101, 110], [104, 97, 114, 109], [119, 97, 116, 101, 114], [111, 108, 100], [119, 105, 110, 100], [115, 116, 101, 112], [119, 111, 114, 116, 104], [112, 97, 99, 101], [111, 114], [97, 110, 100], [110, 111, 116]]
theorem zWds_pk : ∀ j, j < 12 → zWds j = lN (zPk ((zKwR.getD j []).reverse)) ∧ zPk ((zKwR.getD j []).reverse) < 2 ^ 63 ∧ 0 < zPk ((zKwR.getD j []).reverse) ∧ (∀ c ∈ zKwR.getD j [], zbL c = true) ∧ (zKwR.getD j []).length ≤ 5 := by decide +kernel
theorem zFw_len (B : Nat → Int32) : ∀ n i, (zFw B i n).length = n
  | 0, _ => rfl
  | n + 1, i => by show (zFw B (i + 1) n).length + 1 = n + 1; rw [zFw_len B n (i + 1)]
theorem zFw_snoc (B : Nat → Int32) : ∀ n i, zFw B i (n + 1) = zFw B i n ++ [B (i + n)]
  | 0, i => rfl
  | n + 1, i => by
    show B i :: zFw B (i + 1) (n + 1) = B i :: (zFw B (i + 1) n ++ [B (i + (n + 1))])
    rw [zFw_snoc B n (i + 1), show i + 1 + n = i + (n + 1) by omega]
theorem zFw_mem {B : Nat → Int32} {c : Int32} : ∀ n i, c ∈ zFw B i n → ∃ j, i ≤ j ∧ j < i + n ∧ B j = c
  | 0, _, h => by cases h
  | n + 1, i, h => by
    rcases List.mem_cons.mp h with e | e
    · exact ⟨i, Nat.le_refl _, by omega, e.symm⟩
    · obtain ⟨j, a, b, d⟩ := zFw_mem n (i + 1) e
      exact ⟨j, by omega, by omega, d⟩
theorem zPk_lt : ∀ (l : List Int32), (∀ c ∈ l, zbL c = true) → zPk l < 256 ^ l.length
  | [], _ => by decide
  | c :: r, h => by
    have h1 := zbL_n (h c List.mem_cons_self)
    have ih := zPk_lt r (fun x q => h x (List.mem_cons_of_mem _ q))
    simp only [zPk, List.length_cons, Nat.pow_succ]
    omega
/-- the reference's tape -/
def zTpR (M : ab_M) (N : ab_N) (n : Nat) : Prop := n ≤ 160 ∧ M 0 20 = nI n ∧ (∀ j, j < n → 0 ≤ M 12 j) ∧ ∀ j, j < 12 → N 24 j = zWds j
def zt_X12_letters : ab_T := ab_lq (α := Nat × Nat) (fun x r M N => r = [] ∧ zTpR M N x.1 ∧ x.2 < x.1 ∧ M 0 50 = nI x.2)
  (fun x M N o M2 N2 => N2 = N ∧ M2 = ab_u M 0 (upd (M 0) 50 (nI (zRun zbL (M 12) (x.1 - x.2) x.2))) ∧ o = some (.long (if 5 < zRun zbL (M 12) (x.1 - x.2) x.2 - x.2 then 0 else lN (zPk (zFw (M 12) x.2 (zRun zbL (M 12) (x.1 - x.2) x.2 - x.2)).reverse))))
theorem zt_X12_letters_mono : ab_mono zt_X12_letters := ab_lq_mono _ _
theorem zV_X12_letters : ab_recv zw_M vwCl RX12 zt_X12_letters := ab_lq_v
def zp_X12_letters : ab_P := [(0, .lconst 0, 1, [0], []),
  (1, .lstore_n 1, 2, [1], []),
  (2, .iconst 0, 3, [], [0]),
  (3, .istore_n 3, 4, [3], []),
  (4, .aload_n 0, 5, [0], []),
  (5, .getfield 201, 8, [], []),
  (8, .aload_n 0, 9, [0], []),
  (9, .getfield 196, 12, [], []),
  (12, .if_icmp .ge 64, 15, [76], []),
  (15, .aload_n 0, 16, [0], []),
  (16, .getfield 59, 19, [], []),
  (19, .aload_n 0, 20, [0], []),
  (20, .getfield 201, 23, [], []),
  (23, .iaload, 24, [], []),
  (24, .bipush 97, 26, [], [97]),
  (26, .bipush 122, 28, [], [122]),
  (28, .invokestatic 175, 31, [], []),
  (31, .ifCond .eq 45, 34, [76], []),
  (34, .iload_n 3, 35, [3], []),
  (35, .bipush 8, 37, [], [8]),
  (37, .if_icmp .ge 21, 40, [58], []),
  (40, .lload_n 1, 41, [1], []),
  (41, .bipush 8, 43, [], [8]),
  (43, .lshl, 44, [], []),
  (44, .aload_n 0, 45, [0], []),
  (45, .getfield 59, 48, [], []),
  (48, .aload_n 0, 49, [0], []),
  (49, .getfield 201, 52, [], []),
  (52, .iaload, 53, [], []),
  (53, .i2l, 54, [], []),
  (54, .lor, 55, [], []),
  (55, .goto 4, 58, [59], []),
  (58, .lload_n 1, 59, [1], []),
  (59, .lstore_n 1, 60, [1], []),
  (60, .iinc 3 1, 63, [], [1]),
  (63, .aload_n 0, 64, [0], []),
  (64, .dup, 65, [], []),
  (65, .getfield 201, 68, [], []),
  (68, .iconst 1, 69, [], [1]),
  (69, .iadd, 70, [], []),
  (70, .putfield 201, 73, [], []),
  (73, .goto (-69), 76, [4], []),
  (76, .iload_n 3, 77, [3], []),
  (77, .iconst 5, 78, [], [5]),
  (78, .if_icmp .le 7, 81, [85], []),
  (81, .lconst 0, 82, [0], []),
  (82, .goto 4, 85, [86], []),
  (85, .lload_n 1, 86, [1], []),
  (86, .lreturn, 87, [], [])]
theorem zo_X12_letters : ab_ok cX12_letters zp_X12_letters = true := by decide +kernel
def zg_X12_letters : ab_G := (zw_M, [], zf_X12, zc_X12, [], [], [(175, 3, zt_X12_in)])
theorem zm_X12_letters : ab_MG zg_X12_letters := ab_MGof (List.forall_mem_nil _) (List.forall_mem_cons.mpr ⟨ab_pure_mono _, List.forall_mem_nil _⟩)
abbrev zr_X12_letters (Q : ab_R) : ab_K := ab_Run zg_X12_letters zp_X12_letters (some .long) 4 Q
set_option maxRecDepth 20000 in
theorem zv_X12_letters_0 {Q : ab_R} {M : ab_M} {N : ab_N}  (h : zr_X12_letters Q 4 [some (.ref 0), some (.long (0 : Int64)), none, some (.int (0 : Int32))] [] M N) : zr_X12_letters Q 0 [some (.ref 0)] [] M N := ab_Run_s zm_X12_letters (sp := [(4, [true, true, false, true])]) 51 h
set_option maxRecDepth 20000 in
theorem zv_X12_letters_4 {Q : ab_R} {M : ab_M} {N : ab_N} (l1 : Int64) (l3 : Int32) (h : ((M 0 20) ≤ (M 0 50) → (l3 ≤ (5 : Int32) → Q (some (.long l1)) M N) ∧ (¬ (l3 ≤ (5 : Int32)) → Q (some (.long (0 : Int64))) M N)) ∧ (¬ ((M 0 20) ≤ (M 0 50)) → vp_in (M 0 50) 160 ∧ (((ab_b ((97 : Int32) ≤ (M 12 (M 0 50).toNatClampNeg) ∧ (M 12 (M 0 50).toNatClampNeg) ≤ (122 : Int32))) = 0 → (l3 ≤ (5 : Int32) → Q (some (.long l1)) M N) ∧ (¬ (l3 ≤ (5 : Int32)) → Q (some (.long (0 : Int64))) M N)) ∧ (¬ ((ab_b ((97 : Int32) ≤ (M 12 (M 0 50).toNatClampNeg) ∧ (M 12 (M 0 50).toNatClampNeg) ≤ (122 : Int32))) = 0) → ((8 : Int32) ≤ l3 → let z1 : Nat → Int32 := upd (M 0) 50 ((M 0 50) + (1 : Int32)); zr_X12_letters Q 4 [some (.ref 0), some (.long l1), none, some (.int (l3 + (1 : Int32)))] [] (ab_u M 0 z1) N) ∧ (¬ ((8 : Int32) ≤ l3) → vp_in (M 0 50) 160 ∧ (let z2 : Nat → Int32 := upd (M 0) 50 ((M 0 50) + (1 : Int32)); zr_X12_letters Q 4 [some (.ref 0), some (.long ((l1 <<< ((8 : Int32).toInt64 &&& 63)) ||| ((M 12 (M 0 50).toNatClampNeg).toInt64))), none, some (.int (l3 + (1 : Int32)))] [] (ab_u M 0 z2) N)))))) : zr_X12_letters Q 4 [some (.ref 0), some (.long l1), none, some (.int l3)] [] M N := ab_Run_s zm_X12_letters (sp := [(4, [true, true, false, true])]) 51 h
theorem zL_X12_letters {Q : ab_R} {M0 : ab_M} {N : ab_N} {n i e : Nat} (hT : zTpR M0 N n) (he : e ≤ n) (hk : Q (some (.long (if 5 < e - i then 0 else lN (zPk (zFw (M0 12) i (e - i)).reverse)))) (ab_u M0 0 (upd (M0 0) 50 (nI e))) N) : ∀ (r j : Nat) (w : Int64), j + r = n → i ≤ j → zRun zbL (M0 12) (n - j) j = e → (∀ t, i ≤ t → t < j → zbL (M0 12 t) = true) → (j - i ≤ 5 → w = lN (zPk (zFw (M0 12) i (j - i)).reverse)) → zr_X12_letters Q 4 [some (.ref 0), some (.long w), none, some (.int (nI (j - i)))] [] (ab_u M0 0 (upd (M0 0) 50 (nI j))) N := by
  obtain ⟨hn, h20, hB, hWd⟩ := hT
  intro r
  have stop : ∀ (j : Nat) (w : Int64), j = e → i ≤ j → (j - i ≤ 5 → w = lN (zPk (zFw (M0 12) i (j - i)).reverse)) → (nI (j - i) ≤ 5 → Q (some (.long w)) (ab_u M0 0 (upd (M0 0) 50 (nI j))) N) ∧ (¬ (nI (j - i) ≤ 5) → Q (some (.long (0 : Int64))) (ab_u M0 0 (upd (M0 0) 50 (nI j))) N) := by
    rintro j w rfl hij hw
    refine ⟨fun c => ?_, fun c => ?_⟩
    · have c2 : j - i ≤ 5 := (nI_leI (by omega) (by decide)).mp (show nI (j - i) ≤ nI 5 from c)
      rw [if_neg (by omega)] at hk
      rw [hw c2]
      exact hk
    · have c2 : 5 < j - i := Nat.not_le.mp fun z => c (nI_le (b := 5) z (by decide))
      rw [if_pos c2] at hk
      exact hk
  induction r with
  | zero =>
    intro j w hj hij hr hl hw
    have ej : j = e := by rw [← hr, show n - j = 0 by omega]; rfl
    refine zv_X12_letters_4 _ _ ⟨fun _ => stop j w ej hij hw, fun c => absurd ?_ c⟩
    rw [ab_u_eq, upd_ne _ _ (by decide), upd_eq, h20]
    exact nI_le (by omega) (by omega)
  | succ r ih =>
    intro j w hj hij hr hl hw
    have hjn : j < n := by omega
    refine zv_X12_letters_4 _ _ ?_
    rw [ab_u_eq, upd_ne (M0 0) _ (show (20 : Nat) ≠ 50 by decide), upd_eq, h20, nI_clamp (show j < 2 ^ 31 by omega), ab_u_ne _ _ (show (12 : Nat) ≠ 0 by decide), nI_1, nI_1]
    refine ⟨fun c => absurd c (nI_ge (by omega) (by omega)), fun _ => ⟨nI_in_ (by omega), fun c => ?_, fun c => ?_⟩⟩
    · have hd := zbL_b.mp c
      exact stop j w (by rw [← hr, zRun_st (fun z => hd z.2)]) hij hw
    · have hd : zbL (M0 12 j) = true := Decidable.byContradiction fun z => c (zbL_b.mpr z)
      rw [zRun_go hjn hd] at hr
      have hl2 : ∀ t, i ≤ t → t < j + 1 → zbL (M0 12 t) = true := fun t h1 h2 => by
        by_cases q : t = j
        · rw [q]; exact hd
        · exact hl t h1 (by omega)
      have ex : ∀ x : Nat → Int32, x = upd (upd (M0 0) 50 (nI j)) 50 (nI (j + 1)) → ab_u (ab_u M0 0 (upd (M0 0) 50 (nI j))) 0 x = ab_u M0 0 (upd (M0 0) 50 (nI (j + 1))) := fun x hx => by
        rw [ab_u_u, hx]
        congr 1
        funext q
        by_cases z : q = 50
        · rw [z, upd_eq, upd_eq]
        · rw [upd_ne _ _ z, upd_ne _ _ z, upd_ne _ _ z]
      refine ⟨fun c8 => ?_, fun c8 => ⟨nI_in_ (by omega), ?_⟩⟩
      · have g8 : 8 ≤ j - i := (nI_leI (by decide) (by omega)).mp (show nI 8 ≤ nI (j - i) from c8)
        intro z1
        rw [ex z1 rfl, show j - i + 1 = j + 1 - i by omega]
        exact ih (j + 1) w (by omega) (by omega) hr hl2 (fun z => by omega)
      · intro z2
        rw [ex z2 rfl, show j - i + 1 = j + 1 - i by omega]
        refine ih (j + 1) _ (by omega) (by omega) hr hl2 (fun z5 => ?_)
        rw [hw (by omega)]
        obtain ⟨b1, b2, b3⟩ := zbL_n hd
        have ln : (zFw (M0 12) i (j - i)).reverse.length = j - i := by rw [List.length_reverse, zFw_len]
        have lt := zPk_lt (zFw (M0 12) i (j - i)).reverse (fun c hc => by
          obtain ⟨t, t1, t2, t3⟩ := zFw_mem _ _ (List.mem_reverse.mp hc)
          rw [← t3]
          exact hl t t1 (by omega))
        rw [ln] at lt
        have lt4 : zPk (zFw (M0 12) i (j - i)).reverse < 256 ^ 4 := Nat.lt_of_lt_of_le lt (Nat.pow_le_pow_right (by decide) (by omega))
        have lt5 : zPk (zFw (M0 12) i (j - i)).reverse < 4294967296 := lt4
        rw [show j + 1 - i = (j - i) + 1 by omega, zFw_snoc, List.reverse_append, show i + (j - i) = j by omega]
        show _ = lN ((M0 12 j).toNatClampNeg + 256 * zPk (zFw (M0 12) i (j - i)).reverse)
        rw [g_shl (k := 8) (p := 256) (by decide) (by decide) (by decide) (by omega), b3, nI_clamp (by omega), nI_l (by omega), g_or (k := 8) (p := 256) (by decide) (by omega) (by omega)]
        congr 1
        omega
theorem zE_X12_letters (as : List Value) (M : ab_M) (N : ab_N) (k : ab_R) (hT : zt_X12_letters as M N k) : ab_cs as ≤ 4 ∧ zr_X12_letters k 0 (ab_en as) [] M N := by
  obtain ⟨⟨n, i⟩, r, rfl, ⟨rfl, hT, hi, h50⟩, hk⟩ := hT
  dsimp only at hT hi h50 hk ⊢
  have hn := hT.1
  refine ⟨Nat.le_of_ble_eq_true rfl, zv_X12_letters_0 ?_⟩
  have := zL_X12_letters (Q := k) (i := i) hT (zRun_lt (p := zbL) (B := M 12) (show i ≤ n by omega)) (hk _ _ _ ⟨rfl, rfl, rfl⟩) (n - i) i 0 (by omega) (Nat.le_refl _) rfl (fun t a b => by omega) (fun _ => by rw [Nat.sub_self]; rfl)
  rw [Nat.sub_self, ← h50] at this
  have e : ab_u M 0 (upd (M 0) 50 (M 0 50)) = M := by
    have : upd (M 0) 50 (M 0 50) = M 0 := by
      funext q
      by_cases z : q = 50
      · rw [z, upd_eq]
      · rw [upd_ne _ _ z]
    rw [this, ab_u_self]
  rw [e] at this
  exact this
abbrev zR_X12_letters : Room := { frames := 1, cells := 0, slots := 0, locals := 22 }
set_option maxRecDepth 20000 in
theorem zM_X12_letters (l : Launch) : ab_Met l zw_M vwCl zZ_M yX12_letters cX12_letters 4 (some .long) zR_X12_letters zt_X12_letters := ab_ofRun (G := zg_X12_letters) (P := zp_X12_letters) rfl zo_X12_letters (by decide +kernel) zl_cl zl_lamM zf_X12_ok ab_Tab_nil zc_X12_ok ab_Sta_nil (List.forall_mem_nil _) (List.forall_mem_cons.mpr ⟨ab_callS zZ_M_ok (zM_X12_in l) (ab_in 1200 (by decide +kernel) rfl) (ab_in 1198 (by decide +kernel) rfl) (ab_in 1199 (by decide +kernel) rfl) (ab_in 17 (by decide +kernel) rfl) (by unfold ab_yok; decide +kernel) ⟨rfl, rfl⟩ (by decide), List.forall_mem_nil _⟩) zE_X12_letters
