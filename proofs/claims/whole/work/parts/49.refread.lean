/-! the reference: a part of a text *)
-/
theorem zRun_all {p : Int32 → Bool} {B : Nat → Int32} {t : Nat} : ∀ (f j : Nat), j ≤ t → t < zRun p B f j → p (B t) = true
  | 0, j, h1, h2 => absurd h2 (by show ¬ t < j; omega)
  | f + 1, j, h1, h2 => by
    unfold zRun at h2
    by_cases q : p (B j) = true
    · rw [if_pos q] at h2
      by_cases q2 : t = j
      · rw [q2]; exact q
      · exact zRun_all f (j + 1) (by omega) h2
    · rw [if_neg q] at h2; omega
theorem nI_ex {b : Int32} (h : 0 ≤ b) : ∃ k : Nat, k < 2 ^ 31 ∧ b = nI k := by
  have h1 := Int32.le_iff_toInt_le.mp h
  rw [show (0 : Int32).toInt = 0 by decide] at h1
  have h2 := Int32.toInt_lt b
  refine ⟨b.toInt.toNat, by omega, Int32.toInt_inj.mp ?_⟩
  rw [nI_toInt (by omega)]
  omega
theorem zDig_n {b : Int32} (h : zbD b = true) : ∃ d : Nat, d ≤ 9 ∧ b = nI (48 + d) := by
  unfold zbD at h
  rw [decide_eq_true_eq] at h
  obtain ⟨h1, h2⟩ := h
  obtain ⟨k, hk, rfl⟩ : ∃ k : Nat, k < 2 ^ 31 ∧ b = nI k := nI_ex (Int32.le_trans (by decide) h1)
  have a := (nI_leI (a := 48) (by decide) hk).mp h1
  have b := (nI_leI (b := 57) hk (by decide)).mp h2
  exact ⟨k - 48, by omega, by congr 1; omega⟩
theorem zNumF_le (B : Nat → Int32) : ∀ (f i v : Nat), (v + 1) * 10 ^ f ≤ 10 ^ 4 → (∀ j, i ≤ j → j < i + f → zbD (B j) = true) → ∃ v2 : Nat, zNumF B f i (nI v) = nI v2 ∧ v2 ≤ 9999
  | 0, i, v, hv, _ => ⟨v, rfl, by omega⟩
  | f + 1, i, v, hv, h => by
    obtain ⟨d, hd, e⟩ := zDig_n (h i (Nat.le_refl _) (by omega))
    have e2 : nI v * 10 + B i - 48 = nI (10 * v + d) := by
      rw [e, show (10 : Int32) = nI 10 from rfl, pk_mul, nI_add, show (48 : Int32) = nI 48 from rfl, pk_sub (by omega)]
      congr 1
      omega
    unfold zNumF
    rw [e2]
    refine zNumF_le B f (i + 1) (10 * v + d) (Nat.le_trans ?_ hv) (fun j h1 h2 => h j (by omega) (by omega))
    rw [Nat.pow_succ, Nat.mul_comm (10 ^ f) 10, ← Nat.mul_assoc]
    exact Nat.mul_le_mul_right _ (by omega)
theorem zTk_n {B : Nat → Int32} {n i : Nat} (h : (zTk B n i).1 = 0) : ∃ v : Nat, v ≤ 9999 ∧ (zTk B n i).2.1 = nI v := by
  unfold zTk at h ⊢
  dsimp only at h ⊢
  split
  · exact ⟨0, by decide, rfl⟩
  · rename_i c1
    rw [if_neg c1] at h
    split
    · exact ⟨0, by decide, rfl⟩
    · rename_i c2
      rw [if_neg c2] at h
      split
      · rename_i c3
        rw [if_pos c3] at h
        dsimp only at h ⊢
        generalize zRun zbS B (n - i) i = pl at *
        generalize he : zRun zbD B (n - (pl + 1)) (pl + 1) = ed at *
        have ge := zRun_ge zbD B (n - (pl + 1)) (pl + 1)
        rw [he] at ge
        have l4 : ¬ 4 < ed - pl := fun z => by rw [if_pos z] at h; exact absurd h (by decide)
        obtain ⟨d, hd, e⟩ := zDig_n c3
        have e2 : B pl - 48 = nI d := by rw [e, show (48 : Int32) = nI 48 from rfl, pk_sub (by omega)]; congr 1; omega
        rw [e2]
        obtain ⟨v2, g1, g2⟩ := zNumF_le B (ed - (pl + 1)) (pl + 1) d (by
          have : ed - (pl + 1) ≤ 3 := by omega
          generalize ed - (pl + 1) = f at this
          match f, this with
          | 0, _ => omega
          | 1, _ => omega
          | 2, _ => omega
          | 3, _ => omega) (fun j h1 h2 => zRun_all (p := zbD) (n - (pl + 1)) (pl + 1) h1 (by rw [he]; omega))
        exact ⟨v2, g2, g1⟩
      · exact ⟨0, by decide, rfl⟩
theorem zUw_len (r : Nat) : ∀ (K : List Nat) (O : List Int32), (zUw r K O).1.length + (zUw r K O).2.length = K.length + O.length
  | [], O => rfl
  | s :: K, O => by
    unfold zUw
    split
    · rw [zUw_len r K]; simp; omega
    · rfl
def zTkV (t : zTkT) (tok val : Int32) : Prop := 0 ≤ t.1 ∧ t.1 ≤ 6 ∧ ((tok = 1 ∧ t.1 = 0 ∧ val = t.2.1) ∨ (tok = 2 ∧ ∃ k : Nat, k < 6 ∧ t.1 = nI (k + 1) ∧ val = nI k))
theorem zTR_v {t : zTkT} {tok val at_ : Int32} (h : zTR t tok val at_) : zTkV t tok val ∨ (¬ (0 ≤ t.1 ∧ t.1 ≤ 6) ∧ ¬ tok = 1 ∧ ¬ tok = 2 ∧ (tok = 6 ↔ t.1 = 12) ∧ (tok = 45 ↔ t.1 = 45) ∧ (tok = 40 ↔ t.1 = 40)) := by
  rcases h with ⟨h1, h2, -⟩ | ⟨-, -, h | ⟨k, h1, h2, h3, h4, h5⟩ | ⟨k, h1, h2, h3, h4⟩ | ⟨k, h1, h2, h3, h4⟩ | ⟨h1, h2⟩ | ⟨h1, h2⟩⟩
  · right; rw [h1, h2]; decide
  · left; exact ⟨by rw [h.1]; decide, by rw [h.1]; decide, Or.inl ⟨h.2.1, h.1, h.2.2⟩⟩
  · left
    refine ⟨by rw [h3]; exact nI_pos' (by omega), by rw [h3]; exact nI_le (b := 6) (by omega) (by decide), Or.inr ⟨h4, k - 3, by omega, by rw [h3]; congr 1; omega, h5⟩⟩
  · right
    rw [h2, h3]
    exact (by decide +kernel : ∀ k, k < 3 → (¬ (0 ≤ nI (7 + k) ∧ nI (7 + k) ≤ 6) ∧ ¬ (3 : Int32) = 1 ∧ ¬ (3 : Int32) = 2 ∧ ((3 : Int32) = 6 ↔ nI (7 + k) = 12) ∧ ((3 : Int32) = 45 ↔ nI (7 + k) = 45) ∧ ((3 : Int32) = 40 ↔ nI (7 + k) = 40))) k h1
  · right
    rw [h3, h4]
    exact (by decide +kernel : ∀ k, k < 12 → 9 ≤ k → (¬ (0 ≤ nI (k + 1) ∧ nI (k + 1) ≤ 6) ∧ ¬ nI (k - 5) = 1 ∧ ¬ nI (k - 5) = 2 ∧ (nI (k - 5) = 6 ↔ nI (k + 1) = 12) ∧ (nI (k - 5) = 45 ↔ nI (k + 1) = 45) ∧ (nI (k - 5) = 40 ↔ nI (k + 1) = 40))) k h2 h1
  · right
    rw [h2]
    rcases h1 with e | e | e | e | e | e | e | e <;> rw [e] <;> decide
  · right; rw [h1, h2]; decide
theorem zTR_a {t : zTkT} {tok val at_ : Int32} (h : zTR t tok val at_) : (tok = 59 ↔ t.1 = 59) ∧ (tok = 41 ↔ t.1 = 41) ∧ zSgR tok = (if zSg t.1 = 0 then -1 else nI (zSg t.1)) := by
  rcases h with ⟨h1, h2, -⟩ | ⟨-, -, h | ⟨k, h1, h2, h3, h4, h5⟩ | ⟨k, h1, h2, h3, h4⟩ | ⟨k, h1, h2, h3, h4⟩ | ⟨h1, h2⟩ | ⟨h1, h2⟩⟩
  · rw [h1, h2]; decide
  · rw [h.1, h.2.1]; decide
  · rw [h3, h4]
    exact (by decide +kernel : ∀ k, k < 9 → 3 ≤ k → (((2 : Int32) = 59 ↔ nI (k - 2) = 59) ∧ ((2 : Int32) = 41 ↔ nI (k - 2) = 41) ∧ zSgR 2 = (if zSg (nI (k - 2)) = 0 then -1 else nI (zSg (nI (k - 2)))))) k h2 h1
  · rw [h2, h3]
    exact (by decide +kernel : ∀ k, k < 3 → (((3 : Int32) = 59 ↔ nI (7 + k) = 59) ∧ ((3 : Int32) = 41 ↔ nI (7 + k) = 41) ∧ zSgR 3 = (if zSg (nI (7 + k)) = 0 then -1 else nI (zSg (nI (7 + k)))))) k h1
  · rw [h3, h4]
    exact (by decide +kernel : ∀ k, k < 12 → 9 ≤ k → ((nI (k - 5) = 59 ↔ nI (k + 1) = 59) ∧ (nI (k - 5) = 41 ↔ nI (k + 1) = 41) ∧ zSgR (nI (k - 5)) = (if zSg (nI (k + 1)) = 0 then -1 else nI (zSg (nI (k + 1)))))) k h2 h1
  · rw [h2]
    rcases h1 with e | e | e | e | e | e | e | e <;> rw [e] <;> decide
  · rw [h1, h2]; decide
theorem zTR_at {t : zTkT} {tok val at_ : Int32} (h : zTR t tok val at_) (hn : ¬ t.1 = -1) : at_ = nI t.2.2.2 := by
  rcases h with ⟨h1, -⟩ | ⟨-, h2, -⟩
  · exact absurd h1 hn
  · exact h2
theorem zSg_n (t : Int32) : zSg t = 0 ∨ zSg t = 11 ∨ zSg t = 12 ∨ (14 ≤ zSg t ∧ zSg t ≤ 18) := by
  unfold zSg
  grind
def zYF (M0 M : ab_M) (w o0 : Nat) : Prop := (∀ c, c ≠ 0 → c ≠ 13 → c ≠ 25 → M c = M0 c) ∧ (∀ j, ¬ (50 ≤ j ∧ j ≤ 53) → ¬ (56 ≤ j ∧ j ≤ 58) → M 0 j = M0 0 j) ∧ ∀ j, j < 200 * w + o0 → M 13 j = M0 13 j
theorem zYR_F {M0 M : ab_M} {w o0 : Nat} {K : List Nat} {O : List Int32} (h : zYR M0 M w o0 K O) : zYF M0 M w o0 :=
  ⟨h.1, h.2.1, fun j hj => by rw [h.2.2.2.2.2.2.2.2.1, zPut_lo _ _ _ _ (Or.inl hj)]⟩
theorem zYR_tok {M0 M : ab_M} {w o0 : Nat} {K : List Nat} {O : List Int32} {f : Nat → Int32} (h : zYR M0 M w o0 K O) (hf : ∀ j, j ≠ 50 → j ≠ 51 → j ≠ 52 → j ≠ 53 → f j = M 0 j) : zYR M0 (ab_u M 0 f) w o0 K O := by
  obtain ⟨a1, a2, a3, a4, a5, a6, a7, a8, a9, a10, a11⟩ := h
  refine ⟨fun c x y z => by rw [ab_u_ne _ _ x]; exact a1 c x y z, fun j x y => ?_, a3, a4, ?_, ?_, ?_, ?_, ?_, a10, a11⟩
  · rw [ab_u_eq, hf j (by omega) (by omega) (by omega) (by omega)]; exact a2 j x y
  · rw [ab_u_eq, hf _ (by decide) (by decide) (by decide) (by decide), a5]
  · rw [ab_u_eq, hf _ (by decide) (by decide) (by decide) (by decide), a6]
  · rw [ab_u_eq, hf _ (by decide) (by decide) (by decide) (by decide), a7]
  · rw [ab_u_ne _ _ (by decide)]; exact a8
  · rw [ab_u_ne _ _ (by decide)]; exact a9
/-- a sign between two values -/
def zThS (s : Nat) : Nat := if zRank s = 4 then 5 else zRank s
def zt_X12_between : ab_T := ab_lq (α := ab_M × Nat × Nat × List Nat × List Int32 × Nat) (fun x r M _ => r = [.int (nI x.2.2.2.2.2)] ∧ zYR x.1 M x.2.1 x.2.2.1 x.2.2.2.1 x.2.2.2.2.1 ∧ (x.2.2.2.2.2 = 11 ∨ x.2.2.2.2.2 = 12 ∨ (14 ≤ x.2.2.2.2.2 ∧ x.2.2.2.2.2 ≤ 18)) ∧ x.2.2.2.1.length + 1 + (x.2.2.1 + x.2.2.2.2.1.length) ≤ 160)
  (fun x M N o M2 N2 => N2 = N ∧ (∀ j, 50 ≤ j → j ≤ 53 → M2 0 j = M 0 j) ∧ ((zRank x.2.2.2.2.2 = 4 ∧ zHd4 (zUw 5 x.2.2.2.1 x.2.2.2.2.1).1 = true ∧ o = some (.int 0) ∧ zYF x.1 M2 x.2.1 x.2.2.1) ∨ ((zRank x.2.2.2.2.2 = 4 → zHd4 (zUw 5 x.2.2.2.1 x.2.2.2.2.1).1 = false) ∧ o = some (.int 1) ∧ zYR x.1 M2 x.2.1 x.2.2.1 (x.2.2.2.2.2 :: (zUw (zThS x.2.2.2.2.2) x.2.2.2.1 x.2.2.2.2.1).1) (zUw (zThS x.2.2.2.2.2) x.2.2.2.1 x.2.2.2.2.1).2)))
theorem zt_X12_between_mono : ab_mono zt_X12_between := ab_lq_mono _ _
theorem zV_X12_between : ab_recv zw_M vwCl RX12 zt_X12_between := ab_lq_v
def zp_X12_between : ab_P := [(0, .aload_n 0, 1, [0], []),
  (1, .iload_n 1, 2, [1], []),
  (2, .invokestatic 223, 5, [], []),
  (5, .iconst 4, 6, [], [4]),
  (6, .if_icmp .ne 7, 9, [13], []),
  (9, .iconst 5, 10, [], [5]),
  (10, .goto 7, 13, [17], []),
  (13, .iload_n 1, 14, [1], []),
  (14, .invokestatic 223, 17, [], []),
  (17, .invokevirtual 236, 20, [], []),
  (20, .iload_n 1, 21, [1], []),
  (21, .invokestatic 223, 24, [], []),
  (24, .iconst 4, 25, [], [4]),
  (25, .if_icmp .ne 30, 28, [55], []),
  (28, .aload_n 0, 29, [0], []),
  (29, .getfield 220, 32, [], []),
  (32, .ifCond .le 23, 35, [55], []),
  (35, .aload_n 0, 36, [0], []),
  (36, .getfield 135, 39, [], []),
  (39, .aload_n 0, 40, [0], []),
  (40, .getfield 220, 43, [], []),
  (43, .iconst 1, 44, [], [1]),
  (44, .isub, 45, [], []),
  (45, .iaload, 46, [], []),
  (46, .invokestatic 223, 49, [], []),
  (49, .iconst 4, 50, [], [4]),
  (50, .if_icmp .ne 5, 53, [55], []),
  (53, .iconst 0, 54, [], [0]),
  (54, .ireturn, 55, [], []),
  (55, .aload_n 0, 56, [0], []),
  (56, .iload_n 1, 57, [1], []),
  (57, .invokevirtual 233, 60, [], []),
  (60, .iconst 1, 61, [], [1]),
  (61, .ireturn, 62, [], [])]
theorem zo_X12_between : ab_ok cX12_between zp_X12_between = true := by decide +kernel
def zg_X12_between : ab_G := (zw_M, [], zf_X12, zc_X12, [], [(233, 2, zt_X12_holds), (236, 2, zt_X12_unwinds)], [(223, 1, zt_X12_rank)])
theorem zm_X12_between : ab_MG zg_X12_between := ab_MGof (List.forall_mem_cons.mpr ⟨zt_X12_holds_mono, List.forall_mem_cons.mpr ⟨zt_X12_unwinds_mono, List.forall_mem_nil _⟩⟩) (List.forall_mem_cons.mpr ⟨ab_pure_mono _, List.forall_mem_nil _⟩)
abbrev zr_X12_between (Q : ab_R) : ab_K := ab_Run zg_X12_between zp_X12_between (some .boolean) 2 Q
set_option maxRecDepth 20000 in
theorem zv_X12_between_0 {Q : ab_R} {M : ab_M} {N : ab_N} (l1 : Int32) (h : ((zrk l1) = (4 : Int32) → zt_X12_unwinds [.ref 0, .int (5 : Int32)] M N (fun r M2 N2 => zr_X12_between Q 20 [some (.ref 0), some (.int l1)] (ab_ol r []) M2 N2)) ∧ (¬ ((zrk l1) = (4 : Int32)) → zt_X12_unwinds [.ref 0, .int (zrk l1)] M N (fun r M2 N2 => zr_X12_between Q 20 [some (.ref 0), some (.int l1)] (ab_ol r []) M2 N2))) : zr_X12_between Q 0 [some (.ref 0), some (.int l1)] [] M N := ab_Run_s zm_X12_between (sp := [(20, [true, true]), (60, [false, false])]) 36 h
set_option maxRecDepth 20000 in
theorem zv_X12_between_20 {Q : ab_R} {M : ab_M} {N : ab_N} (l1 : Int32) (h : ((zrk l1) = (4 : Int32) → ((M 0 56) ≤ 0 → zt_X12_holds [.ref 0, .int l1] M N (fun r M2 N2 => zr_X12_between Q 60 [none, none] (ab_ol r []) M2 N2)) ∧ (¬ ((M 0 56) ≤ 0) → vp_in ((M 0 56) - (1 : Int32)) 200 ∧ (((zrk (M 25 ((M 0 56) - (1 : Int32)).toNatClampNeg)) = (4 : Int32) → narrow .boolean (.int (0 : Int32)) = .int (0 : Int32) ∧ Q (some (.int (0 : Int32))) M N) ∧ (¬ ((zrk (M 25 ((M 0 56) - (1 : Int32)).toNatClampNeg)) = (4 : Int32)) → zt_X12_holds [.ref 0, .int l1] M N (fun r M2 N2 => zr_X12_between Q 60 [none, none] (ab_ol r []) M2 N2))))) ∧ (¬ ((zrk l1) = (4 : Int32)) → zt_X12_holds [.ref 0, .int l1] M N (fun r M2 N2 => zr_X12_between Q 60 [none, none] (ab_ol r []) M2 N2))) : zr_X12_between Q 20 [some (.ref 0), some (.int l1)] [] M N := ab_Run_s zm_X12_between (sp := [(20, [true, true]), (60, [false, false])]) 36 h
set_option maxRecDepth 20000 in
theorem zv_X12_between_60 {Q : ab_R} {M : ab_M} {N : ab_N}  (h : narrow .boolean (.int (1 : Int32)) = .int (1 : Int32) ∧ Q (some (.int (1 : Int32))) M N) : zr_X12_between Q 60 [none, none] [] M N := ab_Run_s zm_X12_between (sp := [(20, [true, true]), (60, [false, false])]) 36 h
theorem zL_X12_between {k : ab_R} {N : ab_N} {M0 M : ab_M} {w o0 s : Nat} {K : List Nat} {O : List Int32} (h : zYR M0 M w o0 K O) (hs : s = 11 ∨ s = 12 ∨ (14 ≤ s ∧ s ≤ 18)) (hl : K.length + 1 + (o0 + O.length) ≤ 160) (k0 : ∀ M2, zRank s = 4 → zHd4 (zUw 5 K O).1 = true → (∀ j, 50 ≤ j → j ≤ 53 → M2 0 j = M 0 j) → zYF M0 M2 w o0 → k (some (.int 0)) M2 N) (k1 : ∀ M2, (zRank s = 4 → zHd4 (zUw 5 K O).1 = false) → (∀ j, 50 ≤ j → j ≤ 53 → M2 0 j = M 0 j) → zYR M0 M2 w o0 (s :: (zUw (zThS s) K O).1) (zUw (zThS s) K O).2 → k (some (.int 1)) M2 N) : zr_X12_between k 0 [some (.ref 0), some (.int (nI s))] [] M N := by
  have s20 : s < 20 := by omega
  have ne4 : zrk (nI s) = 4 ↔ zRank s = 4 := by
    rw [zrk_n s s20]
    exact nI_eq (by have := zRank_le s; omega) (by decide)
  have th1 : 1 ≤ zThS s ∧ zThS s ≤ 7 := by
    have : ∀ s, s < 20 → (s = 11 ∨ s = 12 ∨ (14 ≤ s ∧ s ≤ 18)) → 1 ≤ zThS s ∧ zThS s ≤ 7 := by decide +kernel
    exact this s s20 hs
  have so : zOp (s :: (zUw (zThS s) K O).1) = zOp (zUw (zThS s) K O).1 := by
    show (if s = 0 ∨ s = 13 ∨ s = 19 then 1 else 0) + zOp (zUw (zThS s) K O).1 = _
    rw [if_neg (by omega), Nat.zero_add]
  have ul := zUw_len (zThS s) K O
  -- a sign is held
  have hold : ∀ M1 : ab_M, zYR M0 M1 w o0 (zUw (zThS s) K O).1 (zUw (zThS s) K O).2 → (∀ j, 50 ≤ j → j ≤ 53 → M1 0 j = M 0 j) → (zRank s = 4 → zHd4 (zUw 5 K O).1 = false) → zt_X12_holds [.ref 0, .int (nI s)] M1 N (fun r M2 N2 => zr_X12_between k 60 [none, none] (ab_ol r []) M2 N2) := by
    intro M1 g1 g2 g3
    obtain ⟨a1, a2, a3, a4, a5, a6, a7, a8, a9, a10, a11⟩ := id g1
    refine ⟨((zUw (zThS s) K O).1.length, nI s), _, rfl, ⟨rfl, a5, by dsimp only; omega⟩, ?_⟩
    rintro o M2 N2 ⟨rfl, rfl, rfl⟩
    refine zv_X12_between_60 ⟨ab_n1, k1 _ g3 (fun j x y => ?_) (zYR_hold g1 (fun q hq => by dsimp only; rw [ab_u_ne _ _ hq]) (fun j x y => ?_) ?_ ?_ ?_ (by omega) (by omega))⟩
    · dsimp only; rw [ab_u_eq, upd_ne _ _ (by omega)]; exact g2 j x y
    · dsimp only; rw [ab_u_eq, upd_ne _ _ (by omega)]
    · dsimp only; rw [ab_u_eq, upd_eq]
    · dsimp only; rw [ab_u_eq, upd_ne _ _ (by decide), a6, so]
    · dsimp only; rw [ab_u_eq, upd_ne _ _ (by decide)]
  have mid : ∀ M1 : ab_M, zYR M0 M1 w o0 (zUw (zThS s) K O).1 (zUw (zThS s) K O).2 → (∀ j, 50 ≤ j → j ≤ 53 → M1 0 j = M 0 j) → zr_X12_between k 20 [some (.ref 0), some (.int (nI s))] [] M1 N := by
    intro M1 g1 g2
    obtain ⟨a1, a2, a3, a4, a5, a6, a7, a8, a9, a10, a11⟩ := id g1
    refine zv_X12_between_20 _ ⟨fun c => ?_, fun c => hold M1 g1 g2 (fun z => absurd (ne4.mpr z) c)⟩
    have r4 := ne4.mp c
    have t5 : zThS s = 5 := by unfold zThS; rw [if_pos r4]
    rw [t5] at a5 a8 a10 a11 g1 ul hold
    rw [a5]
    cases hK : (zUw 5 K O).1 with
    | nil => exact ⟨fun _ => hold M1 g1 g2 (fun _ => by rw [hK]; rfl), fun c => absurd (by decide) c⟩
    | cons s2 K2 =>
      rw [hK] at a8 a10 a11
      have h2 := a10 s2 List.mem_cons_self
      rw [List.length_cons] at a11 ⊢
      rw [nI_pred, nI_clamp (show K2.length < 2 ^ 31 by omega), a8.1]
      have ne : zrk (nI s2) = 4 ↔ zRank s2 = 4 := by
        rw [zrk_n s2 (by omega)]
        exact nI_eq (by have := zRank_le s2; omega) (by decide)
      refine ⟨fun z => absurd z (nI_nle (by omega) (by omega)), fun _ => ⟨nI_in_ (by omega), fun c2 => ⟨ab_n0, k0 M1 r4 (by rw [hK]; exact decide_eq_true (ne.mp c2)) g2 (zYR_F g1)⟩, fun c2 => hold M1 g1 g2 (fun _ => by rw [hK]; exact decide_eq_false (fun z => c2 (ne.mpr z)))⟩⟩
  have go : zt_X12_unwinds [.ref 0, .int (nI (zThS s))] M N (fun r M2 N2 => zr_X12_between k 20 [some (.ref 0), some (.int (nI s))] (ab_ol r []) M2 N2) := by
    refine ⟨(M0, w, o0, K, O, zThS s), _, rfl, ⟨rfl, h, th1⟩, ?_⟩
    rintro o M2 N2 ⟨rfl, rfl, g1, g2⟩
    exact mid M2 g1 g2
  refine zv_X12_between_0 _ ⟨fun c => ?_, fun c => ?_⟩
  · rw [show zThS s = 5 by unfold zThS; rw [if_pos (ne4.mp c)]] at go
    exact go
  · rw [show zThS s = zRank s by unfold zThS; rw [if_neg (fun z => c (ne4.mpr z))]] at go
    rw [zrk_n s s20]
    exact go
theorem zE_X12_between (as : List Value) (M : ab_M) (N : ab_N) (k : ab_R) (hT : zt_X12_between as M N k) : ab_cs as ≤ 2 ∧ zr_X12_between k 0 (ab_en as) [] M N := by
  obtain ⟨⟨M0, w, o0, K, O, s⟩, q, rfl, ⟨rfl, h, h1, h2⟩, hk⟩ := hT
  dsimp only at h h1 h2 hk ⊢
  refine ⟨Nat.le_of_ble_eq_true rfl, zL_X12_between h h1 h2 (fun M2 a b c d => hk _ _ _ ⟨rfl, c, Or.inl ⟨a, b, rfl, d⟩⟩) (fun M2 a b c => hk _ _ _ ⟨rfl, b, Or.inr ⟨a, rfl, c⟩⟩)⟩
abbrev zR_X12_between : Room := { frames := 2, cells := 0, slots := 0, locals := 43 }
set_option maxRecDepth 20000 in
theorem zM_X12_between (l : Launch) : ab_Met l zw_M vwCl zZ_M yX12_between cX12_between 2 (some .boolean) zR_X12_between zt_X12_between := ab_ofRun (G := zg_X12_between) (P := zp_X12_between) rfl zo_X12_between (by decide +kernel) zl_cl zl_lamM zf_X12_ok ab_Tab_nil zc_X12_ok ab_Sta_nil (List.forall_mem_cons.mpr ⟨ab_callV zZ_M_ok (zM_X12_holds l) (ab_in 1262 (by decide +kernel) rfl) (ab_in 1259 (by decide +kernel) rfl) (ab_in 1261 (by decide +kernel) rfl) (ab_inS (List.mem_of_getElem? (i := 34) (by decide +kernel)) rfl) (ab_in 17 (by decide +kernel) rfl) (by unfold ab_yok; decide +kernel) ⟨rfl, rfl⟩ (by decide) zV_X12_holds, List.forall_mem_cons.mpr ⟨ab_callV zZ_M_ok (zM_X12_unwinds l) (ab_in 1251 (by decide +kernel) rfl) (ab_in 1248 (by decide +kernel) rfl) (ab_in 1250 (by decide +kernel) rfl) (ab_inS (List.mem_of_getElem? (i := 32) (by decide +kernel)) rfl) (ab_in 17 (by decide +kernel) rfl) (by unfold ab_yok; decide +kernel) ⟨rfl, rfl⟩ (by decide) zV_X12_unwinds, List.forall_mem_nil _⟩⟩) (List.forall_mem_cons.mpr ⟨ab_callS zZ_M_ok (zM_X12_rank l) (ab_in 1254 (by decide +kernel) rfl) (ab_in 1252 (by decide +kernel) rfl) (ab_in 1253 (by decide +kernel) rfl) (ab_in 17 (by decide +kernel) rfl) (by unfold ab_yok; decide +kernel) ⟨rfl, rfl⟩ (by decide), List.forall_mem_nil _⟩) zE_X12_between
