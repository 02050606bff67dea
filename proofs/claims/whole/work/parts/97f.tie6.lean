/-! both side by side: text, image, back *)
-/
section Cg
variable {B B2 : Nat → Int32} {n : Nat}
theorem zRun_cg (h : ∀ j, j < n → B j = B2 j) (p : Int32 → Bool) : ∀ (f i : Nat), (f = 0 ∨ i + f ≤ n) → zRun p B f i = zRun p B2 f i
  | 0, i, _ => rfl
  | f + 1, i, hf => by
    unfold zRun
    rw [h i (by omega), zRun_cg h p f (i + 1) (by omega)]
theorem zNumF_cg (h : ∀ j, j < n → B j = B2 j) : ∀ (f i : Nat) (a : Int32), (f = 0 ∨ i + f ≤ n) → zNumF B f i a = zNumF B2 f i a
  | 0, i, a, _ => rfl
  | f + 1, i, a, hf => by
    unfold zNumF
    rw [h i (by omega), zNumF_cg h f (i + 1) _ (by omega)]
theorem zWt_cg (h : ∀ j, j < n → B j = B2 j) {pl bh : Nat} (hb : bh ≤ n) : ∀ (l : List Int32) (w : Int32) (i : Nat) (sm : Bool), zWt B pl bh l w i sm = zWt B2 pl bh l w i sm
  | [], w, i, sm => rfl
  | c :: r, w, i, sm => by
    unfold zWt
    have e : (sm && decide (i < bh) && decide (B i = c)) = (sm && decide (i < bh) && decide (B2 i = c)) := by
      by_cases hi : i < bh
      · rw [h i (by omega)]
      · rw [decide_eq_false hi, Bool.and_false, Bool.false_and, Bool.false_and]
    rw [e, zWt_cg h hb r (w + 1) pl true, zWt_cg h hb r w (i + 1)]
theorem zTk_cg (h : ∀ j, j < n → B j = B2 j) (i : Nat) : zTk B n i = zTk B2 n i := by
  unfold zTk
  have e1 : zRun zbS B (n - i) i = zRun zbS B2 (n - i) i := zRun_cg h _ _ _ (by omega)
  dsimp only
  rw [e1]
  generalize zRun zbS B2 (n - i) i = pl
  by_cases hp : n ≤ pl
  · rw [if_pos hp, if_pos hp]
  · rw [if_neg hp, if_neg hp]
    have e2 : zRun zbL B (n - (pl + 1)) (pl + 1) = zRun zbL B2 (n - (pl + 1)) (pl + 1) := zRun_cg h _ _ _ (by omega)
    have e3 : zRun zbD B (n - (pl + 1)) (pl + 1) = zRun zbD B2 (n - (pl + 1)) (pl + 1) := zRun_cg h _ _ _ (by omega)
    have e4 : B pl = B2 pl := h pl (by omega)
    have l2 : zRun zbL B2 (n - (pl + 1)) (pl + 1) ≤ n := zRun_lt (by omega)
    have l3 : zRun zbD B2 (n - (pl + 1)) (pl + 1) ≤ n := zRun_lt (by omega)
    rw [e2, e3, e4]
    generalize zRun zbL B2 (n - (pl + 1)) (pl + 1) = el at l2 ⊢
    generalize zRun zbD B2 (n - (pl + 1)) (pl + 1) = ed at l3 ⊢
    have e5 : zWd B pl el = zWd B2 pl el := zWt_cg h l2 _ _ _ _
    have e6 : zNumF B (ed - (pl + 1)) (pl + 1) (B2 pl - 48) = zNumF B2 (ed - (pl + 1)) (pl + 1) (B2 pl - 48) := zNumF_cg h _ _ _ (by omega)
    rw [e5, e6]
theorem zYs1_cg (h : ∀ j, j < n → B j = B2 j) (w mn : Bool) (i : Nat) (K : List Nat) (O : List Int32) : zYs1 B n w mn i K O = zYs1 B2 n w mn i K O := by
  unfold zYs1
  rw [zTk_cg h i]
theorem zYm_cg (h : ∀ j, j < n → B j = B2 j) : ∀ (m : Nat) (s : zYs), zYm B n m s = zYm B2 n m s
  | 0, s => rfl
  | m + 1, s => by
    unfold zYm
    rw [zYs1_cg h]
    cases zYs1 B2 n s.1 s.2.1 s.2.2.1 s.2.2.2.1 s.2.2.2.2 with
    | inl s2 => exact zYm_cg h m s2
    | inr r => rfl
theorem zYd_cg (h : ∀ j, j < n → B j = B2 j) {s : zYs} {r : zYr} (hy : zYd B n s r) : zYd B2 n s r := by
  obtain ⟨m, hm⟩ := hy
  exact ⟨m, by rw [← zYm_cg h]; exact hm⟩
theorem zTx_cg (h : ∀ j, j < n → B j = B2 j) : ∀ (r i : Nat) (res : zTr), zTx B n r i res → zTx B2 n r i res
  | 0, i, res, hx => by
    unfold zTx at hx ⊢
    rw [← zTk_cg h i]
    exact hx
  | r + 1, i, res, hx => by
    unfold zTx at hx ⊢
    rw [← zTk_cg h i]
    rcases hx with ⟨h1, ⟨p, a, e⟩ | ⟨i2, O, a, ⟨p, b, e⟩ | ⟨l, b, e⟩⟩⟩ | hx
    · exact Or.inl ⟨h1, Or.inl ⟨p, zYd_cg h a, e⟩⟩
    · exact Or.inl ⟨h1, Or.inr ⟨i2, O, zYd_cg h a, Or.inl ⟨p, zTx_cg h r i2 _ b, e⟩⟩⟩
    · exact Or.inl ⟨h1, Or.inr ⟨i2, O, zYd_cg h a, Or.inr ⟨l, zTx_cg h r i2 _ b, e⟩⟩⟩
    · exact Or.inr hx
end Cg
/-- codes that stand elsewhere change nothing -/
theorem zEval_cd {code code2 nm : Nat → Int32} : ∀ (m n : Nat) (st : List Int32), (∀ j, n ≤ j → j < n + m → code j = code2 j) → zEval code nm n m st = zEval code2 nm n m st
  | 0, n, st, _ => rfl
  | m + 1, n, st, h => by
    show zEval code nm (n + 1) m (zStep nm (code n) st) = zEval code2 nm (n + 1) m (zStep nm (code2 n) st)
    rw [h n (Nat.le_refl _) (by omega)]
    exact zEval_cd m (n + 1) _ (fun j a b => h j (by omega) (by omega))
theorem zTextEq_lo {C C2 M M2 : ab_M} {t w : Nat} (h : zTextEq C M t) (ht : t < w) (h31 : ∀ j, j < w * 160 → C2 31 j = C 31 j) (h32 : ∀ j, j < w * 3 → C2 32 j = C 32 j) (h13 : ∀ j, j < 200 * w → M2 13 j = M 13 j) (h14 : ∀ j, j < 4 * w → M2 14 j = M 14 j) : zTextEq C2 M2 t := by
  obtain ⟨O0, O1, O2, f0, f1, f2, hl, a0, a1, a2, a3, b0, b1, b2, b3, b4⟩ := h
  have hj : ∀ (j : Nat) (x : Int32), (O0 ++ O1 ++ O2)[j]? = some x → j < 160 := fun j x hx => by
    have := (List.getElem?_eq_some_iff.mp hx).1
    simp only [List.length_append] at this
    omega
  refine ⟨O0, O1, O2, f0, f1, f2, hl, ?_, ?_, ?_, fun j x hx => ?_, ?_, ?_, ?_, ?_, fun j x hx => ?_⟩
  · rw [h32 _ (by omega)]; exact a0
  · rw [h32 _ (by omega)]; exact a1
  · rw [h32 _ (by omega)]; exact a2
  · have := hj j x hx
    rw [h31 _ (by omega)]
    exact a3 j x hx
  · rw [h14 _ (by omega)]; exact b0
  · rw [h14 _ (by omega)]; exact b1
  · rw [h14 _ (by omega)]; exact b2
  · rw [h14 _ (by omega)]; exact b3
  · have := hj j x hx
    rw [h13 _ (by omega)]
    exact b4 j x hx
theorem zAskN_lo {C C2 : ab_M} {w : Nat} (hL : zLawOK C) {t : Nat} (ht : t < w) (hw : w ≤ 6) (h33 : C 3 3 = nI t) (e33 : C2 3 3 = C 3 3) (h31 : ∀ j, j < w * 160 → C2 31 j = C 31 j) (h32 : ∀ j, j < w * 3 → C2 32 j = C 32 j) (h13 : C2 13 = C 13) (h14 : C2 14 = C 14) (h17 : C2 17 2 = C 17 2) (h18 : C2 18 = C 18) {th : Nat} (hth : th < 3) (p h is by_ : Nat) : zAskN C2 th p h is by_ = zAskN C th p h is by_ := by
  obtain ⟨v, e0, e1, e2, v6, v3, q0, q1, q2, l0, l1, l2, l3⟩ := hL
  have : v = t := (nI_eq (by omega) (by omega)).mp (v3.symm.trans h33)
  subst this
  have e : zNm C2 p h is by_ = zNm C p h is by_ := by
    funext j
    unfold zNm
    rw [h13, h14, h17, h18]
  have hv : (C 3 3).toNatClampNeg = v := by rw [h33, nI_clamp (by omega)]
  have eF : zFrom C2 th = zFrom C th := by
    unfold zFrom
    rw [e33, hv]
    by_cases z : th = 0
    · rw [if_pos z, if_pos z]
    · rw [if_neg z, if_neg z, h32 _ (by omega)]
  have eT : zTo C2 th = zTo C th := by
    unfold zTo
    rw [e33, hv, h32 _ (by omega)]
  have bF : zFrom C th + (zTo C th - zFrom C th) ≤ w * 160 := by
    unfold zFrom zTo
    rw [hv]
    match th, hth with
    | 0, _ =>
      rw [if_pos rfl, Nat.add_zero, q0, nI_clamp (by omega)]
      omega
    | 1, _ =>
      rw [if_neg (by decide), show v * 3 + 1 - 1 = v * 3 by omega, q0, q1, nI_clamp (by omega), nI_clamp (by omega)]
      omega
    | 2, _ =>
      rw [if_neg (by decide), show v * 3 + 2 - 1 = v * 3 + 1 by omega, q1, q2, nI_clamp (by omega), nI_clamp (by omega)]
      omega
  unfold zAskN zVal
  rw [e, eF, eT, zEval_cd _ _ _ (fun j a b => h31 j (by omega))]
theorem zRt_lt (row : Nat) : zRt row < 3 := by
  unfold zRt
  split
  · decide
  · split <;> decide
theorem zAsks_lo {C C2 : ab_M} (h : zAsks C) {t w : Nat} (ht : t < w) (hw : w ≤ 6) (h33 : C 3 3 = nI t) (e33 : C2 3 3 = C 3 3) (h31 : ∀ j, j < w * 160 → C2 31 j = C 31 j) (h32 : ∀ j, j < w * 3 → C2 32 j = C 32 j) (h5 : C2 5 4 = C 5 4) (h13 : C2 13 = C 13) (h14 : C2 14 = C 14) (h15 : C2 15 = C 15) (h17 : C2 17 = C 17) (h18 : C2 18 = C 18) (h36 : C2 36 = C 36) : zAsks C2 := by
  obtain ⟨hL, ⟨age, a1, a2, a3, a4⟩, h3⟩ := h
  refine ⟨?_, ⟨age, a1, a2, by rw [h5]; exact a3, fun row p h is b1 b2 b3 b4 b5 => ?_⟩, by rw [h15]; exact h3⟩
  · obtain ⟨v, e0, e1, e2, v6, v3, q0, q1, q2, l⟩ := hL
    have : v = t := (nI_eq (by omega) (by omega)).mp (v3.symm.trans h33)
    subst this
    exact ⟨v, e0, e1, e2, v6, by rw [e33]; exact v3, by rw [h32 _ (by omega)]; exact q0, by rw [h32 _ (by omega)]; exact q1, by rw [h32 _ (by omega)]; exact q2, l⟩
  · rw [h36, zAskN_lo hL ht hw h33 e33 h31 h32 h13 h14 (by rw [h17]) h18 (zRt_lt row)]
    exact a4 row p h is b1 b2 b3 b4 b5
theorem zInv_text {b : Nat} {C M C2 M2 : ab_M} {N : ab_N} (h : zInv b C M N) {w : Nat} (w1 : 1 ≤ w) (w5 : w < 6) (hw : C 3 2 = nI w) (hC : zFr [3, 4, 31, 32] C C2) (c4 : C2 4 2 = 0) (c31 : ∀ j, j < w * 160 → C2 31 j = C 31 j) (c32 : ∀ j, j < w * 3 → C2 32 j = C 32 j) (c3 : ∀ j, j ≠ 2 → C2 3 j = C 3 j) (hM : ∀ c, c ≠ 0 → c ≠ 13 → c ≠ 14 → c ≠ 25 → M2 c = M c) (m0 : ∀ j, j ≠ 20 → j ≠ 23 → ¬ (50 ≤ j ∧ j ≤ 53) → ¬ (56 ≤ j ∧ j ≤ 58) → M2 0 j = M 0 j) (m20 : M2 0 20 = 0) (m13 : ∀ j, j < 200 * w → M2 13 j = M 13 j) (m14 : ∀ j, j < 4 * w → M2 14 j = M 14 j) (hn : (C2 3 2 = C 3 2 ∧ M2 0 23 = M 0 23) ∨ (C2 3 2 = nI (w + 1) ∧ M2 0 23 = nI (w + 1) ∧ zTextEq C2 M2 w)) : zInv b C2 M2 N := by
  obtain ⟨⟨h1, h2, h3⟩, ⟨a, g1, g2, g3⟩, i3, i4, ⟨v, ⟨v1, v2⟩, x2, x3, x4, t0, t1, y2, y3⟩, i6⟩ := h
  have : v = w := (nI_eq (by omega) (by omega)).mp (x2.symm.trans hw)
  subst this
  have e : ∀ c, c ∉ [3, 4, 31, 32] → C2 c = C c := hC
  have z0 : ∀ j, j ≠ 20 → j ≠ 23 → j ≤ 49 → M2 0 j = M 0 j := fun j a b c => m0 j a b (by omega) (by omega)
  have tx : ∀ t, t < v → zTextEq C2 M2 t := fun t ht => zTextEq_lo (x4 t ht) ht c31 c32 m13 m14
  have X : zInvX C2 M2 := by
    rcases hn with ⟨n1, n2⟩ | ⟨n1, n2, n3⟩
    · exact ⟨v, ⟨v1, v2⟩, by rw [n1]; exact x2, by rw [n2]; exact x3, tx, t0, t1, by rw [c3 3 (by decide)]; exact y2, by rw [z0 24 (by decide) (by decide) (by decide)]; exact y3⟩
    · refine ⟨v + 1, ⟨by omega, by omega⟩, n1, n2, fun t ht => ?_, t0, by omega, by rw [c3 3 (by decide)]; exact y2, by rw [z0 24 (by decide) (by decide) (by decide)]; exact y3⟩
      by_cases q : t = v
      · rw [q]; exact n3
      · exact tx t (by omega)
  refine ⟨⟨?_, zAsks_lo h2 t1 v2 y2 (c3 3 (by decide)) c31 c32 (by rw [e 5 (by decide)]) (e 13 (by decide)) (e 14 (by decide)) (e 15 (by decide)) (e 17 (by decide)) (e 18 (by decide)) (e 36 (by decide)), ?_⟩, ⟨a, g1, g2, by rw [e 5 (by decide)]; exact g3⟩, zInvS_fr i3 (e 43 (by decide)) (e 44 (by decide)) (e 45 (by decide)) (hM 21 (by decide) (by decide) (by decide) (by decide)) (hM 22 (by decide) (by decide) (by decide) (by decide)) (hM 23 (by decide) (by decide) (by decide) (by decide)), ?_, X, ?_⟩
  · obtain ⟨⟨⟨a1, a2, a3, a4, a5, a6, a7, a8⟩, ⟨b1, b2, b3, b4, b5, b6, b7, b8, b9, b10, b11⟩, ⟨k1, k2, k3, k4, k5⟩, -⟩, j0, j1, j2, j3⟩ := h1
    have e1 := e 1 (by decide)
    have e2 := e 2 (by decide)
    have e6 := e 6 (by decide)
    have e15 := e 15 (by decide)
    have e16 := e 16 (by decide)
    have e17 := e 17 (by decide)
    refine ⟨⟨⟨?_, ?_, ?_, ?_, ?_, ?_, ?_, ?_⟩, ⟨?_, ?_, ?_, ?_, ?_, ?_, ?_, ?_, ?_, ?_, ?_⟩, ⟨?_, ?_, ?_, ?_, ?_⟩, t0, by omega, by rw [c3 3 (by decide)]; exact y2, by rw [z0 24 (by decide) (by decide) (by decide)]; exact y3, tx t0 t1⟩, ?_, ?_, ?_, ?_⟩
    · rw [e17, z0 0 (by decide) (by decide) (by decide)]; exact a1
    · rw [e17, z0 1 (by decide) (by decide) (by decide)]; exact a2
    · rw [e17, z0 2 (by decide) (by decide) (by decide)]; exact a3
    · rw [e17, z0 3 (by decide) (by decide) (by decide)]; exact a4
    · rw [e17, z0 4 (by decide) (by decide) (by decide)]; exact a5
    · rw [e1, z0 5 (by decide) (by decide) (by decide)]; exact a6
    · rw [e1, z0 7 (by decide) (by decide) (by decide)]; exact a7
    · rw [e2, z0 12 (by decide) (by decide) (by decide)]; exact a8
    · rw [e 18 (by decide), hM 1 (by decide) (by decide) (by decide) (by decide)]; exact b1
    · rw [e 13 (by decide), hM 2 (by decide) (by decide) (by decide) (by decide)]; exact b2
    · rw [e 14 (by decide), hM 3 (by decide) (by decide) (by decide) (by decide)]; exact b3
    · rw [e15, hM 4 (by decide) (by decide) (by decide) (by decide)]; exact b4
    · rw [e16, hM 5 (by decide) (by decide) (by decide) (by decide)]; exact b5
    · rw [e 25 (by decide), hM 6 (by decide) (by decide) (by decide) (by decide)]; exact b6
    · rw [e 26 (by decide), hM 7 (by decide) (by decide) (by decide) (by decide)]; exact b7
    · rw [e 27 (by decide), hM 8 (by decide) (by decide) (by decide) (by decide)]; exact b8
    · rw [e 28 (by decide), hM 9 (by decide) (by decide) (by decide) (by decide)]; exact b9
    · rw [e 29 (by decide), hM 10 (by decide) (by decide) (by decide) (by decide)]; exact b10
    · rw [e 30 (by decide), hM 11 (by decide) (by decide) (by decide) (by decide)]; exact b11
    · rw [e6, z0 30 (by decide) (by decide) (by decide)]; exact k1
    · rw [e6, z0 27 (by decide) (by decide) (by decide)]; exact k2
    · rw [e6, z0 28 (by decide) (by decide) (by decide), z0 29 (by decide) (by decide) (by decide)]; exact k3
    · rw [e6, z0 25 (by decide) (by decide) (by decide)]; exact k4
    · rw [e6, z0 26 (by decide) (by decide) (by decide)]; exact k5
    · unfold zI0 at j0 ⊢
      rw [e17, e1, e2]
      exact j0
    · unfold zI1 zMen at j1 ⊢
      rw [e2, e 25 (by decide), e 26 (by decide), e 27 (by decide), e 28 (by decide), e 29 (by decide), e1, e6]
      exact j1
    · rw [e15]; exact j2
    · rw [e16]; exact j3
  · unfold zT6 at h3 ⊢
    rw [e 6 (by decide)]
    exact h3
  · obtain ⟨n, -, ⟨-, -, -, r4⟩, -⟩ := i4
    exact ⟨0, ⟨by decide, by rw [c4]; rfl, fun j hj => absurd hj (Nat.not_lt_zero _)⟩, ⟨by decide, by rw [m20]; rfl, fun j hj => absurd hj (Nat.not_lt_zero _), r4⟩, fun j hj => absurd hj (Nat.not_lt_zero _)⟩
  · refine ⟨by rw [e 10 (by decide), z0 31 (by decide) (by decide) (by decide)]; exact i6.1, fun z => ?_⟩
    rw [e 10 (by decide)] at z
    obtain ⟨np, nm, q1, q2⟩ := i6.2 z
    refine ⟨np, nm, zImN_fr q1 (e 10 (by decide)) (e 12 (by decide)) (e 21 (by decide)) (e 22 (by decide)) (e 23 (by decide)) (e 46 (by decide)) ?_, zImE_fr q2 (e 10 (by decide)) (e 12 (by decide)) (e 19 (by decide)) (e 20 (by decide)) (e 21 (by decide)) (e 22 (by decide)) (e 23 (by decide)) (e 24 (by decide)) (e 46 (by decide)) (fun c a b => hM c (by omega) (by omega) (by omega) (by omega)) (fun j a b => z0 j (by omega) (by omega) (by omega))⟩
    rcases hn with ⟨n1, -⟩ | ⟨n1, -⟩
    · exact ⟨v, v, Nat.le_refl _, v2, x2, by rw [n1]; exact x2⟩
    · exact ⟨v, v + 1, by omega, by omega, x2, n1⟩
theorem zTie_text {b : Nat} {C M : ab_M} {N Nc : ab_N} (h : zInv b C M N) : zt_X11_text [.ref 0] C Nc (fun r C2 _ => zt_X12_text [.ref 0] M N (fun r2 M2 N2 => zOu b r r2 C2 M2 N2)) := by
  obtain ⟨n, ⟨t1, t2, t3⟩, hr, hq⟩ := h.2.2.2.1
  obtain ⟨w, ⟨w1, w2⟩, x2, x3, -⟩ := h.2.2.2.2.1
  refine ⟨rfl, n, w, x2, w2, ⟨t1, t2, t3⟩, fun ew => ?_, fun hw res o C2 hx hC => ?_⟩
  · refine ⟨(n, w), _, rfl, ⟨rfl, x3, w2, fun z => absurd z (by dsimp only; omega)⟩, ?_⟩
    rintro o2 M2 N2 ⟨rfl, ⟨-, rfl, rfl⟩ | ⟨z, -⟩⟩
    · exact ⟨⟨_, rfl, rfl⟩, h⟩
    · dsimp only at z
      omega
  · refine ⟨(n, w), _, rfl, ⟨rfl, x3, w2, fun _ => hr⟩, ?_⟩
    rintro o2 M2 N2 ⟨rfl, ⟨z, -⟩ | ⟨-, res2, hx2, hM⟩⟩
    · dsimp only at z
      omega
    · obtain ⟨eo, cs⟩ := zTextEq_new (zTx_cg hq 3 0 _ hx) hx2 hC hM
      have hv : ∃ v : Int32, o = some (.int v) := by
        obtain ⟨-, -, -, -, -, ⟨p, -, -, z, -⟩ | ⟨O0, O1, O2, -, z, -⟩⟩ := hC
        · exact ⟨_, z⟩
        · exact ⟨_, z⟩
      obtain ⟨v, rfl⟩ := hv
      obtain ⟨f1, f2, f3, f4, f5, -⟩ := hC
      obtain ⟨g1, g2, g3, g4, g5, -⟩ := hM
      refine ⟨⟨v, rfl, eo.symm⟩, zInv_text h w1 hw x2 (fun c hc => ?_) (by rw [ab_u_eq, upd_eq]) f3 f4 f5 g1 g2 g3 g4 g5 ?_⟩
      · have := hc
        simp only [List.mem_cons, List.not_mem_nil, or_false] at this
        rw [ab_u_ne _ _ (by omega)]
        exact f1 c hc
      · rcases cs with z | ⟨z1, z2, z3⟩
        · exact Or.inl z
        · exact Or.inr ⟨z1, z2, zTextEq_fc z3 rfl rfl⟩
theorem zTie_image {b : Nat} {C M : ab_M} {N Nc : ab_N} (h : zInv b C M N) : zt_X11_image [.ref 0] C Nc (fun r C2 _ => zt_X12_image [.ref 0] M N (fun r2 M2 N2 => zOu b r r2 C2 M2 N2)) := by
  refine ab_m0_i h.1.1.2.1 ?_
  rintro o C2 Nc2 ⟨-, rfl, hC, ⟨p1, p2⟩, ⟨p3, p4, p5⟩, p6, p7, p8, p9⟩
  refine ⟨(), _, rfl, rfl, ?_⟩
  rintro o2 M2 N2 ⟨rfl, rfl, hM, m0, ⟨q1, q2, q3⟩, ⟨q4, q5, q6, q7, q8⟩, ⟨q9, q10⟩, q11, ⟨q12, q13, q14, q15⟩, q16⟩
  obtain ⟨n7, n8⟩ := zInv_p h
  obtain ⟨n12, m5⟩ := zInv_m5 h
  obtain ⟨c7, -⟩ := zP_eq h.1.1.2.1
  obtain ⟨c12, -⟩ := zM_eq h.1.1.2.1
  obtain ⟨⟨h1, h2, h3⟩, ⟨a, g1, g2, g3⟩, i3, i4, i5, i6⟩ := h
  obtain ⟨⟨⟨a1, a2, a3, a4, a5, a6, a7, a8⟩, ⟨b1, b2, b3, b4, b5, -, -, -, b9, -, -⟩, -⟩, ⟨z0, z1, z2, z3, z4, z5, z6, z7⟩, j1, j2, j3⟩ := id h1
  obtain ⟨w, ⟨w1, w2⟩, x2, x3, -, t, t1, y2, y3⟩ := id i5
  have e : ∀ c, c ∉ [10, 12, 19, 20, 21, 22, 23, 24, 46] → C2 c = C c := hC
  have k : ∀ c, c ∉ [0, 15, 16, 17, 18, 19, 20] → M2 c = M c := hM
  have k0 : ∀ j, ¬ (31 ≤ j ∧ j ≤ 40) → M2 0 j = M 0 j := m0
  refine ⟨⟨_, rfl, by rw [a7]⟩, ⟨zRN_keep h1 (fun c hc => e c ?_) (fun c c1 c2 _ => k c ?_) (fun j hj => k0 j ?_), zAsks_k h2 (e 3 (by decide)) (by rw [e 5 (by decide)]) (e 13 (by decide)) (e 14 (by decide)) (by rw [e 15 (by decide)]; exact h2.2.2) (by rw [e 17 (by decide)]) (e 18 (by decide)) (e 31 (by decide)) (e 32 (by decide)) (e 36 (by decide)), ?_⟩, ⟨a, g1, g2, by rw [e 5 (by decide)]; exact g3⟩, zInvS_fr i3 (e 43 (by decide)) (e 44 (by decide)) (e 45 (by decide)) (k 21 (by decide)) (k 22 (by decide)) (k 23 (by decide)), zInvT_fr i4 (by rw [e 4 (by decide)]) (e 34 (by decide)) (k0 20 (by decide)) (k 12 (by decide)) rfl, zInvX_fr i5 (by rw [e 3 (by decide)]) (by rw [e 3 (by decide)]) (e 31 (by decide)) (e 32 (by decide)) (k0 23 (by decide)) (k0 24 (by decide)) (k 13 (by decide)) (k 14 (by decide)), ?_⟩
  · simp only [List.mem_cons, List.not_mem_nil, or_false] at hc ⊢
    omega
  · simp only [List.mem_cons, List.not_mem_nil, or_false]
    omega
  · simp only [List.mem_cons, List.not_mem_nil, or_false] at hj
    omega
  · unfold zT6 at h3 ⊢
    rw [e 6 (by decide)]
    exact h3
  · refine ⟨p5.trans q1.symm, fun _ => ⟨zPcs C, zMen C, ⟨⟨n8, m5⟩, ⟨?_, ?_, ?_, ?_, ?_⟩, ?_, fun j hj => ?_, fun j hj => ?_, fun j hj => ?_, t, w, t1, w2, by rw [e 3 (by decide)]; exact x2, by rw [p4]; exact y2⟩, ⟨by rw [p1]; exact c7, by rw [q2]; exact n7, by rw [p3]; exact c12, by rw [q3]; exact n12⟩, fun j hj => ?_, ⟨?_, ?_, ?_, ?_, ?_⟩, fun j hj => ?_, ?_, ?_, fun j hj => ?_⟩⟩
    · rw [p7 0 (by decide)]; exact z0
    · rw [p7 1 (by decide)]; exact z1
    · rw [p7 2 (by decide)]; exact z2
    · rw [p7 3 (by decide)]; exact z3
    · rw [p7 4 (by decide)]; exact z4
    · rw [p2]; exact z6
    · rw [(p6 j hj).2.2.1]; exact j2 j (by omega)
    · rw [(p6 j hj).2.2.2]; exact j3 j (by omega)
    · rw [p9 j (by omega)]; exact (j1 j hj).2.2.2.1
    · obtain ⟨r1, r2, r3, r4⟩ := p6 j hj
      rw [r1, r2, r3, r4, q12, q13, q14, q15, zCpy_lt (by omega), zCpy_lt (by omega), zCpy_lt (by omega), zCpy_lt (by omega), b2, b3, b4, b5]
      exact ⟨rfl, rfl, rfl, rfl⟩
    · rw [p7 0 (by decide), q4]; exact a1
    · rw [p7 1 (by decide), q5]; exact a2
    · rw [p7 2 (by decide), q6]; exact a3
    · rw [p7 3 (by decide), q7]; exact a4
    · rw [p7 4 (by decide), q8]; exact a5
    · rw [p8 j hj, q11, zCpy_lt hj, b1]
    · rw [p2, q9]; exact a6
    · rw [p4, q10, y2, y3]
    · rw [p9 j (by omega), q16, zCpy_lt (by omega), b9]
theorem zTie_back {b : Nat} {C M : ab_M} {N Nc : ab_N} (h : zInv b C M N) (hb : b < 2000000) : zt_X11_back [.ref 0] C Nc (fun r C2 _ => zt_X12_back [.ref 0] M N (fun r2 M2 N2 => zOu (b + 1) r r2 C2 M2 N2)) := by
  obtain ⟨i31, iN⟩ := h.2.2.2.2.2
  refine ⟨rfl, fun z => ?_, fun z => ?_⟩
  · refine ⟨(0, 0), _, rfl, ⟨rfl, by decide, by decide, fun z2 => absurd (i31.symm.trans z) z2⟩, ?_⟩
    rintro o2 M2 N2 ⟨rfl, ⟨-, rfl, rfl⟩ | ⟨z2, -⟩⟩
    · exact ⟨⟨_, rfl, rfl⟩, zInv_up h (by omega)⟩
    · exact absurd (i31.symm.trans z) z2
  · obtain ⟨np, nm, ⟨⟨np8, nm5⟩, ⟨r0, r1, r2, r3, r4⟩, r5, r6, r7, r8, t, w, tw, w6, rw2, rt⟩, ⟨s1, s2, s3, s4⟩, s5, ⟨s6, s7, s8, s9, s10⟩, s11, s12, s13, s14⟩ := iN z
    refine ⟨np, nm, np8, nm5, s1, s3, fun C2 hBk => ?_⟩
    obtain ⟨hC, ⟨c1, c3, c5⟩, ⟨c13, c14, c15, c16⟩, c17, c18, c28⟩ := hBk
    refine ⟨(np, nm), _, rfl, ⟨rfl, np8, nm5, fun _ => ⟨s2, s4⟩⟩, ?_⟩
    rintro o2 M2 N2 ⟨rfl, ⟨z2, -⟩ | ⟨-, ⟨hM, m0, ⟨q0, q1, q2, q3, q4⟩, ⟨q5, q24⟩, d1, ⟨d2, d3, d4, d5⟩, d9⟩, rfl⟩⟩
    · exact absurd (i31.trans z2) z
    · obtain ⟨⟨h1, h2, h3⟩, ⟨a, g1, g2, g3⟩, i3, i4, ⟨v, ⟨v1, v2⟩, x2, x3, x4, t0, t1, y2, y3⟩, i6⟩ := h
      obtain ⟨⟨⟨a1, a2, a3, a4, a5, a6, a7, a8⟩, ⟨b1, b2, b3, b4, b5, b6, b7, b8, b9, b10, b11⟩, ⟨k1, k2, k3, k4, k5⟩, -⟩, ⟨f0, f1, f2, f3, f4, f5, f6, f7⟩, j1, j2, j3⟩ := id h1
      have : w = v := (nI_eq (by omega) (by omega)).mp (rw2.symm.trans x2)
      subst this
      have e : ∀ c, c ∉ [1, 3, 5, 13, 14, 15, 16, 17, 18, 28] → C2 c = C c := hC
      have k : ∀ c, c ∉ [0, 1, 2, 3, 4, 5, 9] → M2 c = M c := hM
      have k0 : ∀ j, 5 < j → j ≠ 24 → M2 0 j = M 0 j := m0
      have u17 : ∀ j, j < 5 → C2 17 j = C 23 j := fun j hj => by rw [c17, zCpy_lt hj]
      have u14 : C2 1 4 = C 1 4 := by rw [c1, upd_ne _ _ (by decide)]
      have u17' : C2 1 7 = C 12 7 := by rw [c1, upd_eq]
      have u33 : C2 3 3 = nI t := by rw [c3, upd_eq]; exact rt
      have u32 : C2 3 2 = C 3 2 := by rw [c3, upd_ne _ _ (by decide)]
      have m24 : M2 0 24 = nI t := by rw [q24, ← s13]; exact rt
      have tx : ∀ t', t' < w → zTextEq C2 M2 t' := fun t' ht' => zTextEq_fc (zTextEq_fr (x4 t' ht') (k 13 (by decide)) (k 14 (by decide))) (e 31 (by decide)) (e 32 (by decide))
      have g5 : C2 5 4 = nI (a + 1) := by rw [c5, upd_eq, g3, nI_1]
      have J2 : ∀ p, p < 8 → ∃ s : Nat, s ≤ 3 ∧ C2 15 p = nI s := fun p hp => by
        rw [c15]
        by_cases hq : p < np
        · rw [zCpy_lt hq]; exact r6 p hq
        · rw [zCpy_ge hq]; exact j2 p hp
      have J3 : ∀ p, p < 8 → C2 16 p = 0 ∨ C2 16 p = 1 := fun p hp => by
        rw [c16]
        by_cases hq : p < np
        · rw [zCpy_lt hq]; exact r7 p hq
        · rw [zCpy_ge hq]; exact j3 p hp
      have X : zInvX C2 M2 := ⟨w, ⟨v1, v2⟩, by rw [u32]; exact x2, by rw [k0 23 (by decide) (by decide)]; exact x3, tx, t, tw, u33, m24⟩
      refine ⟨⟨_, rfl, by rw [a7]⟩, ⟨⟨⟨⟨?_, ?_, ?_, ?_, ?_, ?_, ?_, ?_⟩, ⟨?_, ?_, ?_, ?_, ?_, ?_, ?_, ?_, ?_, ?_, ?_⟩, ⟨?_, ?_, ?_, ?_, ?_⟩, t, by omega, u33, m24, tx t tw⟩, ⟨?_, ?_, ?_, ?_, ?_, ?_, ?_, ?_⟩, ?_, J2, J3⟩, zAsks_new h2 g3 (by omega) g5 (e 36 (by decide)) (zLawOK_t (tx t tw) (by omega) u33) J2, ?_⟩, ⟨a + 1, by omega, by omega, g5⟩, zInvS_fr i3 (e 43 (by decide)) (e 44 (by decide)) (e 45 (by decide)) (k 21 (by decide)) (k 22 (by decide)) (k 23 (by decide)), zInvT_fr i4 (by rw [e 4 (by decide)]) (e 34 (by decide)) (k0 20 (by decide) (by decide)) (k 12 (by decide)) rfl, X, ?_⟩
      · rw [u17 0 (by decide), q0]; exact s6
      · rw [u17 1 (by decide), q1]; exact s7
      · rw [u17 2 (by decide), q2]; exact s8
      · rw [u17 3 (by decide), q3]; exact s9
      · rw [u17 4 (by decide), q4]; exact s10
      · rw [u17', q5]; exact s12
      · rw [u14, k0 7 (by decide) (by decide)]; exact a7
      · rw [e 2 (by decide), k0 12 (by decide) (by decide)]; exact a8
      · rw [c18, d1, b1]; exact zCpy_eq s11
      · rw [c13, d2, b2]; exact zCpy_eq (fun j hj => (s5 j hj).1)
      · rw [c14, d3, b3]; exact zCpy_eq (fun j hj => (s5 j hj).2.1)
      · rw [c15, d4, b4]; exact zCpy_eq (fun j hj => (s5 j hj).2.2.1)
      · rw [c16, d5, b5]; exact zCpy_eq (fun j hj => (s5 j hj).2.2.2)
      · rw [e 25 (by decide), k 6 (by decide)]; exact b6
      · rw [e 26 (by decide), k 7 (by decide)]; exact b7
      · rw [e 27 (by decide), k 8 (by decide)]; exact b8
      · rw [c28, d9, b9]; exact zCpy_eq s14
      · rw [e 29 (by decide), k 10 (by decide)]; exact b10
      · rw [e 30 (by decide), k 11 (by decide)]; exact b11
      · rw [e 6 (by decide), k0 30 (by decide) (by decide)]; exact k1
      · rw [e 6 (by decide), k0 27 (by decide) (by decide)]; exact k2
      · rw [e 6 (by decide), k0 28 (by decide) (by decide), k0 29 (by decide) (by decide)]; exact k3
      · rw [e 6 (by decide), k0 25 (by decide) (by decide)]; exact k4
      · rw [e 6 (by decide), k0 26 (by decide) (by decide)]; exact k5
      · rw [u17 0 (by decide)]; exact r0
      · rw [u17 1 (by decide)]; exact r1
      · rw [u17 2 (by decide)]; exact r2
      · rw [u17 3 (by decide)]; exact r3
      · rw [u17 4 (by decide)]; exact r4
      · rw [u14]; exact f5
      · rw [u17']; exact r5
      · rw [e 2 (by decide)]; exact f7
      · unfold zI1 zMen at j1 ⊢
        rw [e 2 (by decide), e 25 (by decide), e 26 (by decide), e 27 (by decide), e 29 (by decide), u14, e 6 (by decide)]
        intro m hm
        obtain ⟨w1, w2, w3, w4, w5, w7⟩ := j1 m hm
        refine ⟨w1, w2, w3, ?_, w5, w7⟩
        rw [c28]
        by_cases hq : m < nm
        · rw [zCpy_lt hq]; exact r8 m hq
        · rw [zCpy_ge hq]; exact w4
      · unfold zT6 at h3 ⊢
        rw [e 6 (by decide)]
        exact h3
      · refine ⟨by rw [e 10 (by decide), k0 31 (by decide) (by decide)]; exact i31, fun z3 => ?_⟩
        rw [e 10 (by decide)] at z3
        obtain ⟨np', nm', l1, l2⟩ := iN z3
        exact ⟨np', nm', zImN_fr l1 (e 10 (by decide)) (e 12 (by decide)) (e 21 (by decide)) (e 22 (by decide)) (e 23 (by decide)) (e 46 (by decide)) ⟨w, w, Nat.le_refl _, v2, x2, by rw [u32]; exact x2⟩, zImE_fr l2 (e 10 (by decide)) (e 12 (by decide)) (e 19 (by decide)) (e 20 (by decide)) (e 21 (by decide)) (e 22 (by decide)) (e 23 (by decide)) (e 24 (by decide)) (e 46 (by decide)) (fun c a b => k c (by simp only [List.mem_cons, List.not_mem_nil, or_false]; omega)) (fun j a b => k0 j (by omega) (by omega))⟩
