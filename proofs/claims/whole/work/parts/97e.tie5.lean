/-! both side by side: man, feed, sheets *)
-/
theorem upd_lt {f : Nat → Int32} {m n : Nat} {x : Int32} (h : m < n) : upd f n x m = f m := upd_ne _ _ (by omega)
theorem ab_u_comm (M : ab_M) {a b : Nat} (h : a ≠ b) (f g : Nat → Int32) : ab_u (ab_u M a f) b g = ab_u (ab_u M b g) a f := funext fun k => by
  by_cases ka : k = a
  · rw [ka, ab_u_eq, ab_u_ne _ _ h, ab_u_eq]
  · rw [ab_u_ne _ _ ka]
    by_cases kb : k = b
    · rw [kb, ab_u_eq, ab_u_eq]
    · rw [ab_u_ne _ _ kb, ab_u_ne _ _ kb, ab_u_ne _ _ ka]
theorem zInv_man {b : Nat} {C M : ab_M} {N : ab_N} (h : zInv b C M N) (k e r s : Int32) : zInv (b + 1) (zMnK C (zPcs C) (zMen C) k e r s) (zMnM M (zPcs C) (zMen C) k e r s) N := by
  obtain ⟨n12, m5⟩ := zM_eq h.1.1.2.1
  obtain ⟨c7, p8⟩ := zP_eq h.1.1.2.1
  obtain ⟨-, -, -, -, -, b6, b7, b8, b9, b10, b11⟩ := h.1.1.1.2.1
  have eS := zSvE h.2.2.1
  have e45 : M 23 = C 45 := h.2.2.1.1.2.2
  unfold zMnK zMnM zMnV
  rw [zMnX_c eS]
  by_cases v : zMnG (zPcs C) k e r ∧ ¬ (k = 3 ∧ ¬ zMnX M s = 0) ∧ ¬ zMen C = 5
  · rw [if_pos v, if_pos v]
    have m4 : zMen C < 5 := by
      have := v.2.2
      omega
    obtain ⟨⟨⟨k0, k1⟩, v1, v2⟩, ⟨p1, p2⟩, r1, r2⟩ := v.1
    obtain ⟨i0, i1, -, -⟩ := h.1.1.2
    obtain ⟨x1, hx1, ex1⟩ := zIxN (by omega) p1
    obtain ⟨x2, hx2, ex2⟩ := zIxN (by omega) p2
    -- the men before him stay as they are
    have z1 := zRN_a25 h.1.1 (upd (C 25) (zMen C) k) (fun m hm => by
      have hm : m < zMen C := hm
      obtain ⟨q1, q2, q3, q4, q5, q6⟩ := i1 m hm
      refine ⟨?_, q2, q3, q4, q5, q6⟩
      show 0 ≤ upd (C 25) (zMen C) k m ∧ upd (C 25) (zMen C) k m ≤ 5
      rw [upd_lt hm]
      exact q1)
    have z2 := zRN_a26 z1 (upd (C 26) (zMen C) (e / 10)) (fun m hm => by
      have hm : m < zMen C := hm
      obtain ⟨q1, q2, q3, q4, q5, q6⟩ := z1.2.2.1 m hm
      refine ⟨q1, ?_, q3, q4, q5, q6⟩
      show 0 ≤ upd (C 26) (zMen C) (e / 10) m ∧ upd (C 26) (zMen C) (e / 10) m < C 1 4
      rw [upd_lt hm]
      exact q2)
    have z3 := zRN_a27 z2 (upd (C 27) (zMen C) (e - e / 10 * 10)) (fun m hm => by
      have hm : m < zMen C := hm
      obtain ⟨q1, q2, q3, q4, q5, q6⟩ := z2.2.2.1 m hm
      refine ⟨q1, q2, ?_, q4, q5, q6⟩
      show 0 ≤ upd (C 27) (zMen C) (e - e / 10 * 10) m ∧ upd (C 27) (zMen C) (e - e / 10 * 10) m < C 1 4
      rw [upd_lt hm]
      exact q3)
    have z4 := zRN_a28 z3 (upd (C 28) (zMen C) (r / 10)) (fun m hm => by
      have hm : m < zMen C := hm
      obtain ⟨q1, q2, q3, q4, q5, q6⟩ := z3.2.2.1 m hm
      refine ⟨q1, q2, q3, ?_, q5, q6⟩
      show 1 ≤ upd (C 28) (zMen C) (r / 10) m ∧ upd (C 28) (zMen C) (r / 10) m ≤ 3
      rw [upd_lt hm]
      exact q4)
    have z5 := zRN_a29 z4 (upd (C 29) (zMen C) (r - r / 10 * 10)) (fun m hm => by
      have hm : m < zMen C := hm
      obtain ⟨q1, q2, q3, q4, q5, q6⟩ := z4.2.2.1 m hm
      refine ⟨q1, q2, q3, q4, ?_, q6⟩
      show 0 ≤ upd (C 29) (zMen C) (r - r / 10 * 10) m ∧ upd (C 29) (zMen C) (r - r / 10 * 10) m ≤ 5
      rw [upd_lt hm]
      exact q5)
    have z6 := zRN_a30 z5 (zMnT (zMnH (C 45) k s) (zMen C) 12 (C 30))
    have em : (upd (C 2) 6 (nI (zMen C + 1)) 6).toNatClampNeg = zMen C + 1 := by
      rw [upd_eq, nI_clamp (by omega)]
    have z7 := zRN_men z6 (nI (zMen C + 1)) ⟨i0.1, i0.2.1, i0.2.2.1, i0.2.2.2.1, i0.2.2.2.2.1, i0.2.2.2.2.2.1, i0.2.2.2.2.2.2.1, ⟨nI_pos' (by omega), nI_le (b := 5) (by omega) (by decide)⟩⟩ (fun m hm => by
      have hm : m < (upd (C 2) 6 (nI (zMen C + 1)) 6).toNatClampNeg := hm
      rw [em] at hm
      by_cases e0 : m = zMen C
      · refine ⟨?_, ?_, ?_, ?_, ?_, fun z => ?_⟩
        · show 0 ≤ upd (C 25) (zMen C) k m ∧ upd (C 25) (zMen C) k m ≤ 5
          rw [e0, upd_eq]
          exact ⟨k0, k1⟩
        · show 0 ≤ upd (C 26) (zMen C) (e / 10) m ∧ upd (C 26) (zMen C) (e / 10) m < C 1 4
          rw [e0, upd_eq, ex1, c7]
          exact ⟨nI_pos' (by omega), nI_lt hx1 (by omega)⟩
        · show 0 ≤ upd (C 27) (zMen C) (e - e / 10 * 10) m ∧ upd (C 27) (zMen C) (e - e / 10 * 10) m < C 1 4
          rw [e0, upd_eq, ex2, c7]
          exact ⟨nI_pos' (by omega), nI_lt hx2 (by omega)⟩
        · show 1 ≤ upd (C 28) (zMen C) (r / 10) m ∧ upd (C 28) (zMen C) (r / 10) m ≤ 3
          rw [e0, upd_eq]
          exact r1
        · show 0 ≤ upd (C 29) (zMen C) (r - r / 10 * 10) m ∧ upd (C 29) (zMen C) (r - r / 10 * 10) m ≤ 5
          rw [e0, upd_eq]
          exact r2
        · have z : nI m = C 6 8 := z
          rw [h.1.2.2.2.1] at z
          exact absurd z (nI_m1 (by omega))
      · have hm2 : m < zMen C := by omega
        exact z6.2.2.1 m hm2)
    have c25 : upd (M 6) (zMen C) k = upd (C 25) (zMen C) k := by rw [b6]
    have c26 : upd (M 7) (zMen C) (e / 10) = upd (C 26) (zMen C) (e / 10) := by rw [b7]
    have c27 : upd (M 8) (zMen C) (e - e / 10 * 10) = upd (C 27) (zMen C) (e - e / 10 * 10) := by rw [b8]
    have c28 : upd (M 9) (zMen C) (r / 10) = upd (C 28) (zMen C) (r / 10) := by rw [b9]
    have c29 : upd (M 10) (zMen C) (r - r / 10 * 10) = upd (C 29) (zMen C) (r - r / 10 * 10) := by rw [b10]
    have c30 : zMnT (zMnH (M 23) k s) (zMen C) 12 (M 11) = zMnT (zMnH (C 45) k s) (zMen C) 12 (C 30) := by rw [b11, e45]
    unfold zMnC zMnB
    rw [c25, c26, c27, c28, c29, c30, ab_u_comm _ (show (2 : Nat) ≠ 30 by decide)]
    refine zInv_set h z7 ?_ rfl rfl (fun c hc => ?_) (fun c q1 q2 => ?_) (fun j hj => ?_)
    · exact zAsks_u (zAsks_u (zAsks_u (zAsks_u (zAsks_u (zAsks_u (zAsks_u h.1.2.1 _ (by decide)) _ (by decide)) _ (by decide)) _ (by decide)) _ (by decide)) _ (by decide)) _ (by decide)
    · rw [zKu _ hc (by decide), zKu _ hc (by decide), zKu _ hc (by decide), zKu _ hc (by decide), zKu _ hc (by decide), zKu _ hc (by decide), zKu _ hc (by decide)]
    · rw [ab_u_ne _ _ (by omega), ab_u_ne _ _ (by omega), ab_u_ne _ _ (by omega), ab_u_ne _ _ (by omega), ab_u_ne _ _ (by omega), ab_u_ne _ _ (by omega), ab_u_ne _ _ (by omega)]
    · rw [ab_u_eq, upd_ne _ _ (by omega)]
  · rw [if_neg v, if_neg v]
    exact zInv_up h (by omega)
theorem zTie_man {b : Nat} {C M : ab_M} {N Nc : ab_N} (h : zInv b C M N) (a1 a2 a3 a4 : Int32) : zt_X11_man [.ref 0, .int a1, .int a2, .int a3, .int a4] C Nc (fun r C2 _ => zt_X12_man [.ref 0, .int a1, .int a2, .int a3, .int a4] M N (fun r2 M2 N2 => zOu (b + 1) r r2 C2 M2 N2)) := by
  obtain ⟨n7, p8⟩ := zInv_p h
  obtain ⟨n12, m5⟩ := zInv_m5 h
  refine ab_m4_i ⟨h.1.1.2.1, h.2.2.1.2⟩ ?_
  rintro o C2 Nc2 ⟨-, e1, rfl⟩
  refine ⟨(zPcs C, zMen C, a1, a2, a3, a4), _, rfl, ⟨rfl, n7, p8, n12, m5⟩, ?_⟩
  rintro o2 M2 N2 ⟨e0, e2, rfl⟩
  rw [e0, e1, e2]
  refine ⟨⟨_, rfl, ?_⟩, zInv_man h a1 a2 a3 a4⟩
  unfold zMnA
  rw [zMnX_c (zSvE h.2.2.1)]
/-- cells that no night reads -/
theorem zRN_keep {C M C2 M2 : ab_M} (h : zRN C M) (hC : ∀ c, c ∈ [1, 2, 3, 6, 13, 14, 15, 16, 17, 18, 25, 26, 27, 28, 29, 30, 31, 32] → C2 c = C c) (hM : ∀ c, 1 ≤ c → c ≤ 14 → c ≠ 12 → M2 c = M c) (h0 : ∀ j, j ∈ [0, 1, 2, 3, 4, 5, 7, 12, 24, 25, 26, 27, 28, 29, 30] → M2 0 j = M 0 j) : zRN C2 M2 := by
  obtain ⟨⟨⟨a1, a2, a3, a4, a5, a6, a7, a8⟩, ⟨b1, b2, b3, b4, b5, b6, b7, b8, b9, b10, b11⟩, ⟨c1, c2, c3, c4, c5⟩, w, hw, l1, l2, l3⟩, i0, i1, i2, i3⟩ := h
  have e1 := hC 1 (by decide)
  have e2 := hC 2 (by decide)
  have e6 := hC 6 (by decide)
  have e15 := hC 15 (by decide)
  have e16 := hC 16 (by decide)
  have e17 := hC 17 (by decide)
  refine ⟨⟨?_, ?_, ?_, w, hw, ?_, ?_, ?_⟩, ?_, ?_, ?_, ?_⟩
  · rw [e17, e1, e2, h0 0 (by decide), h0 1 (by decide), h0 2 (by decide), h0 3 (by decide), h0 4 (by decide), h0 5 (by decide), h0 7 (by decide), h0 12 (by decide)]
    exact ⟨a1, a2, a3, a4, a5, a6, a7, a8⟩
  · rw [hC 18 (by decide), hC 13 (by decide), hC 14 (by decide), e15, e16, hC 25 (by decide), hC 26 (by decide), hC 27 (by decide), hC 28 (by decide), hC 29 (by decide), hC 30 (by decide), hM 1 (by decide) (by decide) (by decide), hM 2 (by decide) (by decide) (by decide), hM 3 (by decide) (by decide) (by decide), hM 4 (by decide) (by decide) (by decide), hM 5 (by decide) (by decide) (by decide), hM 6 (by decide) (by decide) (by decide), hM 7 (by decide) (by decide) (by decide), hM 8 (by decide) (by decide) (by decide), hM 9 (by decide) (by decide) (by decide), hM 10 (by decide) (by decide) (by decide), hM 11 (by decide) (by decide) (by decide)]
    exact ⟨b1, b2, b3, b4, b5, b6, b7, b8, b9, b10, b11⟩
  · rw [e6, h0 30 (by decide), h0 27 (by decide), h0 28 (by decide), h0 29 (by decide), h0 25 (by decide), h0 26 (by decide)]
    exact ⟨c1, c2, c3, c4, c5⟩
  · rw [hC 3 (by decide)]; exact l1
  · rw [h0 24 (by decide)]; exact l2
  · exact zTextEq_fc (zTextEq_fr l3 (hM 13 (by decide) (by decide) (by decide)) (hM 14 (by decide) (by decide) (by decide))) (hC 31 (by decide)) (hC 32 (by decide))
  · unfold zI0 at i0 ⊢
    rw [e17, e1, e2]
    exact i0
  · unfold zI1 zMen at i1 ⊢
    rw [e2, hC 25 (by decide), hC 26 (by decide), hC 27 (by decide), hC 28 (by decide), hC 29 (by decide), e1, e6]
    exact i1
  · rw [e15]; exact i2
  · rw [e16]; exact i3
theorem zTie_feed {b : Nat} {C M : ab_M} {N Nc : ab_N} (h : zInv b C M N) (w : Int64) (a1 : Int32) : zt_X11_feed [.ref 0, .long w, .int a1] C Nc (fun r C2 _ => zt_X12_feed [.ref 0, .long w, .int a1] M N (fun r2 M2 N2 => zOu (b + 1) r r2 C2 M2 N2)) := by
  obtain ⟨n, ⟨t1, t2, t3⟩, ⟨r1, r2, r3, r4⟩, hq⟩ := h.2.2.2.1
  refine ⟨rfl, n, t1, t2, ⟨(n, w, a1), _, rfl, ⟨rfl, t1, r2⟩, ?_⟩⟩
  rintro o2 M2 N2 ⟨e0, e2, rfl⟩
  dsimp only at e2 ⊢
  rw [e0, e2]
  refine ⟨⟨_, rfl, rfl⟩, ?_⟩
  unfold zFdC zFdR
  by_cases v : zFdV n a1
  · rw [if_pos v, if_pos v]
    obtain ⟨m, m1, m8, rfl⟩ := zFd_18 v.1
    have v2 := v.2
    have cm : (nI m).toNatClampNeg = m := nI_clamp (by omega)
    rw [cm] at v2 ⊢
    obtain ⟨⟨h1, h2, h3⟩, ⟨a, g1, g2, g3⟩, i3, i4, i5, i6⟩ := h
    have m0 : ∀ j, j ≠ 20 → (ab_u (ab_u M 12 (zFdF w n m m (M 12))) 0 (upd (M 0) 20 (nI (n + m)))) 0 j = M 0 j := fun j hj => by rw [ab_u_eq, upd_ne _ _ hj]
    refine ⟨⟨zRN_keep h1 (fun c hc => ?_) (fun c c1 c2 c3 => ?_) (fun j hj => m0 j ?_), zAsks_u (zAsks_u h2 _ (by decide)) _ (by decide), h3⟩, ⟨a, g1, by omega, g3⟩, zInvS_fr i3 rfl rfl rfl rfl rfl rfl, ⟨n + m, ⟨v2, ?_, fun j hj => ?_⟩, ⟨v2, ?_, fun j hj => ?_, r4⟩, fun j hj => ?_⟩, zInvX_fr i5 rfl rfl rfl rfl (m0 23 (by decide)) (m0 24 (by decide)) rfl rfl, zInvI_fr i6 i5 rfl rfl rfl rfl rfl rfl rfl rfl rfl rfl (fun c a b => ?_) (fun j a b => m0 j (by omega))⟩
    · simp only [List.mem_cons, List.not_mem_nil, or_false] at hc
      rw [ab_u_ne _ _ (by omega), ab_u_ne _ _ (by omega)]
    · rw [ab_u_ne _ _ (by omega), ab_u_ne _ _ c3]
    · simp only [List.mem_cons, List.not_mem_nil, or_false] at hj
      omega
    · rw [ab_u_eq, upd_eq]
    · show 0 ≤ zFdF w n m m (C 34) j
      unfold zFdF
      by_cases q : n ≤ j ∧ j < n + m
      · rw [if_pos q]; exact zByt_0 _ _
      · rw [if_neg q]; exact t3 j (by omega)
    · rw [ab_u_eq, upd_eq]
    · show 0 ≤ zFdF w n m m (M 12) j
      unfold zFdF
      by_cases q : n ≤ j ∧ j < n + m
      · rw [if_pos q]; exact zByt_0 _ _
      · rw [if_neg q]; exact r3 j (by omega)
    · show zFdF w n m m (C 34) j = zFdF w n m m (M 12) j
      unfold zFdF
      by_cases q : n ≤ j ∧ j < n + m
      · rw [if_pos q, if_pos q]
      · rw [if_neg q, if_neg q]; exact hq j (by omega)
    · rw [ab_u_ne _ _ (by omega), ab_u_ne _ _ (by omega)]
  · rw [if_neg v, if_neg v]
    exact zInv_up h (by omega)
/-- the sheets alone change -/
theorem zInv_sh {b : Nat} {C M C2 M2 : ab_M} {N : ab_N} (h : zInv b C M N) (hS : zInvS C2 M2) (hC : ∀ c, c ≠ 43 → c ≠ 44 → c ≠ 45 → C2 c = C c) (hM : ∀ c, c ≠ 21 → c ≠ 22 → c ≠ 23 → M2 c = M c) : zInv (b + 1) C2 M2 N := by
  obtain ⟨⟨h1, h2, h3⟩, ⟨a, g1, g2, g3⟩, -, i4, i5, i6⟩ := h
  have e : ∀ c, c ≤ 42 → C2 c = C c := fun c hc => hC c (by omega) (by omega) (by omega)
  have m : ∀ c, c ≤ 20 → M2 c = M c := fun c hc => hM c (by omega) (by omega) (by omega)
  have m0 := m 0 (by decide)
  refine ⟨⟨zRN_keep h1 (fun c hc => e c ?_) (fun c _ c2 _ => m c (by omega)) (fun j _ => by rw [m0]), zAsks_k h2 (e 3 (by decide)) (by rw [e 5 (by decide)]) (e 13 (by decide)) (e 14 (by decide)) (by rw [e 15 (by decide)]; exact h2.2.2) (by rw [e 17 (by decide)]) (e 18 (by decide)) (e 31 (by decide)) (e 32 (by decide)) (e 36 (by decide)), ?_⟩, ⟨a, g1, by omega, by rw [e 5 (by decide)]; exact g3⟩, hS,
    zInvT_fr i4 (by rw [e 4 (by decide)]) (e 34 (by decide)) (by rw [m0]) (m 12 (by decide)) rfl,
    zInvX_fr i5 (by rw [e 3 (by decide)]) (by rw [e 3 (by decide)]) (e 31 (by decide)) (e 32 (by decide)) (by rw [m0]) (by rw [m0]) (m 13 (by decide)) (m 14 (by decide)),
    zInvI_fr i6 i5 (by rw [e 3 (by decide)]) (e 10 (by decide)) (e 12 (by decide)) (e 19 (by decide)) (e 20 (by decide)) (e 21 (by decide)) (e 22 (by decide)) (e 23 (by decide)) (e 24 (by decide)) (hC 46 (by decide) (by decide) (by decide)) (fun c a b => m c b) (fun j a b => by rw [m0])⟩
  · simp only [List.mem_cons, List.not_mem_nil, or_false] at hc
    omega
  · unfold zT6 at h3 ⊢
    rw [e 6 (by decide)]
    exact h3
theorem zTie_sheet {b : Nat} {C M : ab_M} {N Nc : ab_N} (h : zInv b C M N) (a1 a2 a3 : Int32) : zt_X11_sheet [.ref 0, .int a1, .int a2, .int a3] C Nc (fun r C2 _ => zt_X12_sheet [.ref 0, .int a1, .int a2, .int a3] M N (fun r2 M2 N2 => zOu (b + 1) r r2 C2 M2 N2)) := by
  obtain ⟨⟨s1, s2, s3⟩, s4⟩ := h.2.2.1
  refine ab_m3_i trivial ?_
  rintro o C2 Nc2 ⟨e1, -, rfl⟩
  refine ⟨(a1, a2, a3), _, rfl, rfl, ?_⟩
  rintro o2 M2 N2 ⟨e2, e0, rfl⟩
  dsimp only at e2 ⊢
  rw [e0, e1, e2]
  refine ⟨⟨_, rfl, rfl⟩, ?_⟩
  unfold zSeC zSeR
  by_cases v : zSeV a1 a2 a3
  · rw [if_pos v, if_pos v, s1, s2, s3]
    refine zInv_sh h ⟨⟨rfl, rfl, rfl⟩, fun q hq => ?_⟩ (fun c x1 x2 x3 => by rw [ab_u_ne _ _ x3, ab_u_ne _ _ x2, ab_u_ne _ _ x1]) (fun c x1 x2 x3 => by rw [ab_u_ne _ _ x3, ab_u_ne _ _ x2, ab_u_ne _ _ x1])
    show ∃ n : Nat, n ≤ 40 ∧ upd (C 44) a1.toNatClampNeg (if a2 = -1 then 0 else a3) q = nI n
    by_cases e : q = a1.toNatClampNeg
    · rw [e, upd_eq]
      by_cases c : a2 = -1
      · rw [if_pos c]
        exact ⟨0, by decide, rfl⟩
      · rw [if_neg c]
        rcases v.2.2 with z | ⟨z1, z2⟩
        · exact absurd z c
        · obtain ⟨k, hk, ek⟩ := zIxM (n := 40) (by decide) ⟨z2, z1⟩
          exact ⟨k, hk, ek⟩
    · rw [upd_ne _ _ e]
      exact s4 q hq
  · rw [if_neg v, if_neg v]
    exact zInv_up h (by omega)
theorem zTie_cell {b : Nat} {C M : ab_M} {N Nc : ab_N} (h : zInv b C M N) (a1 a2 a3 : Int32) : zt_X11_cell [.ref 0, .int a1, .int a2, .int a3] C Nc (fun r C2 _ => zt_X12_cell [.ref 0, .int a1, .int a2, .int a3] M N (fun r2 M2 N2 => zOu (b + 1) r r2 C2 M2 N2)) := by
  obtain ⟨⟨s1, s2, s3⟩, s4⟩ := h.2.2.1
  refine ab_m3_i h.2.2.1.2 ?_
  rintro o C2 Nc2 ⟨e1, -, rfl⟩
  refine ⟨(a1, a2, a3), _, rfl, ⟨rfl, zInv_shr h⟩, ?_⟩
  rintro o2 M2 N2 ⟨e2, e0, rfl⟩
  dsimp only at e2 ⊢
  rw [e0, e1, e2, s1, s2, s3]
  exact ⟨⟨_, rfl, rfl⟩, zInv_sh h ⟨⟨s1, s2, rfl⟩, s4⟩ (fun c x1 x2 x3 => ab_u_ne _ _ x3) (fun c x1 x2 x3 => ab_u_ne _ _ x3)⟩
theorem zTie_copy {b : Nat} {C M : ab_M} {N Nc : ab_N} (h : zInv b C M N) (a1 a2 a3 a4 a5 : Int32) : zt_X11_copy [.ref 0, .int a1, .int a2, .int a3, .int a4, .int a5] C Nc (fun r C2 _ => zt_X12_copy [.ref 0, .int a1, .int a2, .int a3, .int a4, .int a5] M N (fun r2 M2 N2 => zOu (b + 1) r r2 C2 M2 N2)) := by
  obtain ⟨⟨s1, s2, s3⟩, s4⟩ := h.2.2.1
  refine ab_m5_i h.2.2.1.2 ?_
  rintro o C2 Nc2 ⟨e1, -, rfl⟩
  refine ⟨(a1, a2, a3, a4, a5), _, rfl, ⟨rfl, zInv_shr h⟩, ?_⟩
  rintro o2 M2 N2 ⟨e2, e0, rfl⟩
  dsimp only at e2 ⊢
  rw [e0, e1, e2, s1, s2, s3]
  exact ⟨⟨_, rfl, rfl⟩, zInv_sh h ⟨⟨s1, s2, rfl⟩, s4⟩ (fun c x1 x2 x3 => ab_u_ne _ _ x3) (fun c x1 x2 x3 => ab_u_ne _ _ x3)⟩
theorem zInv_pb {N : ab_N} {s : Nat} {a0 : Int32} : ∀ (r k b : Nat) (c : Int32) (C M : ab_M), b + r < 2000000 → zInv b C M N → (zPbC s a0 r k c C).1 = (zPbR s a0 r k c M).1 ∧ zInv (b + r) (zPbC s a0 r k c C).2 (zPbR s a0 r k c M).2 N
  | 0, k, b, c, C, M, _, h => ⟨rfl, h⟩
  | r + 1, k, b, c, C, M, hb, h => by
    obtain ⟨⟨s1, s2, s3⟩, s4⟩ := h.2.2.1
    obtain ⟨n7, p8⟩ := zInv_p h
    have en : (M 0 7).toNatClampNeg = zPcs C := by rw [n7, nI_clamp (by omega)]
    by_cases ok : zPbOk (C 44 s) a0 k
    · have ok2 : zPbOk (M 22 s) a0 k := by rw [s2]; exact ok
      rw [zPbC_t ok, zPbR_t ok2, en, s3]
      have := zInv_pb (s := s) (a0 := a0) r (k + 1) (b + 1) (if zPcA (C 45 (40 * s + a0.toNatClampNeg + 2 * k)) (C 45 (40 * s + a0.toNatClampNeg + 2 * k + 1)) (zPcs C) < 0 then c + 0 else c + 1) _ _ (by omega) (zInv_pc h (by omega) (C 45 (40 * s + a0.toNatClampNeg + 2 * k)) (C 45 (40 * s + a0.toNatClampNeg + 2 * k + 1)))
      rw [show b + 1 + r = b + (r + 1) by omega] at this
      exact this
    · have ok2 : ¬ zPbOk (M 22 s) a0 k := by rw [s2]; exact ok
      rw [zPbC_f ok, zPbR_f ok2]
      exact ⟨rfl, zInv_up h (by omega)⟩
theorem zTie_piecesBy {b : Nat} {C M : ab_M} {N Nc : ab_N} (h : zInv b C M N) (hb : b + 8 < 2000000) (a1 a2 a3 a4 : Int32) : zt_X11_piecesBy [.ref 0, .int a1, .int a2, .int a3, .int a4] C Nc (fun r C2 _ => zt_X12_piecesBy [.ref 0, .int a1, .int a2, .int a3, .int a4] M N (fun r2 M2 N2 => zOu (b + 8) r r2 C2 M2 N2)) := by
  obtain ⟨⟨s1, s2, s3⟩, s4⟩ := h.2.2.1
  obtain ⟨n7, p8⟩ := zInv_p h
  refine ab_m4_i ⟨h.1.1.2.1, h.2.2.1.2⟩ ?_
  rintro o C2 Nc2 ⟨-, e1, rfl⟩
  refine ⟨(a1, a2, a3, a4), _, rfl, ⟨rfl, zInv_shr h, _, p8, n7⟩, ?_⟩
  rintro o2 M2 N2 ⟨e0, e2, rfl⟩
  dsimp only at e2 ⊢
  rw [e0, e1, e2, s1]
  unfold zPbX
  by_cases g : zPbG a1 a2 a4
  · rw [if_pos g, if_pos g]
    obtain ⟨m, m8, em⟩ := zIxM (n := 8) (by decide) g.2.2
    have cm : a4.toNatClampNeg = m := by rw [em, nI_clamp (by omega)]
    rw [cm]
    obtain ⟨q1, q2⟩ := zInv_pb (s := a1.toNatClampNeg) (a0 := a3) m 0 b 0 C M (by omega) h
    by_cases c1 : C 43 a1.toNatClampNeg = -1
    · rw [if_pos c1, if_pos c1]
      exact ⟨⟨_, rfl, rfl⟩, zInv_up h (by omega)⟩
    · rw [if_neg c1, if_neg c1]
      by_cases c2 : C 43 a1.toNatClampNeg = a2
      · rw [if_pos c2, if_pos c2]
        exact ⟨⟨_, rfl, by rw [q1]⟩, zInv_up q2 (by omega)⟩
      · rw [if_neg c2, if_neg c2]
        exact ⟨⟨_, rfl, rfl⟩, zInv_up h (by omega)⟩
  · rw [if_neg g, if_neg g]
    exact ⟨⟨_, rfl, rfl⟩, zInv_up h (by omega)⟩
