/-! the reference tells a state that is changed in one place *)
-/
theorem zRN_a18 {d M : ab_M} (h : zRN d M) (f : Nat → Int32) : zRN (ab_u d 18 f) (ab_u M 1 f) := by
  obtain ⟨⟨⟨a1, a2, a3, a4, a5, a6, a7, a8⟩, ⟨b1, b2, b3, b4, b5, b6, b7, b8, b9, b10, b11⟩, ⟨c1, c2, c3, c4, c5⟩, w, hw, l1, l2, l3⟩, i0, i1, i2, i3⟩ := h
  have e : ∀ q, q ≠ 18 → ab_u d 18 f q = d q := fun q hq => ab_u_ne _ _ hq
  have m : ∀ q, q ≠ 1 → ab_u M 1 f q = M q := fun q hq => ab_u_ne _ _ hq
  refine ⟨⟨?_, ?_, ?_, w, hw, ?_, ?_, ?_⟩, ?_, ?_, ?_, ?_⟩
  · rw [e 17 (by decide), e 1 (by decide), e 2 (by decide), m 0 (by decide)]
    exact ⟨a1, a2, a3, a4, a5, a6, a7, a8⟩
  · rw [e 13 (by decide), e 14 (by decide), e 15 (by decide), e 16 (by decide), e 25 (by decide), e 26 (by decide), e 27 (by decide), e 28 (by decide), e 29 (by decide), e 30 (by decide), ab_u_eq d 18 f, m 2 (by decide), m 3 (by decide), m 4 (by decide), m 5 (by decide), m 6 (by decide), m 7 (by decide), m 8 (by decide), m 9 (by decide), m 10 (by decide), m 11 (by decide), ab_u_eq M 1 f]
    exact ⟨rfl, b2, b3, b4, b5, b6, b7, b8, b9, b10, b11⟩
  · rw [e 6 (by decide), m 0 (by decide)]
    exact ⟨c1, c2, c3, c4, c5⟩
  · rw [e 3 (by decide)]; exact l1
  · rw [m 0 (by decide)]; exact l2
  · unfold zTextEq at l3 ⊢
    rw [e 32 (by decide), e 31 (by decide), m 13 (by decide), m 14 (by decide)]
    exact l3
  · unfold zI0 at i0 ⊢
    rw [e 17 (by decide), e 1 (by decide), e 2 (by decide)]
    exact i0
  · unfold zI1 zMen at i1 ⊢
    rw [e 25 (by decide), e 26 (by decide), e 27 (by decide), e 28 (by decide), e 29 (by decide), e 1 (by decide), e 2 (by decide), e 6 (by decide)]
    exact i1
  · rw [e 15 (by decide)]; exact i2
  · rw [e 16 (by decide)]; exact i3
theorem zRN_a13 {d M : ab_M} (h : zRN d M) (f : Nat → Int32) : zRN (ab_u d 13 f) (ab_u M 2 f) := by
  obtain ⟨⟨⟨a1, a2, a3, a4, a5, a6, a7, a8⟩, ⟨b1, b2, b3, b4, b5, b6, b7, b8, b9, b10, b11⟩, ⟨c1, c2, c3, c4, c5⟩, w, hw, l1, l2, l3⟩, i0, i1, i2, i3⟩ := h
  have e : ∀ q, q ≠ 13 → ab_u d 13 f q = d q := fun q hq => ab_u_ne _ _ hq
  have m : ∀ q, q ≠ 2 → ab_u M 2 f q = M q := fun q hq => ab_u_ne _ _ hq
  refine ⟨⟨?_, ?_, ?_, w, hw, ?_, ?_, ?_⟩, ?_, ?_, ?_, ?_⟩
  · rw [e 17 (by decide), e 1 (by decide), e 2 (by decide), m 0 (by decide)]
    exact ⟨a1, a2, a3, a4, a5, a6, a7, a8⟩
  · rw [e 18 (by decide), e 14 (by decide), e 15 (by decide), e 16 (by decide), e 25 (by decide), e 26 (by decide), e 27 (by decide), e 28 (by decide), e 29 (by decide), e 30 (by decide), ab_u_eq d 13 f, m 1 (by decide), m 3 (by decide), m 4 (by decide), m 5 (by decide), m 6 (by decide), m 7 (by decide), m 8 (by decide), m 9 (by decide), m 10 (by decide), m 11 (by decide), ab_u_eq M 2 f]
    exact ⟨b1, rfl, b3, b4, b5, b6, b7, b8, b9, b10, b11⟩
  · rw [e 6 (by decide), m 0 (by decide)]
    exact ⟨c1, c2, c3, c4, c5⟩
  · rw [e 3 (by decide)]; exact l1
  · rw [m 0 (by decide)]; exact l2
  · unfold zTextEq at l3 ⊢
    rw [e 32 (by decide), e 31 (by decide), m 13 (by decide), m 14 (by decide)]
    exact l3
  · unfold zI0 at i0 ⊢
    rw [e 17 (by decide), e 1 (by decide), e 2 (by decide)]
    exact i0
  · unfold zI1 zMen at i1 ⊢
    rw [e 25 (by decide), e 26 (by decide), e 27 (by decide), e 28 (by decide), e 29 (by decide), e 1 (by decide), e 2 (by decide), e 6 (by decide)]
    exact i1
  · rw [e 15 (by decide)]; exact i2
  · rw [e 16 (by decide)]; exact i3
theorem zRN_a14 {d M : ab_M} (h : zRN d M) (f : Nat → Int32) : zRN (ab_u d 14 f) (ab_u M 3 f) := by
  obtain ⟨⟨⟨a1, a2, a3, a4, a5, a6, a7, a8⟩, ⟨b1, b2, b3, b4, b5, b6, b7, b8, b9, b10, b11⟩, ⟨c1, c2, c3, c4, c5⟩, w, hw, l1, l2, l3⟩, i0, i1, i2, i3⟩ := h
  have e : ∀ q, q ≠ 14 → ab_u d 14 f q = d q := fun q hq => ab_u_ne _ _ hq
  have m : ∀ q, q ≠ 3 → ab_u M 3 f q = M q := fun q hq => ab_u_ne _ _ hq
  refine ⟨⟨?_, ?_, ?_, w, hw, ?_, ?_, ?_⟩, ?_, ?_, ?_, ?_⟩
  · rw [e 17 (by decide), e 1 (by decide), e 2 (by decide), m 0 (by decide)]
    exact ⟨a1, a2, a3, a4, a5, a6, a7, a8⟩
  · rw [e 18 (by decide), e 13 (by decide), e 15 (by decide), e 16 (by decide), e 25 (by decide), e 26 (by decide), e 27 (by decide), e 28 (by decide), e 29 (by decide), e 30 (by decide), ab_u_eq d 14 f, m 1 (by decide), m 2 (by decide), m 4 (by decide), m 5 (by decide), m 6 (by decide), m 7 (by decide), m 8 (by decide), m 9 (by decide), m 10 (by decide), m 11 (by decide), ab_u_eq M 3 f]
    exact ⟨b1, b2, rfl, b4, b5, b6, b7, b8, b9, b10, b11⟩
  · rw [e 6 (by decide), m 0 (by decide)]
    exact ⟨c1, c2, c3, c4, c5⟩
  · rw [e 3 (by decide)]; exact l1
  · rw [m 0 (by decide)]; exact l2
  · unfold zTextEq at l3 ⊢
    rw [e 32 (by decide), e 31 (by decide), m 13 (by decide), m 14 (by decide)]
    exact l3
  · unfold zI0 at i0 ⊢
    rw [e 17 (by decide), e 1 (by decide), e 2 (by decide)]
    exact i0
  · unfold zI1 zMen at i1 ⊢
    rw [e 25 (by decide), e 26 (by decide), e 27 (by decide), e 28 (by decide), e 29 (by decide), e 1 (by decide), e 2 (by decide), e 6 (by decide)]
    exact i1
  · rw [e 15 (by decide)]; exact i2
  · rw [e 16 (by decide)]; exact i3
theorem zRN_a15 {d M : ab_M} (h : zRN d M) (f : Nat → Int32) (hf : ∀ p, p < 8 → ∃ s : Nat, s ≤ 3 ∧ f p = nI s) : zRN (ab_u d 15 f) (ab_u M 4 f) := by
  obtain ⟨⟨⟨a1, a2, a3, a4, a5, a6, a7, a8⟩, ⟨b1, b2, b3, b4, b5, b6, b7, b8, b9, b10, b11⟩, ⟨c1, c2, c3, c4, c5⟩, w, hw, l1, l2, l3⟩, i0, i1, i2, i3⟩ := h
  have e : ∀ q, q ≠ 15 → ab_u d 15 f q = d q := fun q hq => ab_u_ne _ _ hq
  have m : ∀ q, q ≠ 4 → ab_u M 4 f q = M q := fun q hq => ab_u_ne _ _ hq
  refine ⟨⟨?_, ?_, ?_, w, hw, ?_, ?_, ?_⟩, ?_, ?_, ?_, ?_⟩
  · rw [e 17 (by decide), e 1 (by decide), e 2 (by decide), m 0 (by decide)]
    exact ⟨a1, a2, a3, a4, a5, a6, a7, a8⟩
  · rw [e 18 (by decide), e 13 (by decide), e 14 (by decide), e 16 (by decide), e 25 (by decide), e 26 (by decide), e 27 (by decide), e 28 (by decide), e 29 (by decide), e 30 (by decide), ab_u_eq d 15 f, m 1 (by decide), m 2 (by decide), m 3 (by decide), m 5 (by decide), m 6 (by decide), m 7 (by decide), m 8 (by decide), m 9 (by decide), m 10 (by decide), m 11 (by decide), ab_u_eq M 4 f]
    exact ⟨b1, b2, b3, rfl, b5, b6, b7, b8, b9, b10, b11⟩
  · rw [e 6 (by decide), m 0 (by decide)]
    exact ⟨c1, c2, c3, c4, c5⟩
  · rw [e 3 (by decide)]; exact l1
  · rw [m 0 (by decide)]; exact l2
  · unfold zTextEq at l3 ⊢
    rw [e 32 (by decide), e 31 (by decide), m 13 (by decide), m 14 (by decide)]
    exact l3
  · unfold zI0 at i0 ⊢
    rw [e 17 (by decide), e 1 (by decide), e 2 (by decide)]
    exact i0
  · unfold zI1 zMen at i1 ⊢
    rw [e 25 (by decide), e 26 (by decide), e 27 (by decide), e 28 (by decide), e 29 (by decide), e 1 (by decide), e 2 (by decide), e 6 (by decide)]
    exact i1
  · rw [ab_u_eq d 15 f]; exact hf
  · rw [e 16 (by decide)]; exact i3
theorem zRN_a16 {d M : ab_M} (h : zRN d M) (f : Nat → Int32) (hf : ∀ p, p < 8 → f p = 0 ∨ f p = 1) : zRN (ab_u d 16 f) (ab_u M 5 f) := by
  obtain ⟨⟨⟨a1, a2, a3, a4, a5, a6, a7, a8⟩, ⟨b1, b2, b3, b4, b5, b6, b7, b8, b9, b10, b11⟩, ⟨c1, c2, c3, c4, c5⟩, w, hw, l1, l2, l3⟩, i0, i1, i2, i3⟩ := h
  have e : ∀ q, q ≠ 16 → ab_u d 16 f q = d q := fun q hq => ab_u_ne _ _ hq
  have m : ∀ q, q ≠ 5 → ab_u M 5 f q = M q := fun q hq => ab_u_ne _ _ hq
  refine ⟨⟨?_, ?_, ?_, w, hw, ?_, ?_, ?_⟩, ?_, ?_, ?_, ?_⟩
  · rw [e 17 (by decide), e 1 (by decide), e 2 (by decide), m 0 (by decide)]
    exact ⟨a1, a2, a3, a4, a5, a6, a7, a8⟩
  · rw [e 18 (by decide), e 13 (by decide), e 14 (by decide), e 15 (by decide), e 25 (by decide), e 26 (by decide), e 27 (by decide), e 28 (by decide), e 29 (by decide), e 30 (by decide), ab_u_eq d 16 f, m 1 (by decide), m 2 (by decide), m 3 (by decide), m 4 (by decide), m 6 (by decide), m 7 (by decide), m 8 (by decide), m 9 (by decide), m 10 (by decide), m 11 (by decide), ab_u_eq M 5 f]
    exact ⟨b1, b2, b3, b4, rfl, b6, b7, b8, b9, b10, b11⟩
  · rw [e 6 (by decide), m 0 (by decide)]
    exact ⟨c1, c2, c3, c4, c5⟩
  · rw [e 3 (by decide)]; exact l1
  · rw [m 0 (by decide)]; exact l2
  · unfold zTextEq at l3 ⊢
    rw [e 32 (by decide), e 31 (by decide), m 13 (by decide), m 14 (by decide)]
    exact l3
  · unfold zI0 at i0 ⊢
    rw [e 17 (by decide), e 1 (by decide), e 2 (by decide)]
    exact i0
  · unfold zI1 zMen at i1 ⊢
    rw [e 25 (by decide), e 26 (by decide), e 27 (by decide), e 28 (by decide), e 29 (by decide), e 1 (by decide), e 2 (by decide), e 6 (by decide)]
    exact i1
  · rw [e 15 (by decide)]; exact i2
  · rw [ab_u_eq d 16 f]; exact hf
theorem zRN_a25 {d M : ab_M} (h : zRN d M) (f : Nat → Int32) (hf : zI1 (ab_u d 25 f)) : zRN (ab_u d 25 f) (ab_u M 6 f) := by
  obtain ⟨⟨⟨a1, a2, a3, a4, a5, a6, a7, a8⟩, ⟨b1, b2, b3, b4, b5, b6, b7, b8, b9, b10, b11⟩, ⟨c1, c2, c3, c4, c5⟩, w, hw, l1, l2, l3⟩, i0, i1, i2, i3⟩ := h
  have e : ∀ q, q ≠ 25 → ab_u d 25 f q = d q := fun q hq => ab_u_ne _ _ hq
  have m : ∀ q, q ≠ 6 → ab_u M 6 f q = M q := fun q hq => ab_u_ne _ _ hq
  refine ⟨⟨?_, ?_, ?_, w, hw, ?_, ?_, ?_⟩, ?_, ?_, ?_, ?_⟩
  · rw [e 17 (by decide), e 1 (by decide), e 2 (by decide), m 0 (by decide)]
    exact ⟨a1, a2, a3, a4, a5, a6, a7, a8⟩
  · rw [e 18 (by decide), e 13 (by decide), e 14 (by decide), e 15 (by decide), e 16 (by decide), e 26 (by decide), e 27 (by decide), e 28 (by decide), e 29 (by decide), e 30 (by decide), ab_u_eq d 25 f, m 1 (by decide), m 2 (by decide), m 3 (by decide), m 4 (by decide), m 5 (by decide), m 7 (by decide), m 8 (by decide), m 9 (by decide), m 10 (by decide), m 11 (by decide), ab_u_eq M 6 f]
    exact ⟨b1, b2, b3, b4, b5, rfl, b7, b8, b9, b10, b11⟩
  · rw [e 6 (by decide), m 0 (by decide)]
    exact ⟨c1, c2, c3, c4, c5⟩
  · rw [e 3 (by decide)]; exact l1
  · rw [m 0 (by decide)]; exact l2
  · unfold zTextEq at l3 ⊢
    rw [e 32 (by decide), e 31 (by decide), m 13 (by decide), m 14 (by decide)]
    exact l3
  · unfold zI0 at i0 ⊢
    rw [e 17 (by decide), e 1 (by decide), e 2 (by decide)]
    exact i0
  · exact hf
  · rw [e 15 (by decide)]; exact i2
  · rw [e 16 (by decide)]; exact i3
theorem zRN_a26 {d M : ab_M} (h : zRN d M) (f : Nat → Int32) (hf : zI1 (ab_u d 26 f)) : zRN (ab_u d 26 f) (ab_u M 7 f) := by
  obtain ⟨⟨⟨a1, a2, a3, a4, a5, a6, a7, a8⟩, ⟨b1, b2, b3, b4, b5, b6, b7, b8, b9, b10, b11⟩, ⟨c1, c2, c3, c4, c5⟩, w, hw, l1, l2, l3⟩, i0, i1, i2, i3⟩ := h
  have e : ∀ q, q ≠ 26 → ab_u d 26 f q = d q := fun q hq => ab_u_ne _ _ hq
  have m : ∀ q, q ≠ 7 → ab_u M 7 f q = M q := fun q hq => ab_u_ne _ _ hq
  refine ⟨⟨?_, ?_, ?_, w, hw, ?_, ?_, ?_⟩, ?_, ?_, ?_, ?_⟩
  · rw [e 17 (by decide), e 1 (by decide), e 2 (by decide), m 0 (by decide)]
    exact ⟨a1, a2, a3, a4, a5, a6, a7, a8⟩
  · rw [e 18 (by decide), e 13 (by decide), e 14 (by decide), e 15 (by decide), e 16 (by decide), e 25 (by decide), e 27 (by decide), e 28 (by decide), e 29 (by decide), e 30 (by decide), ab_u_eq d 26 f, m 1 (by decide), m 2 (by decide), m 3 (by decide), m 4 (by decide), m 5 (by decide), m 6 (by decide), m 8 (by decide), m 9 (by decide), m 10 (by decide), m 11 (by decide), ab_u_eq M 7 f]
    exact ⟨b1, b2, b3, b4, b5, b6, rfl, b8, b9, b10, b11⟩
  · rw [e 6 (by decide), m 0 (by decide)]
    exact ⟨c1, c2, c3, c4, c5⟩
  · rw [e 3 (by decide)]; exact l1
  · rw [m 0 (by decide)]; exact l2
  · unfold zTextEq at l3 ⊢
    rw [e 32 (by decide), e 31 (by decide), m 13 (by decide), m 14 (by decide)]
    exact l3
  · unfold zI0 at i0 ⊢
    rw [e 17 (by decide), e 1 (by decide), e 2 (by decide)]
    exact i0
  · exact hf
  · rw [e 15 (by decide)]; exact i2
  · rw [e 16 (by decide)]; exact i3
theorem zRN_a27 {d M : ab_M} (h : zRN d M) (f : Nat → Int32) (hf : zI1 (ab_u d 27 f)) : zRN (ab_u d 27 f) (ab_u M 8 f) := by
  obtain ⟨⟨⟨a1, a2, a3, a4, a5, a6, a7, a8⟩, ⟨b1, b2, b3, b4, b5, b6, b7, b8, b9, b10, b11⟩, ⟨c1, c2, c3, c4, c5⟩, w, hw, l1, l2, l3⟩, i0, i1, i2, i3⟩ := h
  have e : ∀ q, q ≠ 27 → ab_u d 27 f q = d q := fun q hq => ab_u_ne _ _ hq
  have m : ∀ q, q ≠ 8 → ab_u M 8 f q = M q := fun q hq => ab_u_ne _ _ hq
  refine ⟨⟨?_, ?_, ?_, w, hw, ?_, ?_, ?_⟩, ?_, ?_, ?_, ?_⟩
  · rw [e 17 (by decide), e 1 (by decide), e 2 (by decide), m 0 (by decide)]
    exact ⟨a1, a2, a3, a4, a5, a6, a7, a8⟩
  · rw [e 18 (by decide), e 13 (by decide), e 14 (by decide), e 15 (by decide), e 16 (by decide), e 25 (by decide), e 26 (by decide), e 28 (by decide), e 29 (by decide), e 30 (by decide), ab_u_eq d 27 f, m 1 (by decide), m 2 (by decide), m 3 (by decide), m 4 (by decide), m 5 (by decide), m 6 (by decide), m 7 (by decide), m 9 (by decide), m 10 (by decide), m 11 (by decide), ab_u_eq M 8 f]
    exact ⟨b1, b2, b3, b4, b5, b6, b7, rfl, b9, b10, b11⟩
  · rw [e 6 (by decide), m 0 (by decide)]
    exact ⟨c1, c2, c3, c4, c5⟩
  · rw [e 3 (by decide)]; exact l1
  · rw [m 0 (by decide)]; exact l2
  · unfold zTextEq at l3 ⊢
    rw [e 32 (by decide), e 31 (by decide), m 13 (by decide), m 14 (by decide)]
    exact l3
  · unfold zI0 at i0 ⊢
    rw [e 17 (by decide), e 1 (by decide), e 2 (by decide)]
    exact i0
  · exact hf
  · rw [e 15 (by decide)]; exact i2
  · rw [e 16 (by decide)]; exact i3
theorem zRN_a28 {d M : ab_M} (h : zRN d M) (f : Nat → Int32) (hf : zI1 (ab_u d 28 f)) : zRN (ab_u d 28 f) (ab_u M 9 f) := by
  obtain ⟨⟨⟨a1, a2, a3, a4, a5, a6, a7, a8⟩, ⟨b1, b2, b3, b4, b5, b6, b7, b8, b9, b10, b11⟩, ⟨c1, c2, c3, c4, c5⟩, w, hw, l1, l2, l3⟩, i0, i1, i2, i3⟩ := h
  have e : ∀ q, q ≠ 28 → ab_u d 28 f q = d q := fun q hq => ab_u_ne _ _ hq
  have m : ∀ q, q ≠ 9 → ab_u M 9 f q = M q := fun q hq => ab_u_ne _ _ hq
  refine ⟨⟨?_, ?_, ?_, w, hw, ?_, ?_, ?_⟩, ?_, ?_, ?_, ?_⟩
  · rw [e 17 (by decide), e 1 (by decide), e 2 (by decide), m 0 (by decide)]
    exact ⟨a1, a2, a3, a4, a5, a6, a7, a8⟩
  · rw [e 18 (by decide), e 13 (by decide), e 14 (by decide), e 15 (by decide), e 16 (by decide), e 25 (by decide), e 26 (by decide), e 27 (by decide), e 29 (by decide), e 30 (by decide), ab_u_eq d 28 f, m 1 (by decide), m 2 (by decide), m 3 (by decide), m 4 (by decide), m 5 (by decide), m 6 (by decide), m 7 (by decide), m 8 (by decide), m 10 (by decide), m 11 (by decide), ab_u_eq M 9 f]
    exact ⟨b1, b2, b3, b4, b5, b6, b7, b8, rfl, b10, b11⟩
  · rw [e 6 (by decide), m 0 (by decide)]
    exact ⟨c1, c2, c3, c4, c5⟩
  · rw [e 3 (by decide)]; exact l1
  · rw [m 0 (by decide)]; exact l2
  · unfold zTextEq at l3 ⊢
    rw [e 32 (by decide), e 31 (by decide), m 13 (by decide), m 14 (by decide)]
    exact l3
  · unfold zI0 at i0 ⊢
    rw [e 17 (by decide), e 1 (by decide), e 2 (by decide)]
    exact i0
  · exact hf
  · rw [e 15 (by decide)]; exact i2
  · rw [e 16 (by decide)]; exact i3
theorem zRN_a29 {d M : ab_M} (h : zRN d M) (f : Nat → Int32) (hf : zI1 (ab_u d 29 f)) : zRN (ab_u d 29 f) (ab_u M 10 f) := by
  obtain ⟨⟨⟨a1, a2, a3, a4, a5, a6, a7, a8⟩, ⟨b1, b2, b3, b4, b5, b6, b7, b8, b9, b10, b11⟩, ⟨c1, c2, c3, c4, c5⟩, w, hw, l1, l2, l3⟩, i0, i1, i2, i3⟩ := h
  have e : ∀ q, q ≠ 29 → ab_u d 29 f q = d q := fun q hq => ab_u_ne _ _ hq
  have m : ∀ q, q ≠ 10 → ab_u M 10 f q = M q := fun q hq => ab_u_ne _ _ hq
  refine ⟨⟨?_, ?_, ?_, w, hw, ?_, ?_, ?_⟩, ?_, ?_, ?_, ?_⟩
  · rw [e 17 (by decide), e 1 (by decide), e 2 (by decide), m 0 (by decide)]
    exact ⟨a1, a2, a3, a4, a5, a6, a7, a8⟩
  · rw [e 18 (by decide), e 13 (by decide), e 14 (by decide), e 15 (by decide), e 16 (by decide), e 25 (by decide), e 26 (by decide), e 27 (by decide), e 28 (by decide), e 30 (by decide), ab_u_eq d 29 f, m 1 (by decide), m 2 (by decide), m 3 (by decide), m 4 (by decide), m 5 (by decide), m 6 (by decide), m 7 (by decide), m 8 (by decide), m 9 (by decide), m 11 (by decide), ab_u_eq M 10 f]
    exact ⟨b1, b2, b3, b4, b5, b6, b7, b8, b9, rfl, b11⟩
  · rw [e 6 (by decide), m 0 (by decide)]
    exact ⟨c1, c2, c3, c4, c5⟩
  · rw [e 3 (by decide)]; exact l1
  · rw [m 0 (by decide)]; exact l2
  · unfold zTextEq at l3 ⊢
    rw [e 32 (by decide), e 31 (by decide), m 13 (by decide), m 14 (by decide)]
    exact l3
  · unfold zI0 at i0 ⊢
    rw [e 17 (by decide), e 1 (by decide), e 2 (by decide)]
    exact i0
  · exact hf
  · rw [e 15 (by decide)]; exact i2
  · rw [e 16 (by decide)]; exact i3
theorem zRN_a30 {d M : ab_M} (h : zRN d M) (f : Nat → Int32) : zRN (ab_u d 30 f) (ab_u M 11 f) := by
  obtain ⟨⟨⟨a1, a2, a3, a4, a5, a6, a7, a8⟩, ⟨b1, b2, b3, b4, b5, b6, b7, b8, b9, b10, b11⟩, ⟨c1, c2, c3, c4, c5⟩, w, hw, l1, l2, l3⟩, i0, i1, i2, i3⟩ := h
  have e : ∀ q, q ≠ 30 → ab_u d 30 f q = d q := fun q hq => ab_u_ne _ _ hq
  have m : ∀ q, q ≠ 11 → ab_u M 11 f q = M q := fun q hq => ab_u_ne _ _ hq
  refine ⟨⟨?_, ?_, ?_, w, hw, ?_, ?_, ?_⟩, ?_, ?_, ?_, ?_⟩
  · rw [e 17 (by decide), e 1 (by decide), e 2 (by decide), m 0 (by decide)]
    exact ⟨a1, a2, a3, a4, a5, a6, a7, a8⟩
  · rw [e 18 (by decide), e 13 (by decide), e 14 (by decide), e 15 (by decide), e 16 (by decide), e 25 (by decide), e 26 (by decide), e 27 (by decide), e 28 (by decide), e 29 (by decide), ab_u_eq d 30 f, m 1 (by decide), m 2 (by decide), m 3 (by decide), m 4 (by decide), m 5 (by decide), m 6 (by decide), m 7 (by decide), m 8 (by decide), m 9 (by decide), m 10 (by decide), ab_u_eq M 11 f]
    exact ⟨b1, b2, b3, b4, b5, b6, b7, b8, b9, b10, rfl⟩
  · rw [e 6 (by decide), m 0 (by decide)]
    exact ⟨c1, c2, c3, c4, c5⟩
  · rw [e 3 (by decide)]; exact l1
  · rw [m 0 (by decide)]; exact l2
  · unfold zTextEq at l3 ⊢
    rw [e 32 (by decide), e 31 (by decide), m 13 (by decide), m 14 (by decide)]
    exact l3
  · unfold zI0 at i0 ⊢
    rw [e 17 (by decide), e 1 (by decide), e 2 (by decide)]
    exact i0
  · unfold zI1 zMen at i1 ⊢
    rw [e 25 (by decide), e 26 (by decide), e 27 (by decide), e 28 (by decide), e 29 (by decide), e 1 (by decide), e 2 (by decide), e 6 (by decide)]
    exact i1
  · rw [e 15 (by decide)]; exact i2
  · rw [e 16 (by decide)]; exact i3
theorem zRN_ni0 {d M : ab_M} (h : zRN d M) (v : Int32) (h0 : zI0 (ab_u d 17 (upd (d 17) 0 v))) : zRN (ab_u d 17 (upd (d 17) 0 v)) (ab_u M 0 (upd (M 0) 0 v)) := by
  obtain ⟨⟨⟨a1, a2, a3, a4, a5, a6, a7, a8⟩, ⟨b1, b2, b3, b4, b5, b6, b7, b8, b9, b10, b11⟩, ⟨c1, c2, c3, c4, c5⟩, w, hw, l1, l2, l3⟩, i0, i1, i2, i3⟩ := h
  have e : ∀ q, q ≠ 17 → (ab_u d 17 (upd (d 17) 0 v)) q = d q := fun q hq => ab_u_ne _ _ hq
  have m : ∀ q, q ≠ 0 → (ab_u M 0 (upd (M 0) 0 v)) q = M q := fun q hq => ab_u_ne _ _ hq
  have ec : ∀ j, j ≠ 0 → (ab_u d 17 (upd (d 17) 0 v)) 17 j = d 17 j := fun j x0 => by rw [ab_u_eq, upd_ne _ _ x0]
  have mc : ∀ j, j ≠ 0 → (ab_u M 0 (upd (M 0) 0 v)) 0 j = M 0 j := fun j x0 => by rw [ab_u_eq, upd_ne _ _ x0]
  have v0 : (ab_u d 17 (upd (d 17) 0 v)) 17 0 = v := by rw [ab_u_eq, upd_eq]
  have w0 : (ab_u M 0 (upd (M 0) 0 v)) 0 0 = v := by rw [ab_u_eq, upd_eq]
  refine ⟨⟨?_, ?_, ?_, w, hw, ?_, ?_, ?_⟩, ?_, ?_, ?_, ?_⟩
  · rw [v0, ec 1 (by decide), ec 2 (by decide), ec 3 (by decide), ec 4 (by decide), e 1 (by decide), e 2 (by decide), w0, mc 1 (by decide), mc 2 (by decide), mc 3 (by decide), mc 4 (by decide), mc 5 (by decide), mc 7 (by decide), mc 12 (by decide)]
    exact ⟨rfl, a2, a3, a4, a5, a6, a7, a8⟩
  · rw [e 18 (by decide), e 13 (by decide), e 14 (by decide), e 15 (by decide), e 16 (by decide), e 25 (by decide), e 26 (by decide), e 27 (by decide), e 28 (by decide), e 29 (by decide), e 30 (by decide), m 1 (by decide), m 2 (by decide), m 3 (by decide), m 4 (by decide), m 5 (by decide), m 6 (by decide), m 7 (by decide), m 8 (by decide), m 9 (by decide), m 10 (by decide), m 11 (by decide)]
    exact ⟨b1, b2, b3, b4, b5, b6, b7, b8, b9, b10, b11⟩
  · rw [e 6 (by decide), mc 30 (by decide), mc 27 (by decide), mc 28 (by decide), mc 29 (by decide), mc 25 (by decide), mc 26 (by decide)]
    exact ⟨c1, c2, c3, c4, c5⟩
  · rw [e 3 (by decide)]; exact l1
  · rw [mc 24 (by decide)]; exact l2
  · unfold zTextEq at l3 ⊢
    rw [e 32 (by decide), e 31 (by decide), m 13 (by decide), m 14 (by decide)]
    exact l3
  · exact h0
  · unfold zI1 zMen at i1 ⊢
    rw [e 25 (by decide), e 26 (by decide), e 27 (by decide), e 28 (by decide), e 29 (by decide), e 1 (by decide), e 2 (by decide), e 6 (by decide)]
    exact i1
  · rw [e 15 (by decide)]; exact i2
  · rw [e 16 (by decide)]; exact i3
theorem zRN_ni1 {d M : ab_M} (h : zRN d M) (v : Int32) (h0 : zI0 (ab_u d 17 (upd (d 17) 1 v))) : zRN (ab_u d 17 (upd (d 17) 1 v)) (ab_u M 0 (upd (M 0) 1 v)) := by
  obtain ⟨⟨⟨a1, a2, a3, a4, a5, a6, a7, a8⟩, ⟨b1, b2, b3, b4, b5, b6, b7, b8, b9, b10, b11⟩, ⟨c1, c2, c3, c4, c5⟩, w, hw, l1, l2, l3⟩, i0, i1, i2, i3⟩ := h
  have e : ∀ q, q ≠ 17 → (ab_u d 17 (upd (d 17) 1 v)) q = d q := fun q hq => ab_u_ne _ _ hq
  have m : ∀ q, q ≠ 0 → (ab_u M 0 (upd (M 0) 1 v)) q = M q := fun q hq => ab_u_ne _ _ hq
  have ec : ∀ j, j ≠ 1 → (ab_u d 17 (upd (d 17) 1 v)) 17 j = d 17 j := fun j x1 => by rw [ab_u_eq, upd_ne _ _ x1]
  have mc : ∀ j, j ≠ 1 → (ab_u M 0 (upd (M 0) 1 v)) 0 j = M 0 j := fun j x1 => by rw [ab_u_eq, upd_ne _ _ x1]
  have v1 : (ab_u d 17 (upd (d 17) 1 v)) 17 1 = v := by rw [ab_u_eq, upd_eq]
  have w1 : (ab_u M 0 (upd (M 0) 1 v)) 0 1 = v := by rw [ab_u_eq, upd_eq]
  refine ⟨⟨?_, ?_, ?_, w, hw, ?_, ?_, ?_⟩, ?_, ?_, ?_, ?_⟩
  · rw [ec 0 (by decide), v1, ec 2 (by decide), ec 3 (by decide), ec 4 (by decide), e 1 (by decide), e 2 (by decide), mc 0 (by decide), w1, mc 2 (by decide), mc 3 (by decide), mc 4 (by decide), mc 5 (by decide), mc 7 (by decide), mc 12 (by decide)]
    exact ⟨a1, rfl, a3, a4, a5, a6, a7, a8⟩
  · rw [e 18 (by decide), e 13 (by decide), e 14 (by decide), e 15 (by decide), e 16 (by decide), e 25 (by decide), e 26 (by decide), e 27 (by decide), e 28 (by decide), e 29 (by decide), e 30 (by decide), m 1 (by decide), m 2 (by decide), m 3 (by decide), m 4 (by decide), m 5 (by decide), m 6 (by decide), m 7 (by decide), m 8 (by decide), m 9 (by decide), m 10 (by decide), m 11 (by decide)]
    exact ⟨b1, b2, b3, b4, b5, b6, b7, b8, b9, b10, b11⟩
  · rw [e 6 (by decide), mc 30 (by decide), mc 27 (by decide), mc 28 (by decide), mc 29 (by decide), mc 25 (by decide), mc 26 (by decide)]
    exact ⟨c1, c2, c3, c4, c5⟩
  · rw [e 3 (by decide)]; exact l1
  · rw [mc 24 (by decide)]; exact l2
  · unfold zTextEq at l3 ⊢
    rw [e 32 (by decide), e 31 (by decide), m 13 (by decide), m 14 (by decide)]
    exact l3
  · exact h0
  · unfold zI1 zMen at i1 ⊢
    rw [e 25 (by decide), e 26 (by decide), e 27 (by decide), e 28 (by decide), e 29 (by decide), e 1 (by decide), e 2 (by decide), e 6 (by decide)]
    exact i1
  · rw [e 15 (by decide)]; exact i2
  · rw [e 16 (by decide)]; exact i3
theorem zRN_ni2 {d M : ab_M} (h : zRN d M) (v : Int32) (h0 : zI0 (ab_u d 17 (upd (d 17) 2 v))) : zRN (ab_u d 17 (upd (d 17) 2 v)) (ab_u M 0 (upd (M 0) 2 v)) := by
  obtain ⟨⟨⟨a1, a2, a3, a4, a5, a6, a7, a8⟩, ⟨b1, b2, b3, b4, b5, b6, b7, b8, b9, b10, b11⟩, ⟨c1, c2, c3, c4, c5⟩, w, hw, l1, l2, l3⟩, i0, i1, i2, i3⟩ := h
  have e : ∀ q, q ≠ 17 → (ab_u d 17 (upd (d 17) 2 v)) q = d q := fun q hq => ab_u_ne _ _ hq
  have m : ∀ q, q ≠ 0 → (ab_u M 0 (upd (M 0) 2 v)) q = M q := fun q hq => ab_u_ne _ _ hq
  have ec : ∀ j, j ≠ 2 → (ab_u d 17 (upd (d 17) 2 v)) 17 j = d 17 j := fun j x2 => by rw [ab_u_eq, upd_ne _ _ x2]
  have mc : ∀ j, j ≠ 2 → (ab_u M 0 (upd (M 0) 2 v)) 0 j = M 0 j := fun j x2 => by rw [ab_u_eq, upd_ne _ _ x2]
  have v2 : (ab_u d 17 (upd (d 17) 2 v)) 17 2 = v := by rw [ab_u_eq, upd_eq]
  have w2 : (ab_u M 0 (upd (M 0) 2 v)) 0 2 = v := by rw [ab_u_eq, upd_eq]
  refine ⟨⟨?_, ?_, ?_, w, hw, ?_, ?_, ?_⟩, ?_, ?_, ?_, ?_⟩
  · rw [ec 0 (by decide), ec 1 (by decide), v2, ec 3 (by decide), ec 4 (by decide), e 1 (by decide), e 2 (by decide), mc 0 (by decide), mc 1 (by decide), w2, mc 3 (by decide), mc 4 (by decide), mc 5 (by decide), mc 7 (by decide), mc 12 (by decide)]
    exact ⟨a1, a2, rfl, a4, a5, a6, a7, a8⟩
  · rw [e 18 (by decide), e 13 (by decide), e 14 (by decide), e 15 (by decide), e 16 (by decide), e 25 (by decide), e 26 (by decide), e 27 (by decide), e 28 (by decide), e 29 (by decide), e 30 (by decide), m 1 (by decide), m 2 (by decide), m 3 (by decide), m 4 (by decide), m 5 (by decide), m 6 (by decide), m 7 (by decide), m 8 (by decide), m 9 (by decide), m 10 (by decide), m 11 (by decide)]
    exact ⟨b1, b2, b3, b4, b5, b6, b7, b8, b9, b10, b11⟩
  · rw [e 6 (by decide), mc 30 (by decide), mc 27 (by decide), mc 28 (by decide), mc 29 (by decide), mc 25 (by decide), mc 26 (by decide)]
    exact ⟨c1, c2, c3, c4, c5⟩
  · rw [e 3 (by decide)]; exact l1
  · rw [mc 24 (by decide)]; exact l2
  · unfold zTextEq at l3 ⊢
    rw [e 32 (by decide), e 31 (by decide), m 13 (by decide), m 14 (by decide)]
    exact l3
  · exact h0
  · unfold zI1 zMen at i1 ⊢
    rw [e 25 (by decide), e 26 (by decide), e 27 (by decide), e 28 (by decide), e 29 (by decide), e 1 (by decide), e 2 (by decide), e 6 (by decide)]
    exact i1
  · rw [e 15 (by decide)]; exact i2
  · rw [e 16 (by decide)]; exact i3
theorem zRN_ni3 {d M : ab_M} (h : zRN d M) (v : Int32) (h0 : zI0 (ab_u d 17 (upd (d 17) 3 v))) : zRN (ab_u d 17 (upd (d 17) 3 v)) (ab_u M 0 (upd (M 0) 3 v)) := by
  obtain ⟨⟨⟨a1, a2, a3, a4, a5, a6, a7, a8⟩, ⟨b1, b2, b3, b4, b5, b6, b7, b8, b9, b10, b11⟩, ⟨c1, c2, c3, c4, c5⟩, w, hw, l1, l2, l3⟩, i0, i1, i2, i3⟩ := h
  have e : ∀ q, q ≠ 17 → (ab_u d 17 (upd (d 17) 3 v)) q = d q := fun q hq => ab_u_ne _ _ hq
  have m : ∀ q, q ≠ 0 → (ab_u M 0 (upd (M 0) 3 v)) q = M q := fun q hq => ab_u_ne _ _ hq
  have ec : ∀ j, j ≠ 3 → (ab_u d 17 (upd (d 17) 3 v)) 17 j = d 17 j := fun j x3 => by rw [ab_u_eq, upd_ne _ _ x3]
  have mc : ∀ j, j ≠ 3 → (ab_u M 0 (upd (M 0) 3 v)) 0 j = M 0 j := fun j x3 => by rw [ab_u_eq, upd_ne _ _ x3]
  have v3 : (ab_u d 17 (upd (d 17) 3 v)) 17 3 = v := by rw [ab_u_eq, upd_eq]
  have w3 : (ab_u M 0 (upd (M 0) 3 v)) 0 3 = v := by rw [ab_u_eq, upd_eq]
  refine ⟨⟨?_, ?_, ?_, w, hw, ?_, ?_, ?_⟩, ?_, ?_, ?_, ?_⟩
  · rw [ec 0 (by decide), ec 1 (by decide), ec 2 (by decide), v3, ec 4 (by decide), e 1 (by decide), e 2 (by decide), mc 0 (by decide), mc 1 (by decide), mc 2 (by decide), w3, mc 4 (by decide), mc 5 (by decide), mc 7 (by decide), mc 12 (by decide)]
    exact ⟨a1, a2, a3, rfl, a5, a6, a7, a8⟩
  · rw [e 18 (by decide), e 13 (by decide), e 14 (by decide), e 15 (by decide), e 16 (by decide), e 25 (by decide), e 26 (by decide), e 27 (by decide), e 28 (by decide), e 29 (by decide), e 30 (by decide), m 1 (by decide), m 2 (by decide), m 3 (by decide), m 4 (by decide), m 5 (by decide), m 6 (by decide), m 7 (by decide), m 8 (by decide), m 9 (by decide), m 10 (by decide), m 11 (by decide)]
    exact ⟨b1, b2, b3, b4, b5, b6, b7, b8, b9, b10, b11⟩
  · rw [e 6 (by decide), mc 30 (by decide), mc 27 (by decide), mc 28 (by decide), mc 29 (by decide), mc 25 (by decide), mc 26 (by decide)]
    exact ⟨c1, c2, c3, c4, c5⟩
  · rw [e 3 (by decide)]; exact l1
  · rw [mc 24 (by decide)]; exact l2
  · unfold zTextEq at l3 ⊢
    rw [e 32 (by decide), e 31 (by decide), m 13 (by decide), m 14 (by decide)]
    exact l3
  · exact h0
  · unfold zI1 zMen at i1 ⊢
    rw [e 25 (by decide), e 26 (by decide), e 27 (by decide), e 28 (by decide), e 29 (by decide), e 1 (by decide), e 2 (by decide), e 6 (by decide)]
    exact i1
  · rw [e 15 (by decide)]; exact i2
  · rw [e 16 (by decide)]; exact i3
theorem zRN_ni4 {d M : ab_M} (h : zRN d M) (v : Int32) (h0 : zI0 (ab_u d 17 (upd (d 17) 4 v))) : zRN (ab_u d 17 (upd (d 17) 4 v)) (ab_u M 0 (upd (M 0) 4 v)) := by
  obtain ⟨⟨⟨a1, a2, a3, a4, a5, a6, a7, a8⟩, ⟨b1, b2, b3, b4, b5, b6, b7, b8, b9, b10, b11⟩, ⟨c1, c2, c3, c4, c5⟩, w, hw, l1, l2, l3⟩, i0, i1, i2, i3⟩ := h
  have e : ∀ q, q ≠ 17 → (ab_u d 17 (upd (d 17) 4 v)) q = d q := fun q hq => ab_u_ne _ _ hq
  have m : ∀ q, q ≠ 0 → (ab_u M 0 (upd (M 0) 4 v)) q = M q := fun q hq => ab_u_ne _ _ hq
  have ec : ∀ j, j ≠ 4 → (ab_u d 17 (upd (d 17) 4 v)) 17 j = d 17 j := fun j x4 => by rw [ab_u_eq, upd_ne _ _ x4]
  have mc : ∀ j, j ≠ 4 → (ab_u M 0 (upd (M 0) 4 v)) 0 j = M 0 j := fun j x4 => by rw [ab_u_eq, upd_ne _ _ x4]
  have v4 : (ab_u d 17 (upd (d 17) 4 v)) 17 4 = v := by rw [ab_u_eq, upd_eq]
  have w4 : (ab_u M 0 (upd (M 0) 4 v)) 0 4 = v := by rw [ab_u_eq, upd_eq]
  refine ⟨⟨?_, ?_, ?_, w, hw, ?_, ?_, ?_⟩, ?_, ?_, ?_, ?_⟩
  · rw [ec 0 (by decide), ec 1 (by decide), ec 2 (by decide), ec 3 (by decide), v4, e 1 (by decide), e 2 (by decide), mc 0 (by decide), mc 1 (by decide), mc 2 (by decide), mc 3 (by decide), w4, mc 5 (by decide), mc 7 (by decide), mc 12 (by decide)]
    exact ⟨a1, a2, a3, a4, rfl, a6, a7, a8⟩
  · rw [e 18 (by decide), e 13 (by decide), e 14 (by decide), e 15 (by decide), e 16 (by decide), e 25 (by decide), e 26 (by decide), e 27 (by decide), e 28 (by decide), e 29 (by decide), e 30 (by decide), m 1 (by decide), m 2 (by decide), m 3 (by decide), m 4 (by decide), m 5 (by decide), m 6 (by decide), m 7 (by decide), m 8 (by decide), m 9 (by decide), m 10 (by decide), m 11 (by decide)]
    exact ⟨b1, b2, b3, b4, b5, b6, b7, b8, b9, b10, b11⟩
  · rw [e 6 (by decide), mc 30 (by decide), mc 27 (by decide), mc 28 (by decide), mc 29 (by decide), mc 25 (by decide), mc 26 (by decide)]
    exact ⟨c1, c2, c3, c4, c5⟩
  · rw [e 3 (by decide)]; exact l1
  · rw [mc 24 (by decide)]; exact l2
  · unfold zTextEq at l3 ⊢
    rw [e 32 (by decide), e 31 (by decide), m 13 (by decide), m 14 (by decide)]
    exact l3
  · exact h0
  · unfold zI1 zMen at i1 ⊢
    rw [e 25 (by decide), e 26 (by decide), e 27 (by decide), e 28 (by decide), e 29 (by decide), e 1 (by decide), e 2 (by decide), e 6 (by decide)]
    exact i1
  · rw [e 15 (by decide)]; exact i2
  · rw [e 16 (by decide)]; exact i3
theorem zRN_pieces {d M : ab_M} (h : zRN d M) (v : Int32) (h0 : zI0 (ab_u d 1 (upd (d 1) 4 v))) (h1 : zI1 (ab_u d 1 (upd (d 1) 4 v))) : zRN (ab_u d 1 (upd (d 1) 4 v)) (ab_u M 0 (upd (M 0) 7 v)) := by
  obtain ⟨⟨⟨a1, a2, a3, a4, a5, a6, a7, a8⟩, ⟨b1, b2, b3, b4, b5, b6, b7, b8, b9, b10, b11⟩, ⟨c1, c2, c3, c4, c5⟩, w, hw, l1, l2, l3⟩, i0, i1, i2, i3⟩ := h
  have e : ∀ q, q ≠ 1 → (ab_u d 1 (upd (d 1) 4 v)) q = d q := fun q hq => ab_u_ne _ _ hq
  have m : ∀ q, q ≠ 0 → (ab_u M 0 (upd (M 0) 7 v)) q = M q := fun q hq => ab_u_ne _ _ hq
  have ec : ∀ j, j ≠ 4 → (ab_u d 1 (upd (d 1) 4 v)) 1 j = d 1 j := fun j x4 => by rw [ab_u_eq, upd_ne _ _ x4]
  have mc : ∀ j, j ≠ 7 → (ab_u M 0 (upd (M 0) 7 v)) 0 j = M 0 j := fun j x7 => by rw [ab_u_eq, upd_ne _ _ x7]
  have v4 : (ab_u d 1 (upd (d 1) 4 v)) 1 4 = v := by rw [ab_u_eq, upd_eq]
  have w7 : (ab_u M 0 (upd (M 0) 7 v)) 0 7 = v := by rw [ab_u_eq, upd_eq]
  refine ⟨⟨?_, ?_, ?_, w, hw, ?_, ?_, ?_⟩, ?_, ?_, ?_, ?_⟩
  · rw [e 17 (by decide), ec 7 (by decide), v4, e 2 (by decide), mc 0 (by decide), mc 1 (by decide), mc 2 (by decide), mc 3 (by decide), mc 4 (by decide), mc 5 (by decide), w7, mc 12 (by decide)]
    exact ⟨a1, a2, a3, a4, a5, a6, rfl, a8⟩
  · rw [e 18 (by decide), e 13 (by decide), e 14 (by decide), e 15 (by decide), e 16 (by decide), e 25 (by decide), e 26 (by decide), e 27 (by decide), e 28 (by decide), e 29 (by decide), e 30 (by decide), m 1 (by decide), m 2 (by decide), m 3 (by decide), m 4 (by decide), m 5 (by decide), m 6 (by decide), m 7 (by decide), m 8 (by decide), m 9 (by decide), m 10 (by decide), m 11 (by decide)]
    exact ⟨b1, b2, b3, b4, b5, b6, b7, b8, b9, b10, b11⟩
  · rw [e 6 (by decide), mc 30 (by decide), mc 27 (by decide), mc 28 (by decide), mc 29 (by decide), mc 25 (by decide), mc 26 (by decide)]
    exact ⟨c1, c2, c3, c4, c5⟩
  · rw [e 3 (by decide)]; exact l1
  · rw [mc 24 (by decide)]; exact l2
  · unfold zTextEq at l3 ⊢
    rw [e 32 (by decide), e 31 (by decide), m 13 (by decide), m 14 (by decide)]
    exact l3
  · exact h0
  · exact h1
  · rw [e 15 (by decide)]; exact i2
  · rw [e 16 (by decide)]; exact i3
theorem zRN_men {d M : ab_M} (h : zRN d M) (v : Int32) (h0 : zI0 (ab_u d 2 (upd (d 2) 6 v))) (h1 : zI1 (ab_u d 2 (upd (d 2) 6 v))) : zRN (ab_u d 2 (upd (d 2) 6 v)) (ab_u M 0 (upd (M 0) 12 v)) := by
  obtain ⟨⟨⟨a1, a2, a3, a4, a5, a6, a7, a8⟩, ⟨b1, b2, b3, b4, b5, b6, b7, b8, b9, b10, b11⟩, ⟨c1, c2, c3, c4, c5⟩, w, hw, l1, l2, l3⟩, i0, i1, i2, i3⟩ := h
  have e : ∀ q, q ≠ 2 → (ab_u d 2 (upd (d 2) 6 v)) q = d q := fun q hq => ab_u_ne _ _ hq
  have m : ∀ q, q ≠ 0 → (ab_u M 0 (upd (M 0) 12 v)) q = M q := fun q hq => ab_u_ne _ _ hq
  have ec : ∀ j, j ≠ 6 → (ab_u d 2 (upd (d 2) 6 v)) 2 j = d 2 j := fun j x6 => by rw [ab_u_eq, upd_ne _ _ x6]
  have mc : ∀ j, j ≠ 12 → (ab_u M 0 (upd (M 0) 12 v)) 0 j = M 0 j := fun j x12 => by rw [ab_u_eq, upd_ne _ _ x12]
  have v6 : (ab_u d 2 (upd (d 2) 6 v)) 2 6 = v := by rw [ab_u_eq, upd_eq]
  have w12 : (ab_u M 0 (upd (M 0) 12 v)) 0 12 = v := by rw [ab_u_eq, upd_eq]
  refine ⟨⟨?_, ?_, ?_, w, hw, ?_, ?_, ?_⟩, ?_, ?_, ?_, ?_⟩
  · rw [e 17 (by decide), e 1 (by decide), v6, mc 0 (by decide), mc 1 (by decide), mc 2 (by decide), mc 3 (by decide), mc 4 (by decide), mc 5 (by decide), mc 7 (by decide), w12]
    exact ⟨a1, a2, a3, a4, a5, a6, a7, rfl⟩
  · rw [e 18 (by decide), e 13 (by decide), e 14 (by decide), e 15 (by decide), e 16 (by decide), e 25 (by decide), e 26 (by decide), e 27 (by decide), e 28 (by decide), e 29 (by decide), e 30 (by decide), m 1 (by decide), m 2 (by decide), m 3 (by decide), m 4 (by decide), m 5 (by decide), m 6 (by decide), m 7 (by decide), m 8 (by decide), m 9 (by decide), m 10 (by decide), m 11 (by decide)]
    exact ⟨b1, b2, b3, b4, b5, b6, b7, b8, b9, b10, b11⟩
  · rw [e 6 (by decide), mc 30 (by decide), mc 27 (by decide), mc 28 (by decide), mc 29 (by decide), mc 25 (by decide), mc 26 (by decide)]
    exact ⟨c1, c2, c3, c4, c5⟩
  · rw [e 3 (by decide)]; exact l1
  · rw [mc 24 (by decide)]; exact l2
  · unfold zTextEq at l3 ⊢
    rw [e 32 (by decide), e 31 (by decide), m 13 (by decide), m 14 (by decide)]
    exact l3
  · exact h0
  · exact h1
  · rw [e 15 (by decide)]; exact i2
  · rw [e 16 (by decide)]; exact i3
theorem zRN_blind {d M : ab_M} (h : zRN d M) (v : Int32) : zRN (ab_u d 6 (upd (d 6) 7 v)) (ab_u M 0 (upd (M 0) 30 v)) := by
  obtain ⟨⟨⟨a1, a2, a3, a4, a5, a6, a7, a8⟩, ⟨b1, b2, b3, b4, b5, b6, b7, b8, b9, b10, b11⟩, ⟨c1, c2, c3, c4, c5⟩, w, hw, l1, l2, l3⟩, i0, i1, i2, i3⟩ := h
  have e : ∀ q, q ≠ 6 → (ab_u d 6 (upd (d 6) 7 v)) q = d q := fun q hq => ab_u_ne _ _ hq
  have m : ∀ q, q ≠ 0 → (ab_u M 0 (upd (M 0) 30 v)) q = M q := fun q hq => ab_u_ne _ _ hq
  have ec : ∀ j, j ≠ 7 → (ab_u d 6 (upd (d 6) 7 v)) 6 j = d 6 j := fun j x7 => by rw [ab_u_eq, upd_ne _ _ x7]
  have mc : ∀ j, j ≠ 30 → (ab_u M 0 (upd (M 0) 30 v)) 0 j = M 0 j := fun j x30 => by rw [ab_u_eq, upd_ne _ _ x30]
  have v7 : (ab_u d 6 (upd (d 6) 7 v)) 6 7 = v := by rw [ab_u_eq, upd_eq]
  have w30 : (ab_u M 0 (upd (M 0) 30 v)) 0 30 = v := by rw [ab_u_eq, upd_eq]
  refine ⟨⟨?_, ?_, ?_, w, hw, ?_, ?_, ?_⟩, ?_, ?_, ?_, ?_⟩
  · rw [e 17 (by decide), e 1 (by decide), e 2 (by decide), mc 0 (by decide), mc 1 (by decide), mc 2 (by decide), mc 3 (by decide), mc 4 (by decide), mc 5 (by decide), mc 7 (by decide), mc 12 (by decide)]
    exact ⟨a1, a2, a3, a4, a5, a6, a7, a8⟩
  · rw [e 18 (by decide), e 13 (by decide), e 14 (by decide), e 15 (by decide), e 16 (by decide), e 25 (by decide), e 26 (by decide), e 27 (by decide), e 28 (by decide), e 29 (by decide), e 30 (by decide), m 1 (by decide), m 2 (by decide), m 3 (by decide), m 4 (by decide), m 5 (by decide), m 6 (by decide), m 7 (by decide), m 8 (by decide), m 9 (by decide), m 10 (by decide), m 11 (by decide)]
    exact ⟨b1, b2, b3, b4, b5, b6, b7, b8, b9, b10, b11⟩
  · rw [v7, ec 8 (by decide), ec 9 (by decide), ec 10 (by decide), ec 11 (by decide), ec 12 (by decide), w30, mc 27 (by decide), mc 28 (by decide), mc 29 (by decide), mc 25 (by decide), mc 26 (by decide)]
    exact ⟨rfl, c2, c3, c4, c5⟩
  · rw [e 3 (by decide)]; exact l1
  · rw [mc 24 (by decide)]; exact l2
  · unfold zTextEq at l3 ⊢
    rw [e 32 (by decide), e 31 (by decide), m 13 (by decide), m 14 (by decide)]
    exact l3
  · unfold zI0 at i0 ⊢
    rw [e 17 (by decide), e 1 (by decide), e 2 (by decide)]
    exact i0
  · unfold zI1 zMen at i1 ⊢
    rw [e 25 (by decide), e 26 (by decide), e 27 (by decide), e 28 (by decide), e 29 (by decide), e 1 (by decide), e 2 (by decide), ec 8 (by decide), ec 10 (by decide)]
    exact i1
  · rw [e 15 (by decide)]; exact i2
  · rw [e 16 (by decide)]; exact i3
theorem zRN_put {d M : ab_M} (h : zRN d M) (mm hh pp : Int32) (h1 : zI1 (ab_u d 6 (upd (upd (upd (d 6) 8 mm) 9 hh) 10 pp))) : zRN (ab_u d 6 (upd (upd (upd (d 6) 8 mm) 9 hh) 10 pp)) (ab_u M 0 (upd (upd (upd (M 0) 27 mm) 28 hh) 29 pp)) := by
  obtain ⟨⟨⟨a1, a2, a3, a4, a5, a6, a7, a8⟩, ⟨b1, b2, b3, b4, b5, b6, b7, b8, b9, b10, b11⟩, ⟨c1, c2, c3, c4, c5⟩, w, hw, l1, l2, l3⟩, i0, i1, i2, i3⟩ := h
  have e : ∀ q, q ≠ 6 → (ab_u d 6 (upd (upd (upd (d 6) 8 mm) 9 hh) 10 pp)) q = d q := fun q hq => ab_u_ne _ _ hq
  have m : ∀ q, q ≠ 0 → (ab_u M 0 (upd (upd (upd (M 0) 27 mm) 28 hh) 29 pp)) q = M q := fun q hq => ab_u_ne _ _ hq
  have ec : ∀ j, j ≠ 8 → j ≠ 9 → j ≠ 10 → (ab_u d 6 (upd (upd (upd (d 6) 8 mm) 9 hh) 10 pp)) 6 j = d 6 j := fun j x8 x9 x10 => by rw [ab_u_eq, upd_ne _ _ x10, upd_ne _ _ x9, upd_ne _ _ x8]
  have mc : ∀ j, j ≠ 27 → j ≠ 28 → j ≠ 29 → (ab_u M 0 (upd (upd (upd (M 0) 27 mm) 28 hh) 29 pp)) 0 j = M 0 j := fun j x27 x28 x29 => by rw [ab_u_eq, upd_ne _ _ x29, upd_ne _ _ x28, upd_ne _ _ x27]
  have v8 : (ab_u d 6 (upd (upd (upd (d 6) 8 mm) 9 hh) 10 pp)) 6 8 = mm := by rw [ab_u_eq, upd_ne _ _ (by decide), upd_ne _ _ (by decide), upd_eq]
  have v9 : (ab_u d 6 (upd (upd (upd (d 6) 8 mm) 9 hh) 10 pp)) 6 9 = hh := by rw [ab_u_eq, upd_ne _ _ (by decide), upd_eq]
  have v10 : (ab_u d 6 (upd (upd (upd (d 6) 8 mm) 9 hh) 10 pp)) 6 10 = pp := by rw [ab_u_eq, upd_eq]
  have w27 : (ab_u M 0 (upd (upd (upd (M 0) 27 mm) 28 hh) 29 pp)) 0 27 = mm := by rw [ab_u_eq, upd_ne _ _ (by decide), upd_ne _ _ (by decide), upd_eq]
  have w28 : (ab_u M 0 (upd (upd (upd (M 0) 27 mm) 28 hh) 29 pp)) 0 28 = hh := by rw [ab_u_eq, upd_ne _ _ (by decide), upd_eq]
  have w29 : (ab_u M 0 (upd (upd (upd (M 0) 27 mm) 28 hh) 29 pp)) 0 29 = pp := by rw [ab_u_eq, upd_eq]
  refine ⟨⟨?_, ?_, ?_, w, hw, ?_, ?_, ?_⟩, ?_, ?_, ?_, ?_⟩
  · rw [e 17 (by decide), e 1 (by decide), e 2 (by decide), mc 0 (by decide) (by decide) (by decide), mc 1 (by decide) (by decide) (by decide), mc 2 (by decide) (by decide) (by decide), mc 3 (by decide) (by decide) (by decide), mc 4 (by decide) (by decide) (by decide), mc 5 (by decide) (by decide) (by decide), mc 7 (by decide) (by decide) (by decide), mc 12 (by decide) (by decide) (by decide)]
    exact ⟨a1, a2, a3, a4, a5, a6, a7, a8⟩
  · rw [e 18 (by decide), e 13 (by decide), e 14 (by decide), e 15 (by decide), e 16 (by decide), e 25 (by decide), e 26 (by decide), e 27 (by decide), e 28 (by decide), e 29 (by decide), e 30 (by decide), m 1 (by decide), m 2 (by decide), m 3 (by decide), m 4 (by decide), m 5 (by decide), m 6 (by decide), m 7 (by decide), m 8 (by decide), m 9 (by decide), m 10 (by decide), m 11 (by decide)]
    exact ⟨b1, b2, b3, b4, b5, b6, b7, b8, b9, b10, b11⟩
  · rw [ec 7 (by decide) (by decide) (by decide), v8, v9, v10, ec 11 (by decide) (by decide) (by decide), ec 12 (by decide) (by decide) (by decide), mc 30 (by decide) (by decide) (by decide), w27, w28, w29, mc 25 (by decide) (by decide) (by decide), mc 26 (by decide) (by decide) (by decide)]
    exact ⟨c1, rfl, Or.inr ⟨rfl, rfl⟩, c4, c5⟩
  · rw [e 3 (by decide)]; exact l1
  · rw [mc 24 (by decide) (by decide) (by decide)]; exact l2
  · unfold zTextEq at l3 ⊢
    rw [e 32 (by decide), e 31 (by decide), m 13 (by decide), m 14 (by decide)]
    exact l3
  · unfold zI0 at i0 ⊢
    rw [e 17 (by decide), e 1 (by decide), e 2 (by decide)]
    exact i0
  · exact h1
  · rw [e 15 (by decide)]; exact i2
  · rw [e 16 (by decide)]; exact i3
