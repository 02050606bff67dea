/-! both side by side: what holds between two calls *)
-/
/-- the image's numbers -/
def zImN (C : ab_M) (np nm : Nat) : Prop := (np ≤ 8 ∧ nm ≤ 5) ∧ ((1 ≤ C 23 0 ∧ C 23 0 ≤ 12) ∧ (2 ≤ C 23 1 ∧ C 23 1 ≤ 6) ∧ (0 ≤ C 23 2 ∧ C 23 2 ≤ 9) ∧ (0 ≤ C 23 3 ∧ C 23 3 ≤ 8) ∧ (0 ≤ C 23 4 ∧ C 23 4 ≤ 12)) ∧ (-1 ≤ C 12 7 ∧ C 12 7 ≤ 11) ∧ (∀ j : Nat, j < np → ∃ s : Nat, s ≤ 3 ∧ C 21 j = nI s) ∧ (∀ j : Nat, j < np → C 22 j = 0 ∨ C 22 j = 1) ∧ (∀ j : Nat, j < nm → 1 ≤ C 46 j ∧ C 46 j ≤ 3) ∧ ∃ t w : Nat, t < w ∧ w ≤ 6 ∧ C 3 2 = nI w ∧ C 10 3 = nI t
def zImE (C M : ab_M) (np nm : Nat) : Prop := (C 12 4 = nI np ∧ M 0 32 = nI np ∧ C 10 2 = nI nm ∧ M 0 33 = nI nm) ∧ (∀ j : Nat, j < np → C 19 j = M 16 j ∧ C 20 j = M 17 j ∧ C 21 j = M 18 j ∧ C 22 j = M 19 j) ∧ (C 23 0 = M 0 34 ∧ C 23 1 = M 0 35 ∧ C 23 2 = M 0 36 ∧ C 23 3 = M 0 37 ∧ C 23 4 = M 0 38) ∧ (∀ j : Nat, j < 12 → C 24 j = M 15 j) ∧ C 12 7 = M 0 39 ∧ C 10 3 = M 0 40 ∧ ∀ j : Nat, j < nm → C 46 j = M 20 j
def zInvI (C M : ab_M) : Prop := C 10 4 = M 0 31 ∧ (¬ C 10 4 = 0 → ∃ np nm : Nat, zImN C np nm ∧ zImE C M np nm)
def zInvS (C M : ab_M) : Prop := (M 21 = C 43 ∧ M 22 = C 44 ∧ M 23 = C 45) ∧ zSh C
def zInvT (C M : ab_M) (N : ab_N) : Prop := ∃ n : Nat, zTp C n ∧ zTpR M N n ∧ ∀ j, j < n → C 34 j = M 12 j
def zInvX (C M : ab_M) : Prop := ∃ w : Nat, (1 ≤ w ∧ w ≤ 6) ∧ C 3 2 = nI w ∧ M 0 23 = nI w ∧ (∀ t, t < w → zTextEq C M t) ∧ ∃ t : Nat, t < w ∧ C 3 3 = nI t ∧ M 0 24 = nI t
def zInv (b : Nat) (C M : ab_M) (N : ab_N) : Prop := (zRN C M ∧ zAsks C ∧ zT6 C) ∧ (∃ a : Nat, 1 ≤ a ∧ a ≤ b ∧ C 5 4 = nI a) ∧ zInvS C M ∧ zInvT C M N ∧ zInvX C M ∧ zInvI C M
def zOu (b : Nat) (r r2 : Option Value) (C M : ab_M) (N : ab_N) : Prop := (∃ v : Int32, r = some (.int v) ∧ r2 = some (.int v)) ∧ zInv b C M N
def zOuL (b : Nat) (r r2 : Option Value) (C M : ab_M) (N : ab_N) : Prop := (∃ v : Int64, r = some (.long v) ∧ r2 = some (.long v)) ∧ zInv b C M N
theorem zInv_rn {b : Nat} {C M : ab_M} {N : ab_N} (h : zInv b C M N) : zRN C M := h.1.1
theorem zInv_n {b : Nat} {C M : ab_M} {N : ab_N} (h : zInv b C M N) : zNight C := ⟨h.1.2.1, h.1.1.2.1, h.1.1.2.2.1⟩
theorem zInv_up {b b2 : Nat} {C M : ab_M} {N : ab_N} (h : zInv b C M N) (hb : b ≤ b2) : zInv b2 C M N := by
  obtain ⟨h1, ⟨a, a1, a2, a3⟩, h3⟩ := h
  exact ⟨h1, ⟨a, a1, by omega, a3⟩, h3⟩
theorem zT6_fr {C C2 : ab_M} (h : zT6 C) (hF : zFr zQc C C2) : zT6 C2 := by
  unfold zT6
  rw [hF 6 (by decide)]
  exact h
theorem zTextEq_fc {C C2 M : ab_M} {t : Nat} (h : zTextEq C M t) (h31 : C2 31 = C 31) (h32 : C2 32 = C 32) : zTextEq C2 M t := by
  unfold zTextEq at h ⊢
  rw [h31, h32]
  exact h
theorem zRN_t6 {C M : ab_M} (h : zRN C M) (hT : zT6 C) : M 0 30 = -1 ∧ M 0 27 = -1 ∧ M 0 25 = -1 := by
  obtain ⟨⟨-, -, ⟨c1, c2, -, c4, -⟩, -⟩, -⟩ := h
  exact ⟨c1 ▸ hT.1, c2 ▸ hT.2.1, c4 ▸ hT.2.2⟩
theorem zRN_q {C M C2 M2 : ab_M} (h : zRN C M) (hC : zFr (6 :: zQc) C C2) (hT : zT6 C) (hT2 : zT6 C2) (hM : ∀ c, 1 ≤ c → c ≤ 24 → M2 c = M c) (h0 : ∀ j, j ≠ 26 → j ≠ 28 → j ≠ 29 → j ≠ 71 → M2 0 j = M 0 j) : zRN C2 M2 := by
  obtain ⟨m1, m2, m3⟩ := zRN_t6 h hT
  obtain ⟨⟨⟨a1, a2, a3, a4, a5, a6, a7, a8⟩, ⟨b1, b2, b3, b4, b5, b6, b7, b8, b9, b10, b11⟩, -, w, hw, l1, l2, l3⟩, i0, i1, i2, i3⟩ := h
  have e : ∀ c, c ∉ (6 :: zQc) → C2 c = C c := hC
  have e1 := e 1 (by decide)
  have e2 := e 2 (by decide)
  have e3 := e 3 (by decide)
  have e13 := e 13 (by decide)
  have e14 := e 14 (by decide)
  have e15 := e 15 (by decide)
  have e16 := e 16 (by decide)
  have e17 := e 17 (by decide)
  have e18 := e 18 (by decide)
  have e25 := e 25 (by decide)
  have e26 := e 26 (by decide)
  have e27 := e 27 (by decide)
  have e28 := e 28 (by decide)
  have e29 := e 29 (by decide)
  have e30 := e 30 (by decide)
  have e31 := e 31 (by decide)
  have e32 := e 32 (by decide)
  refine ⟨⟨⟨?_, ?_, ?_, ?_, ?_, ?_, ?_, ?_⟩, ⟨?_, ?_, ?_, ?_, ?_, ?_, ?_, ?_, ?_, ?_, ?_⟩, ⟨?_, ?_, Or.inl hT2.2.1, ?_, Or.inl hT2.2.2⟩, w, hw, ?_, ?_, ?_⟩, ?_, ?_, ?_, ?_⟩
  · rw [e17, h0 0 (by decide) (by decide) (by decide) (by decide)]; exact a1
  · rw [e17, h0 1 (by decide) (by decide) (by decide) (by decide)]; exact a2
  · rw [e17, h0 2 (by decide) (by decide) (by decide) (by decide)]; exact a3
  · rw [e17, h0 3 (by decide) (by decide) (by decide) (by decide)]; exact a4
  · rw [e17, h0 4 (by decide) (by decide) (by decide) (by decide)]; exact a5
  · rw [e1, h0 5 (by decide) (by decide) (by decide) (by decide)]; exact a6
  · rw [e1, h0 7 (by decide) (by decide) (by decide) (by decide)]; exact a7
  · rw [e2, h0 12 (by decide) (by decide) (by decide) (by decide)]; exact a8
  · rw [e18, hM 1 (by decide) (by decide)]; exact b1
  · rw [e13, hM 2 (by decide) (by decide)]; exact b2
  · rw [e14, hM 3 (by decide) (by decide)]; exact b3
  · rw [e15, hM 4 (by decide) (by decide)]; exact b4
  · rw [e16, hM 5 (by decide) (by decide)]; exact b5
  · rw [e25, hM 6 (by decide) (by decide)]; exact b6
  · rw [e26, hM 7 (by decide) (by decide)]; exact b7
  · rw [e27, hM 8 (by decide) (by decide)]; exact b8
  · rw [e28, hM 9 (by decide) (by decide)]; exact b9
  · rw [e29, hM 10 (by decide) (by decide)]; exact b10
  · rw [e30, hM 11 (by decide) (by decide)]; exact b11
  · rw [h0 30 (by decide) (by decide) (by decide) (by decide), m1]; exact hT2.1
  · rw [h0 27 (by decide) (by decide) (by decide) (by decide), m2]; exact hT2.2.1
  · rw [h0 25 (by decide) (by decide) (by decide) (by decide), m3]; exact hT2.2.2
  · rw [e3]; exact l1
  · rw [h0 24 (by decide) (by decide) (by decide) (by decide)]; exact l2
  · exact zTextEq_fc (zTextEq_fr l3 (hM 13 (by decide) (by decide)) (hM 14 (by decide) (by decide))) e31 e32
  · unfold zI0 at i0 ⊢
    rw [e17, e1, e2]
    exact i0
  · have hm := zMen_lt C
    unfold zI1 at i1 ⊢
    have eM : zMen C2 = zMen C := by unfold zMen; rw [e2]
    rw [eM, e25, e26, e27, e28, e29, e1, hT2.2.1]
    intro m hm2
    obtain ⟨q1, q2, q3, q4, q5, -⟩ := i1 m hm2
    exact ⟨q1, q2, q3, q4, q5, fun z => absurd z (nI_m1 (by omega))⟩
  · rw [e15]; exact i2
  · rw [e16]; exact i3
theorem zImN_fr {C C2 : ab_M} {np nm : Nat} (h : zImN C np nm) (e10 : C2 10 = C 10) (e12 : C2 12 = C 12) (e21 : C2 21 = C 21) (e22 : C2 22 = C 22) (e23 : C2 23 = C 23) (e46 : C2 46 = C 46) (e3 : ∃ w w2 : Nat, w ≤ w2 ∧ w2 ≤ 6 ∧ C 3 2 = nI w ∧ C2 3 2 = nI w2) : zImN C2 np nm := by
  obtain ⟨h1, h2, h3, h4, h5, h6, t, w, t1, w6, t2, t3⟩ := h
  obtain ⟨x, y, x1, x2, x3, x4⟩ := e3
  have : x = w := (nI_eq (by omega) (by omega)).mp (x3.symm.trans t2)
  subst this
  refine ⟨h1, by rw [e23]; exact h2, by rw [e12]; exact h3, by rw [e21]; exact h4, by rw [e22]; exact h5, by rw [e46]; exact h6, t, y, by omega, x2, x4, by rw [e10]; exact t3⟩
theorem zImE_fr {C M C2 M2 : ab_M} {np nm : Nat} (h : zImE C M np nm) (e10 : C2 10 = C 10) (e12 : C2 12 = C 12) (e19 : C2 19 = C 19) (e20 : C2 20 = C 20) (e21 : C2 21 = C 21) (e22 : C2 22 = C 22) (e23 : C2 23 = C 23) (e24 : C2 24 = C 24) (e46 : C2 46 = C 46) (hM : ∀ c, 15 ≤ c → c ≤ 20 → M2 c = M c) (h0 : ∀ j, 32 ≤ j → j ≤ 40 → M2 0 j = M 0 j) : zImE C2 M2 np nm := by
  obtain ⟨⟨g1, g2, g3, g4⟩, h2, ⟨k1, k2, k3, k4, k5⟩, h4, h5, h6, h7⟩ := h
  refine ⟨⟨?_, ?_, ?_, ?_⟩, ?_, ⟨?_, ?_, ?_, ?_, ?_⟩, ?_, ?_, ?_, ?_⟩
  · rw [e12]; exact g1
  · rw [h0 32 (by decide) (by decide)]; exact g2
  · rw [e10]; exact g3
  · rw [h0 33 (by decide) (by decide)]; exact g4
  · rw [e19, e20, e21, e22, hM 16 (by decide) (by decide), hM 17 (by decide) (by decide), hM 18 (by decide) (by decide), hM 19 (by decide) (by decide)]; exact h2
  · rw [e23, h0 34 (by decide) (by decide)]; exact k1
  · rw [e23, h0 35 (by decide) (by decide)]; exact k2
  · rw [e23, h0 36 (by decide) (by decide)]; exact k3
  · rw [e23, h0 37 (by decide) (by decide)]; exact k4
  · rw [e23, h0 38 (by decide) (by decide)]; exact k5
  · rw [e24, hM 15 (by decide) (by decide)]; exact h4
  · rw [e12, h0 39 (by decide) (by decide)]; exact h5
  · rw [e10, h0 40 (by decide) (by decide)]; exact h6
  · rw [e46, hM 20 (by decide) (by decide)]; exact h7
/-- the parts that most calls leave alone -/
theorem zInvS_fr {C M C2 M2 : ab_M} (h : zInvS C M) (e43 : C2 43 = C 43) (e44 : C2 44 = C 44) (e45 : C2 45 = C 45) (m21 : M2 21 = M 21) (m22 : M2 22 = M 22) (m23 : M2 23 = M 23) : zInvS C2 M2 := by
  obtain ⟨⟨h1, h2, h3⟩, h4⟩ := h
  refine ⟨⟨by rw [m21, e43]; exact h1, by rw [m22, e44]; exact h2, by rw [m23, e45]; exact h3⟩, ?_⟩
  unfold zSh at h4 ⊢
  rw [e44]
  exact h4
theorem zInvT_fr {C M C2 M2 : ab_M} {N N2 : ab_N} (h : zInvT C M N) (e4 : C2 4 2 = C 4 2) (e34 : C2 34 = C 34) (m0 : M2 0 20 = M 0 20) (m12 : M2 12 = M 12) (n24 : N2 24 = N 24) : zInvT C2 M2 N2 := by
  obtain ⟨n, ⟨a1, a2, a3⟩, ⟨b1, b2, b3, b4⟩, c⟩ := h
  exact ⟨n, ⟨a1, by rw [e4]; exact a2, by rw [e34]; exact a3⟩, ⟨b1, by rw [m0]; exact b2, by rw [m12]; exact b3, by rw [n24]; exact b4⟩, by rw [e34, m12]; exact c⟩
theorem zInvX_fr {C M C2 M2 : ab_M} (h : zInvX C M) (e2 : C2 3 2 = C 3 2) (e3 : C2 3 3 = C 3 3) (e31 : C2 31 = C 31) (e32 : C2 32 = C 32) (m23 : M2 0 23 = M 0 23) (m24 : M2 0 24 = M 0 24) (m13 : M2 13 = M 13) (m14 : M2 14 = M 14) : zInvX C2 M2 := by
  obtain ⟨w, h1, h2, h3, h4, t, t1, t2, t3⟩ := h
  exact ⟨w, h1, by rw [e2]; exact h2, by rw [m23]; exact h3, fun t ht => zTextEq_fc (zTextEq_fr (h4 t ht) m13 m14) e31 e32, t, t1, by rw [e3]; exact t2, by rw [m24]; exact t3⟩
theorem zInvI_fr {C M C2 M2 : ab_M} (h : zInvI C M) (hX : zInvX C M) (e2 : C2 3 2 = C 3 2) (e10 : C2 10 = C 10) (e12 : C2 12 = C 12) (e19 : C2 19 = C 19) (e20 : C2 20 = C 20) (e21 : C2 21 = C 21) (e22 : C2 22 = C 22) (e23 : C2 23 = C 23) (e24 : C2 24 = C 24) (e46 : C2 46 = C 46) (hM : ∀ c, 15 ≤ c → c ≤ 20 → M2 c = M c) (h0 : ∀ j, 31 ≤ j → j ≤ 40 → M2 0 j = M 0 j) : zInvI C2 M2 := by
  obtain ⟨w, ⟨w1, w2⟩, w3, -⟩ := hX
  refine ⟨by rw [e10, h0 31 (by decide) (by decide)]; exact h.1, fun z => ?_⟩
  rw [e10] at z
  obtain ⟨np, nm, g1, g2⟩ := h.2 z
  exact ⟨np, nm, zImN_fr g1 e10 e12 e21 e22 e23 e46 ⟨w, w, Nat.le_refl _, w2, w3, by rw [e2]; exact w3⟩, zImE_fr g2 e10 e12 e19 e20 e21 e22 e23 e24 e46 hM (fun j a b => h0 j (by omega) b)⟩
theorem zInv_q {b : Nat} {C M C2 M2 : ab_M} {N N2 : ab_N} (h : zInv b C M N) (hC : zFr (6 :: zQc) C C2) (hA : zAsks C2) (hT2 : zT6 C2) (hM : zFr (0 :: 33 :: zSL) M M2) (h0 : ∀ j, j ≠ 26 → j ≠ 28 → j ≠ 29 → j ≠ 71 → M2 0 j = M 0 j) (hN : N2 24 = N 24) : zInv b C2 M2 N2 := by
  obtain ⟨⟨h1, h2, h3⟩, ⟨a, a1, a2, a3⟩, h4, h5, h6, h7⟩ := h
  have e : ∀ c, c ∉ (6 :: zQc) → C2 c = C c := hC
  have m : ∀ c, 1 ≤ c → c ≤ 24 → M2 c = M c := fun c c1 c2 => hM c (by simp only [List.mem_cons, List.not_mem_nil, or_false]; omega)
  have z : ∀ j, 30 ≤ j → j ≤ 40 → M2 0 j = M 0 j := fun j a b => h0 j (by omega) (by omega) (by omega) (by omega)
  exact ⟨⟨zRN_q h1 hC h3 hT2 m h0, hA, hT2⟩, ⟨a, a1, a2, by rw [e 5 (by decide)]; exact a3⟩,
    zInvS_fr h4 (e 43 (by decide)) (e 44 (by decide)) (e 45 (by decide)) (m 21 (by decide) (by decide)) (m 22 (by decide) (by decide)) (m 23 (by decide) (by decide)),
    zInvT_fr h5 (by rw [e 4 (by decide)]) (e 34 (by decide)) (h0 20 (by decide) (by decide) (by decide) (by decide)) (m 12 (by decide) (by decide)) hN,
    zInvX_fr h6 (by rw [e 3 (by decide)]) (by rw [e 3 (by decide)]) (e 31 (by decide)) (e 32 (by decide)) (h0 23 (by decide) (by decide) (by decide) (by decide)) (h0 24 (by decide) (by decide) (by decide) (by decide)) (m 13 (by decide) (by decide)) (m 14 (by decide) (by decide)),
    zInvI_fr h7 h6 (by rw [e 3 (by decide)]) (e 10 (by decide)) (e 12 (by decide)) (e 19 (by decide)) (e 20 (by decide)) (e 21 (by decide)) (e 22 (by decide)) (e 23 (by decide)) (e 24 (by decide)) (e 46 (by decide)) (fun c a b => m c (by omega) (by omega)) (fun j a b => z j (by omega) b)⟩
theorem zInv_qA {b : Nat} {C M C2 M2 : ab_M} {N N2 : ab_N} (h : zInv b C M N) (hC : zFr zQc C C2) (hA : zAsks C2) (hM : zFr zSL M M2) (hN : N2 24 = N 24) : zInv b C2 M2 N2 :=
  zInv_q h (zFr_mono hC (by decide)) hA (zT6_fr h.1.2.2 hC) (zFr_mono hM (by decide)) (fun j _ _ _ _ => by rw [hM 0 (by decide)]) hN
theorem zTie_where {b : Nat} {C M : ab_M} {N Nc : ab_N} (h : zInv b C M N) (a1 a2 : Int32) : zt_X11_where [.ref 0, .int a1, .int a2] C Nc (fun r C2 _ => zt_X12_where [.ref 0, .int a1, .int a2] M N (fun r2 M2 N2 => zOu b r r2 C2 M2 N2)) := by
  refine ab_m2_i (zInv_n h) ?_
  rintro o C2 Nc2 ⟨hF, hA, rfl⟩
  refine ⟨(C, a1, a2), _, rfl, ⟨rfl, zInv_rn h⟩, ?_⟩
  rintro o2 M2 N2 ⟨gF, hN, rfl⟩
  exact ⟨⟨_, rfl, rfl⟩, zInv_qA h hF hA gF (by rw [hN])⟩
theorem zTie_looked {b : Nat} {C M : ab_M} {N Nc : ab_N} (h : zInv b C M N) (a1 : Int32) : zt_X11_looked [.ref 0, .int a1] C Nc (fun r C2 _ => zt_X12_looked [.ref 0, .int a1] M N (fun r2 M2 N2 => zOu b r r2 C2 M2 N2)) := by
  refine ab_m1_i (zInv_n h) ?_
  rintro o C2 Nc2 ⟨hF, hA, rfl⟩
  refine ⟨(C, a1), _, rfl, ⟨rfl, zInv_rn h⟩, ?_⟩
  rintro o2 M2 N2 ⟨gF, hN, rfl⟩
  exact ⟨⟨_, rfl, rfl⟩, zInv_qA h hF hA gF (by rw [hN])⟩
theorem zTie_often {b : Nat} {C M : ab_M} {N Nc : ab_N} (h : zInv b C M N) (a1 a2 : Int32) : zt_X11_often [.ref 0, .int a1, .int a2] C Nc (fun r C2 _ => zt_X12_often [.ref 0, .int a1, .int a2] M N (fun r2 M2 N2 => zOu b r r2 C2 M2 N2)) := by
  refine ab_m2_i (zInv_n h) ?_
  rintro o C2 Nc2 ⟨hF, hA, rfl⟩
  refine ⟨(C, a1, a2), _, rfl, ⟨rfl, zInv_rn h⟩, ?_⟩
  rintro o2 M2 N2 ⟨gF, hN, rfl⟩
  exact ⟨⟨_, rfl, rfl⟩, zInv_qA h hF hA gF (by rw [hN])⟩
theorem zTie_meet {b : Nat} {C M : ab_M} {N Nc : ab_N} (h : zInv b C M N) (a1 a2 : Int32) : zt_X11_meet [.ref 0, .int a1, .int a2] C Nc (fun r C2 _ => zt_X12_meet [.ref 0, .int a1, .int a2] M N (fun r2 M2 N2 => zOu b r r2 C2 M2 N2)) := by
  refine ab_m2_i (zInv_n h) ?_
  rintro o C2 Nc2 ⟨hF, hA, rfl⟩
  refine ⟨(C, a1, a2), _, rfl, ⟨rfl, zInv_rn h⟩, ?_⟩
  rintro o2 M2 N2 ⟨gF, hN, rfl⟩
  exact ⟨⟨_, rfl, rfl⟩, zInv_qA h hF hA gF (by rw [hN])⟩
theorem zTie_run {b : Nat} {C M : ab_M} {N Nc : ab_N} (h : zInv b C M N) (a1 : Int32) : zt_X11_run [.ref 0, .int a1] C Nc (fun r C2 _ => zt_X12_run [.ref 0, .int a1] M N (fun r2 M2 N2 => zOuL b r r2 C2 M2 N2)) := by
  refine ab_m1_i (zInv_n h) ?_
  rintro o C2 Nc2 ⟨hF, hA, rfl⟩
  refine ⟨(C, a1), _, rfl, ⟨rfl, zInv_rn h⟩, ?_⟩
  rintro o2 M2 N2 ⟨gF, hN, rfl⟩
  exact ⟨⟨_, rfl, rfl⟩, zInv_qA h hF hA gF (hN 24 (by decide))⟩
theorem zTie_harm {b : Nat} {C M : ab_M} {N Nc : ab_N} (h : zInv b C M N) (a1 a2 : Int32) : zt_X11_harm [.ref 0, .int a1, .int a2] C Nc (fun r C2 _ => zt_X12_harm [.ref 0, .int a1, .int a2] M N (fun r2 M2 N2 => zOuL b r r2 C2 M2 N2)) := by
  refine ab_m2_i (zInv_n h) ?_
  rintro o C2 Nc2 ⟨hF, hA, rfl⟩
  refine ⟨(C, a1, a2), _, rfl, ⟨rfl, zInv_rn h⟩, ?_⟩
  rintro o2 M2 N2 ⟨gF, hN, rfl⟩
  exact ⟨⟨_, rfl, rfl⟩, zInv_qA h hF hA gF (hN 24 (by decide))⟩
theorem zTie_state {b : Nat} {C M : ab_M} {N Nc : ab_N} (h : zInv b C M N) (a1 a2 a3 : Int32) : zt_X11_state [.ref 0, .int a1, .int a2, .int a3] C Nc (fun r C2 _ => zt_X12_state [.ref 0, .int a1, .int a2, .int a3] M N (fun r2 M2 N2 => zOuL b r r2 C2 M2 N2)) := by
  refine ab_m3_i (zInv_n h) ?_
  rintro o C2 Nc2 ⟨hF, hA, rfl⟩
  refine ⟨(C, a1, a2, a3), _, rfl, ⟨rfl, zInv_rn h⟩, ?_⟩
  rintro o2 M2 N2 ⟨gF, hN, rfl⟩
  exact ⟨⟨_, rfl, rfl⟩, zInv_qA h hF hA gF (hN 24 (by decide))⟩
theorem zTie_worst {b : Nat} {C M : ab_M} {N Nc : ab_N} (h : zInv b C M N) : zt_X11_worst [.ref 0] C Nc (fun r C2 _ => zt_X12_worst [.ref 0] M N (fun r2 M2 N2 => zOu b r r2 C2 M2 N2)) := by
  refine ab_m0_i (zInv_n h) ?_
  rintro o C2 Nc2 ⟨hF, hA, rfl⟩
  refine ⟨C, _, rfl, ⟨rfl, zInv_rn h⟩, ?_⟩
  rintro o2 M2 N2 ⟨gF, hN, rfl⟩
  exact ⟨⟨_, rfl, rfl⟩, zInv_qA h hF hA gF (hN 24 (by decide))⟩
theorem zTie_ready {b : Nat} {C M : ab_M} {N Nc : ab_N} (h : zInv b C M N) (a1 : Int32) : zt_X11_ready [.ref 0, .int a1] C Nc (fun r C2 _ => zt_X12_ready [.ref 0, .int a1] M N (fun r2 M2 N2 => zOu b r r2 C2 M2 N2)) := by
  refine ab_m1_i (zInv_n h) ?_
  rintro o C2 Nc2 ⟨hF, hA, rfl⟩
  refine ⟨(C, a1), _, rfl, ⟨rfl, zInv_rn h⟩, ?_⟩
  rintro o2 M2 N2 ⟨gF, hN, rfl⟩
  exact ⟨⟨_, rfl, rfl⟩, zInv_qA h hF hA gF (hN 24 (by decide))⟩
theorem zTie_rounds {b : Nat} {C M : ab_M} {N Nc : ab_N} (h : zInv b C M N) (a1 a2 : Int32) : zt_X11_rounds [.ref 0, .int a1, .int a2] C Nc (fun r C2 _ => zt_X12_rounds [.ref 0, .int a1, .int a2] M N (fun r2 M2 N2 => zOuL b r r2 C2 M2 N2)) := by
  refine ab_m2_i (zInv_n h) ?_
  rintro o C2 Nc2 ⟨hF, hA, rfl⟩
  refine ⟨(C, a1, a2), _, rfl, ⟨rfl, zInv_rn h⟩, ?_⟩
  rintro o2 M2 N2 ⟨gF, hN, rfl⟩
  exact ⟨⟨_, rfl, rfl⟩, zInv_qA h hF hA gF (hN 24 (by decide))⟩
theorem zTie_quick {b : Nat} {C M : ab_M} {N Nc : ab_N} (h : zInv b C M N) (a1 : Int32) : zt_X11_quick [.ref 0, .int a1] C Nc (fun r C2 _ => zt_X12_quick [.ref 0, .int a1] M N (fun r2 M2 N2 => zOu b r r2 C2 M2 N2)) := by
  refine ab_m1_i (zInv_n h) ?_
  rintro o C2 Nc2 ⟨hF, hA, rfl⟩
  refine ⟨(C, a1), _, rfl, ⟨rfl, zInv_rn h⟩, ?_⟩
  rintro o2 M2 N2 ⟨gF, hN, rfl⟩
  exact ⟨⟨_, rfl, rfl⟩, zInv_qA h hF hA gF (hN 24 (by decide))⟩
theorem zTie_sure {b : Nat} {C M : ab_M} {N Nc : ab_N} (h : zInv b C M N) (a1 : Int32) : zt_X11_sure [.ref 0, .int a1] C Nc (fun r C2 _ => zt_X12_sure [.ref 0, .int a1] M N (fun r2 M2 N2 => zOu b r r2 C2 M2 N2)) := by
  refine ab_m1_i (zInv_n h) ?_
  rintro o C2 Nc2 ⟨hF, hA, rfl⟩
  refine ⟨(C, a1), _, rfl, ⟨rfl, zInv_rn h⟩, ?_⟩
  rintro o2 M2 N2 ⟨gF, hN, rfl⟩
  exact ⟨⟨_, rfl, rfl⟩, zInv_qA h hF hA gF (by rw [hN])⟩
theorem zTie_check {b : Nat} {C M : ab_M} {N Nc : ab_N} (h : zInv b C M N) (a1 : Int32) : zt_X11_check [.ref 0, .int a1] C Nc (fun r C2 _ => zt_X12_check [.ref 0, .int a1] M N (fun r2 M2 N2 => zOu b r r2 C2 M2 N2)) := by
  refine ab_m1_i (zInv_n h) ?_
  rintro o C2 Nc2 ⟨hF, hA, rfl⟩
  refine ⟨(C, a1), _, rfl, ⟨rfl, zInv_rn h, h.1.2.2.1⟩, ?_⟩
  rintro o2 M2 N2 ⟨gF, hN, rfl⟩
  exact ⟨⟨_, rfl, rfl⟩, zInv_qA h hF hA gF (by rw [hN])⟩
theorem zTie_village {b : Nat} {C M : ab_M} {N Nc : ab_N} (h : zInv b C M N) (a1 : Int32) : zt_X11_village [.ref 0, .int a1] C Nc (fun r C2 _ => zt_X12_village [.ref 0, .int a1] M N (fun r2 M2 N2 => zOuL b r r2 C2 M2 N2)) := by
  refine ab_m1_i (zInv_n h) ?_
  rintro o C2 Nc2 ⟨hF, hA, rfl⟩
  refine ⟨(C, a1), _, rfl, ⟨rfl, zInv_rn h⟩, ?_⟩
  rintro o2 M2 N2 ⟨gF, hN, rfl⟩
  exact ⟨⟨_, rfl, rfl⟩, zInv_qA h hF hA gF (hN 24 (by decide))⟩
theorem zTie_callWhen {b : Nat} {C M : ab_M} {N Nc : ab_N} (h : zInv b C M N) (a1 : Int32) : zt_X11_callWhen [.ref 0, .int a1] C Nc (fun r C2 _ => zt_X12_callWhen [.ref 0, .int a1] M N (fun r2 M2 N2 => zOu b r r2 C2 M2 N2)) := by
  refine ab_m1_i (zInv_n h) ?_
  rintro o C2 Nc2 ⟨hF, hA, rfl⟩
  refine ⟨(C, a1), _, rfl, ⟨rfl, zInv_rn h⟩, ?_⟩
  rintro o2 M2 N2 ⟨gF, hN, rfl⟩
  exact ⟨⟨_, rfl, rfl⟩, zInv_qA h hF hA gF (hN 24 (by decide))⟩
theorem zTie_trusts {b : Nat} {C M : ab_M} {N Nc : ab_N} (h : zInv b C M N) (a1 a2 : Int32) : zt_X11_trusts [.ref 0, .int a1, .int a2] C Nc (fun r C2 _ => zt_X12_trusts [.ref 0, .int a1, .int a2] M N (fun r2 M2 N2 => zOu b r r2 C2 M2 N2)) := by
  refine ab_m2_i (zInv_n h) ?_
  rintro o C2 Nc2 ⟨hF, hA, rfl⟩
  refine ⟨(C, a1, a2), _, rfl, ⟨rfl, zInv_rn h⟩, ?_⟩
  rintro o2 M2 N2 ⟨gF, hN, rfl⟩
  exact ⟨⟨_, rfl, rfl⟩, zInv_qA h hF hA gF (hN 24 (by decide))⟩
theorem zTie_asks {b : Nat} {C M : ab_M} {N Nc : ab_N} (h : zInv b C M N) (a1 a2 a3 a4 a5 : Int32) : zt_X11_asks [.ref 0, .int a1, .int a2, .int a3, .int a4, .int a5] C Nc (fun r C2 _ => zt_X12_asks [.ref 0, .int a1, .int a2, .int a3, .int a4, .int a5] M N (fun r2 M2 N2 => zOu b r r2 C2 M2 N2)) := by
  refine ab_m5_i (zInv_n h) ?_
  rintro o C2 Nc2 ⟨hF, hA, rfl⟩
  refine ⟨(C, a1, a2, a3, a4, a5), _, rfl, ⟨rfl, zInv_rn h⟩, ?_⟩
  rintro o2 M2 N2 ⟨gF, hN, rfl⟩
  exact ⟨⟨_, rfl, rfl⟩, zInv_qA h hF hA gF (by rw [hN])⟩
theorem zTie_more {b : Nat} {C M : ab_M} {N Nc : ab_N} (h : zInv b C M N) (a1 a2 : Int32) : zt_X11_more [.ref 0, .int a1, .int a2] C Nc (fun r C2 _ => zt_X12_more [.ref 0, .int a1, .int a2] M N (fun r2 M2 N2 => zOuL b r r2 C2 M2 N2)) := by
  obtain ⟨h1, h2, h3⟩ := zRN_t6 h.1.1 h.1.2.2
  refine ab_m2_i ⟨zInv_n h, h.1.2.2⟩ ?_
  rintro o C2 Nc2 ⟨hF, hA, hT, rfl⟩
  refine ⟨(C, a1, a2), _, rfl, ⟨rfl, zInv_rn h, h3⟩, ?_⟩
  rintro o2 M2 N2 ⟨gF, g0, hN, rfl⟩
  exact ⟨⟨_, rfl, rfl⟩, zInv_q h hF hA hT (zFr_mono gF (by decide)) (fun j j1 _ _ _ => g0 j j1) (hN 24 (by decide))⟩
theorem zTie_bestLook {b : Nat} {C M : ab_M} {N Nc : ab_N} (h : zInv b C M N) (a1 : Int32) : zt_X11_bestLook [.ref 0, .int a1] C Nc (fun r C2 _ => zt_X12_bestLook [.ref 0, .int a1] M N (fun r2 M2 N2 => zOuL b r r2 C2 M2 N2)) := by
  obtain ⟨h1, h2, h3⟩ := zRN_t6 h.1.1 h.1.2.2
  refine ab_m1_i ⟨zInv_n h, h.1.2.2⟩ ?_
  rintro o C2 Nc2 ⟨hF, hA, hT, rfl⟩
  refine ⟨(C, a1), _, rfl, ⟨rfl, zInv_rn h, h3⟩, ?_⟩
  rintro o2 M2 N2 ⟨gF, g0, hN, rfl⟩
  exact ⟨⟨_, rfl, rfl⟩, zInv_q h hF hA hT (zFr_mono gF (by decide)) (fun j j1 _ _ _ => g0 j j1) (hN 24 (by decide))⟩
theorem zTie_next {b : Nat} {C M : ab_M} {N Nc : ab_N} (h : zInv b C M N) (a1 a2 a3 : Int32) : zt_X11_next [.ref 0, .int a1, .int a2, .int a3] C Nc (fun r C2 _ => zt_X12_next_ [.ref 0, .int a1, .int a2, .int a3] M N (fun r2 M2 N2 => zOuL b r r2 C2 M2 N2)) := by
  obtain ⟨h1, h2, h3⟩ := zRN_t6 h.1.1 h.1.2.2
  refine ab_m3_i ⟨zInv_n h, h.1.2.2⟩ ?_
  rintro o C2 Nc2 ⟨hF, hA, hT, rfl⟩
  refine ⟨(C, a1, a2, a3), _, rfl, ⟨rfl, zInv_rn h, h2⟩, ?_⟩
  rintro o2 M2 N2 ⟨gF, g0, hN, rfl⟩
  exact ⟨⟨_, rfl, rfl⟩, zInv_q h hF hA hT (zFr_mono gF (by decide)) (fun j _ j2 j3 _ => g0 j j2 j3) (hN 24 (by decide))⟩
theorem zTie_spare {b : Nat} {C M : ab_M} {N Nc : ab_N} (h : zInv b C M N) : zt_X11_spare [.ref 0] C Nc (fun r C2 _ => zt_X12_spare [.ref 0] M N (fun r2 M2 N2 => zOu b r r2 C2 M2 N2)) := by
  obtain ⟨h1, h2, h3⟩ := zRN_t6 h.1.1 h.1.2.2
  refine ab_m0_i ⟨zInv_n h, h.1.2.2⟩ ?_
  rintro o C2 Nc2 ⟨hF, hA, hT, rfl⟩
  refine ⟨C, _, rfl, ⟨rfl, zInv_rn h, h1⟩, ?_⟩
  rintro o2 M2 N2 ⟨gF, hN, rfl⟩
  exact ⟨⟨_, rfl, rfl⟩, zInv_q h hF hA hT (zFr_mono gF (by decide)) (fun j _ _ _ _ => by rw [gF 0 (by decide)]) (hN 24 (by decide))⟩
theorem zTie_drawn {b : Nat} {C M : ab_M} {N Nc : ab_N} (h : zInv b C M N) (a1 a2 : Int32) : zt_X11_drawn [.ref 0, .int a1, .int a2] C Nc (fun r C2 _ => zt_X12_drawn [.ref 0, .int a1, .int a2] M N (fun r2 M2 N2 => zOuL b r r2 C2 M2 N2)) := by
  refine ab_m2_i (zInv_n h) ?_
  rintro o C2 Nc2 ⟨hF, hA, rfl⟩
  refine ⟨(C, a1, a2), _, rfl, ⟨rfl, zInv_rn h, h.1.2.2.2.2⟩, ?_⟩
  rintro o2 M2 N2 ⟨gF, g0, hN, rfl⟩
  exact ⟨⟨_, rfl, rfl⟩, zInv_q h (zFr_mono hF (by decide)) hA (zT6_fr h.1.2.2 hF) gF (fun j _ _ _ j4 => g0 j j4) (hN 24 (by decide))⟩
