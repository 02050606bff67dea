/-! both side by side: what tells without a night, what is set *)
-/
theorem zSvE {C M : ab_M} (h : zInvS C M) : zSv C 21 = M 21 ∧ zSv C 22 = M 22 ∧ zSv C 23 = M 23 := ⟨h.1.1.symm, h.1.2.1.symm, h.1.2.2.symm⟩
theorem zHwA_c {S M : ab_M} (e : S 21 = M 21 ∧ S 22 = M 22 ∧ S 23 = M 23) (l : Int32) (n : Nat) : zHwA S l n = zHwA M l n := by
  unfold zHwA
  rw [e.1, e.2.1, e.2.2]
theorem zPlA_c {S M : ab_M} (e : S 21 = M 21 ∧ S 22 = M 22 ∧ S 23 = M 23) (l : Int32) (n : Nat) : zPlA S l n = zPlA M l n := by
  unfold zPlA
  rw [zHwA_c e, e.2.2]
theorem zJdR_c {S M : ab_M} (e : S 21 = M 21 ∧ S 22 = M 22 ∧ S 23 = M 23) (n hr : Nat) (l w v : Int32) : zJdR S n hr l w v = zJdR M n hr l w v := by
  unfold zJdR zJdB
  rw [e.1, e.2.1, e.2.2]
theorem zMnX_c {S M : ab_M} (e : S 21 = M 21 ∧ S 22 = M 22 ∧ S 23 = M 23) (s : Int32) : zMnX S s = zMnX M s := by
  unfold zMnX
  rw [e.1, e.2.1, e.2.2]
theorem zInv_p {b : Nat} {C M : ab_M} {N : ab_N} (h : zInv b C M N) : M 0 7 = nI (zPcs C) ∧ zPcs C ≤ 8 := by
  obtain ⟨p1, p2⟩ := zP_eq h.1.1.2.1
  exact ⟨h.1.1.1.1.2.2.2.2.2.2.1 ▸ p1, p2⟩
theorem zInv_m5 {b : Nat} {C M : ab_M} {N : ab_N} (h : zInv b C M N) : M 0 12 = nI (zMen C) ∧ zMen C ≤ 5 := by
  obtain ⟨p1, p2⟩ := zM_eq h.1.1.2.1
  exact ⟨h.1.1.1.1.2.2.2.2.2.2.2 ▸ p1, p2⟩
theorem zInv_h {b : Nat} {C M : ab_M} {N : ab_N} (h : zInv b C M N) : M 0 0 = nI (zHrs C) ∧ zHrs C ≤ 12 := by
  obtain ⟨p1, p2⟩ := zH_eq h.1.1.2.1
  exact ⟨h.1.1.1.1.1 ▸ p1, p2⟩
theorem zInv_shr {b : Nat} {C M : ab_M} {N : ab_N} (h : zInv b C M N) : zShR M := by
  obtain ⟨-, -, ⟨⟨-, h2, -⟩, h4⟩, -⟩ := h
  unfold zShR
  rw [h2]
  exact h4
theorem zCo_eq {b : Nat} {C M : ab_M} {N : ab_N} (h : zInv b C M N) (l : Int32) : zCoC C l = zCoA M l := by
  obtain ⟨⟨⟨⟨⟨a1, a2, a3, a4, a5, a6, a7, a8⟩, -⟩, -⟩, -⟩, -, -, ⟨n, ⟨-, t2, -⟩, ⟨-, r2, -⟩, -⟩, ⟨w, -, x2, x3, -, t, -, y2, y3⟩, -⟩ := h
  unfold zCoC
  by_cases c : 0 ≤ l ∧ l ≤ 4
  · rw [if_pos c]
    obtain ⟨j, hj, rfl⟩ := zIxM (n := 4) (by decide) c
    rw [nI_clamp (show j < 2 ^ 31 by omega)]
    match j, hj with
    | 0, _ => exact a1
    | 1, _ => exact a2
    | 2, _ => exact a3
    | 3, _ => exact a4
    | 4, _ => exact a5
  · have n0 : ∀ j : Nat, j ≤ 4 → ¬ l = nI j := fun j hj z => c (by rw [z]; exact ⟨nI_pos' (by omega), nI_le (b := 4) hj (by decide)⟩)
    unfold zCoA
    rw [if_neg c, if_neg (show ¬ l = 0 from n0 0 (by decide)), if_neg (show ¬ l = 1 from n0 1 (by decide)), if_neg (show ¬ l = 2 from n0 2 (by decide)), if_neg (show ¬ l = 3 from n0 3 (by decide)), if_neg (show ¬ l = 4 from n0 4 (by decide)), a7, a8, x2, x3, y2, y3, t2, r2]
theorem zTie_count {b : Nat} {C M : ab_M} {N Nc : ab_N} (h : zInv b C M N) (a1 : Int32) : zt_X11_count [.ref 0, .int a1] C Nc (fun r C2 _ => zt_X12_count [.ref 0, .int a1] M N (fun r2 M2 N2 => zOu b r r2 C2 M2 N2)) := by
  refine ab_m1_i trivial ?_
  rintro o C2 Nc2 ⟨rfl, hN, rfl⟩
  refine ⟨a1, _, rfl, rfl, ?_⟩
  rintro o2 M2 N2 ⟨rfl, rfl, rfl⟩
  exact ⟨⟨_, rfl, by rw [zCo_eq h]⟩, h⟩
theorem zTie_fewest {b : Nat} {C M : ab_M} {N Nc : ab_N} (h : zInv b C M N) (a1 : Int32) : zt_X11_fewest [.ref 0, .int a1] C Nc (fun r C2 _ => zt_X12_fewest [.ref 0, .int a1] M N (fun r2 M2 N2 => zOu b r r2 C2 M2 N2)) := by
  refine ab_m1_i h.1.1.2.1 ?_
  rintro o C2 Nc2 ⟨rfl, hN, rfl⟩
  refine ⟨(zPcs C2, a1), _, rfl, ⟨rfl, (zInv_p h).1⟩, ?_⟩
  rintro o2 M2 N2 ⟨rfl, rfl, rfl⟩
  exact ⟨⟨_, rfl, rfl⟩, h⟩
theorem zTie_places {b : Nat} {C M : ab_M} {N Nc : ab_N} (h : zInv b C M N) (a1 : Int32) : zt_X11_places [.ref 0, .int a1] C Nc (fun r C2 _ => zt_X12_places [.ref 0, .int a1] M N (fun r2 M2 N2 => zOu b r r2 C2 M2 N2)) := by
  refine ab_m1_i ⟨h.1.1.2.1, h.2.2.1.2⟩ ?_
  rintro o C2 Nc2 ⟨rfl, hN, rfl⟩
  refine ⟨(zPcs C2, a1), _, rfl, ⟨rfl, (zInv_p h).1, (zInv_p h).2⟩, ?_⟩
  rintro o2 M2 N2 ⟨rfl, rfl, rfl⟩
  exact ⟨⟨_, rfl, by rw [zPlA_c (zSvE h.2.2.1)]⟩, h⟩
theorem zTie_judge {b : Nat} {C M : ab_M} {N Nc : ab_N} (h : zInv b C M N) (a1 a2 : Int32) : zt_X11_judge [.ref 0, .int a1, .int a2] C Nc (fun r C2 _ => zt_X12_judge [.ref 0, .int a1, .int a2] M N (fun r2 M2 N2 => zOu b r r2 C2 M2 N2)) := by
  refine ab_m2_i ⟨h.1.1.2.1, h.2.2.1.2⟩ ?_
  rintro o C2 Nc2 ⟨rfl, hN, v, rfl, hv⟩
  refine ⟨(zPcs C2, zHrs C2, a1, a2), _, rfl, ⟨rfl, (zInv_p h).1, (zInv_h h).1, (zInv_h h).2⟩, ?_⟩
  rintro o2 M2 N2 ⟨rfl, rfl, v2, rfl, hv2⟩
  rw [zJdR_c (zSvE h.2.2.1)] at hv
  exact ⟨⟨_, rfl, by rw [zJdR_u (zInv_h h).2 hv hv2]⟩, h⟩
theorem zTie_manTold {b : Nat} {C M : ab_M} {N Nc : ab_N} (h : zInv b C M N) (a1 a2 : Int32) : zt_X11_manTold [.ref 0, .int a1, .int a2] C Nc (fun r C2 _ => zt_X12_manTold [.ref 0, .int a1, .int a2] M N (fun r2 M2 N2 => zOu b r r2 C2 M2 N2)) := by
  refine ab_m2_i h.1.1.2.1 ?_
  rintro o C2 Nc2 ⟨rfl, hN, rfl⟩
  refine ⟨(zMen C2, a1, a2), _, rfl, ⟨rfl, (zInv_m5 h).1, (zInv_m5 h).2⟩, ?_⟩
  rintro o2 M2 N2 ⟨rfl, rfl, rfl⟩
  obtain ⟨-, -, -, -, -, b6, b7, b8, b9, b10, b11⟩ := h.1.1.1.2.1
  refine ⟨⟨_, rfl, ?_⟩, h⟩
  unfold zMaA
  simp only [Nat.reduceAdd, b6, b7, b8, b9, b10, b11]
theorem zTie_taken {b : Nat} {C M : ab_M} {N Nc : ab_N} (h : zInv b C M N) (a1 a2 : Int32) : zt_X11_taken [.ref 0, .int a1, .int a2] C Nc (fun r C2 _ => zt_X12_taken [.ref 0, .int a1, .int a2] M N (fun r2 M2 N2 => zOu b r r2 C2 M2 N2)) := by
  refine ab_m2_i ⟨h.1.1.2.1, h.1.1.2.2.1⟩ ?_
  rintro o C2 Nc2 ⟨rfl, hN, rfl⟩
  refine ⟨(zPcs C2, zMen C2, a1, a2), _, rfl, ⟨rfl, (zInv_p h).1, (zInv_p h).2, (zInv_m5 h).1, (zInv_m5 h).2⟩, ?_⟩
  rintro o2 M2 N2 ⟨rfl, rfl, rfl⟩
  obtain ⟨-, -, b3, -, -, b6, -⟩ := h.1.1.1.2.1
  exact ⟨⟨_, rfl, by rw [b3, b6]⟩, h⟩
/-! what is set -/
abbrev zKeep : List Nat := [3, 4, 10, 12, 19, 20, 21, 22, 23, 24, 31, 32, 34, 43, 44, 45, 46]
theorem zInv_m {b b2 : Nat} {C M C2 M2 : ab_M} {N N2 : ab_N} (h : zInv b C M N) (hRN : zRN C2 M2) (hA : zAsks C2) (hT : zT6 C2) (hg : ∃ a : Nat, 1 ≤ a ∧ a ≤ b2 ∧ C2 5 4 = nI a) (hC : ∀ c, c ∈ zKeep → C2 c = C c) (hM : ∀ c, 12 ≤ c → c ≤ 23 → M2 c = M c) (h0 : ∀ j, j = 20 ∨ j = 23 ∨ j = 24 ∨ (31 ≤ j ∧ j ≤ 40) → M2 0 j = M 0 j) (hN : N2 24 = N 24) : zInv b2 C2 M2 N2 := by
  obtain ⟨-, -, h4, h5, h6, h7⟩ := h
  exact ⟨⟨hRN, hA, hT⟩, hg,
    zInvS_fr h4 (hC 43 (by decide)) (hC 44 (by decide)) (hC 45 (by decide)) (hM 21 (by decide) (by decide)) (hM 22 (by decide) (by decide)) (hM 23 (by decide) (by decide)),
    zInvT_fr h5 (by rw [hC 4 (by decide)]) (hC 34 (by decide)) (h0 20 (by decide)) (hM 12 (by decide) (by decide)) hN,
    zInvX_fr h6 (by rw [hC 3 (by decide)]) (by rw [hC 3 (by decide)]) (hC 31 (by decide)) (hC 32 (by decide)) (h0 23 (by decide)) (h0 24 (by decide)) (hM 13 (by decide) (by decide)) (hM 14 (by decide) (by decide)),
    zInvI_fr h7 h6 (by rw [hC 3 (by decide)]) (hC 10 (by decide)) (hC 12 (by decide)) (hC 19 (by decide)) (hC 20 (by decide)) (hC 21 (by decide)) (hC 22 (by decide)) (hC 23 (by decide)) (hC 24 (by decide)) (hC 46 (by decide)) (fun c a b => hM c (by omega) (by omega)) (fun j a b => h0 j (by omega))⟩
theorem zAsks_new {C C2 : ab_M} (h : zAsks C) {a : Nat} (ha : C 5 4 = nI a) (hb : a < 2000000) (h5 : C2 5 4 = nI (a + 1)) (h36 : C2 36 = C 36) (hL : zLawOK C2) (h15 : ∀ p, p < 8 → ∃ s : Nat, s ≤ 3 ∧ C2 15 p = nI s) : zAsks C2 :=
  ⟨hL, zCache_new h.2.1 ha hb h5 h36, h15⟩
theorem zLawOK_fr {C C2 : ab_M} (h : zLawOK C) (h3 : C2 3 = C 3) (h32 : C2 32 = C 32) : zLawOK C2 := by
  unfold zLawOK at h ⊢
  rw [h3, h32]
  exact h
theorem zRN_fg {C M : ab_M} (h : zRN C M) : zRN (zFg C) M := by
  have e : ∀ c, c ≠ 5 → zFg C c = C c := fun c hc => zFg_n C hc
  obtain ⟨⟨a, b, c, w, hw, l1, l2, l3⟩, i0, i1, i2, i3⟩ := h
  refine ⟨⟨?_, ?_, ?_, w, hw, by rw [e 3 (by decide)]; exact l1, l2, zTextEq_fc l3 (e 31 (by decide)) (e 32 (by decide))⟩, ?_, ?_, ?_, ?_⟩
  · rw [e 17 (by decide), e 1 (by decide), e 2 (by decide)]; exact a
  · rw [e 18 (by decide), e 13 (by decide), e 14 (by decide), e 15 (by decide), e 16 (by decide), e 25 (by decide), e 26 (by decide), e 27 (by decide), e 28 (by decide), e 29 (by decide), e 30 (by decide)]; exact b
  · rw [e 6 (by decide)]; exact c
  · exact zI0_6 i0 _ (by decide)
  · exact zI1_k i1 _ (by decide)
  · rw [e 15 (by decide)]; exact i2
  · rw [e 16 (by decide)]; exact i3
theorem zFg_5 (C : ab_M) {a : Nat} (h : C 5 4 = nI a) : zFg C 5 4 = nI (a + 1) := by
  show ab_u C 5 _ 5 4 = _
  rw [ab_u_eq, upd_eq, h, nI_1]
