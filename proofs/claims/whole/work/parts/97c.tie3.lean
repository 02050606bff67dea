/-! both side by side: calls that set something *)
-/
theorem zKu {X : ab_M} {k c : Nat} (f : Nat → Int32) (hc : c ∈ zKeep) (hk : k ∉ zKeep) : ab_u X k f c = X c := ab_u_ne _ _ (fun z => hk (z ▸ hc))
theorem zInv_fg {b : Nat} {C M C1 M2 : ab_M} {N : ab_N} (h : zInv b C M N) (hb : b < 2000000) (hRN : zRN C1 M2) (h6 : C1 6 = C 6) (h5 : C1 5 = C 5) (h36 : C1 36 = C 36) (hC : ∀ c, c ∈ zKeep → C1 c = C c) (hM : ∀ c, 12 ≤ c → c ≤ 23 → M2 c = M c) (h0 : ∀ j, j = 20 ∨ j = 23 ∨ j = 24 ∨ (31 ≤ j ∧ j ≤ 40) → M2 0 j = M 0 j) : zInv (b + 1) (zFg C1) M2 N := by
  obtain ⟨a, g1, g2, g3⟩ := h.2.1
  have g5 : zFg C1 5 4 = nI (a + 1) := zFg_5 C1 (by rw [h5]; exact g3)
  refine zInv_m h (zRN_fg hRN) (zAsks_new h.1.2.1 g3 (by omega) g5 ((zFg_n C1 (by decide)).trans h36) (zLawOK_fr h.1.2.1.1 ((zFg_n C1 (by decide)).trans (hC 3 (by decide))) ((zFg_n C1 (by decide)).trans (hC 32 (by decide)))) ?_) ?_ ⟨a + 1, by omega, by omega, g5⟩ (fun c hc => (zKu _ hc (by decide)).trans (hC c hc)) hM h0 rfl
  · rw [zFg_n C1 (by decide)]
    exact hRN.2.2.2.1
  · have := h.1.2.2
    unfold zT6 at this ⊢
    rw [zFg_n C1 (by decide), h6]
    exact this
theorem zTie_water {b : Nat} {C M : ab_M} {N Nc : ab_N} (h : zInv b C M N) (hb : b < 2000000) (a1 a2 : Int32) : zt_X11_water [.ref 0, .int a1, .int a2] C Nc (fun r C2 _ => zt_X12_water [.ref 0, .int a1, .int a2] M N (fun r2 M2 N2 => zOu (b + 1) r r2 C2 M2 N2)) := by
  have b1 : C 18 = M 1 := h.1.1.1.2.1.1
  refine ab_m2_i trivial ?_
  rintro o C2 Nc2 ⟨-, ⟨v, j, hj, el, rfl, rfl⟩ | ⟨nv, rfl, rfl⟩⟩
  · refine ⟨(12, a1, a2), _, rfl, ⟨rfl, rfl⟩, ?_⟩
    rintro o2 M2 N2 ⟨rfl, ⟨v2, j2, hj2, el2, rfl, rfl⟩ | ⟨nv2, -⟩⟩
    · have e : j2 = j := (nI_eq (by omega) (by omega)).mp (el2.symm.trans el)
      subst e
      refine ⟨⟨_, rfl, by rw [b1]⟩, zInv_fg h hb ?_ rfl rfl rfl (fun c hc => zKu _ hc (by decide)) (fun c c1 c2 => ab_u_ne _ _ (by omega)) (fun _ _ => rfl)⟩
      rw [← b1]
      exact zRN_a18 h.1.1 _
    · exact absurd v nv2
  · refine ⟨(12, a1, a2), _, rfl, ⟨rfl, rfl⟩, ?_⟩
    rintro o2 M2 N2 ⟨rfl, ⟨v2, -⟩ | ⟨nv2, rfl, rfl⟩⟩
    · exact absurd v2 nv
    · exact ⟨⟨_, rfl, rfl⟩, zInv_up h (by omega)⟩
theorem zI1_28f {C : ab_M} (h : zI1 C) {f : Nat → Int32} (hf : ∀ m, m < zMen C → 1 ≤ f m ∧ f m ≤ 3) : zI1 (ab_u C 28 f) := fun m hm => by
  obtain ⟨q1, q2, q3, -, q5, q6⟩ := h m hm
  exact ⟨q1, q2, q3, hf m hm, q5, q6⟩
theorem zInv_set {b : Nat} {C M C2 M2 : ab_M} {N : ab_N} (h : zInv b C M N) (hRN : zRN C2 M2) (hA : zAsks C2) (h6 : C2 6 = C 6) (h5 : C2 5 = C 5) (hC : ∀ c, c ∈ zKeep → C2 c = C c) (hM : ∀ c, 12 ≤ c → c ≤ 23 → M2 c = M c) (h0 : ∀ j, j = 20 ∨ j = 23 ∨ j = 24 ∨ (31 ≤ j ∧ j ≤ 40) → M2 0 j = M 0 j) : zInv (b + 1) C2 M2 N := by
  obtain ⟨a, g1, g2, g3⟩ := h.2.1
  refine zInv_m h hRN hA ?_ ⟨a, g1, by omega, by rw [h5]; exact g3⟩ hC hM h0 rfl
  have := h.1.2.2
  unfold zT6 at this ⊢
  rw [h6]
  exact this
theorem zTie_pace {b : Nat} {C M : ab_M} {N Nc : ab_N} (h : zInv b C M N) (a1 a2 : Int32) : zt_X11_pace [.ref 0, .int a1, .int a2] C Nc (fun r C2 _ => zt_X12_pace [.ref 0, .int a1, .int a2] M N (fun r2 M2 N2 => zOu (b + 1) r r2 C2 M2 N2)) := by
  have b9 : C 28 = M 9 := h.1.1.1.2.1.2.2.2.2.2.2.2.2.1
  obtain ⟨n12, m5⟩ := zInv_m5 h
  refine ab_m2_i h.1.1.2.1 ?_
  rintro o C2 Nc2 ⟨-, ⟨v, j, hj, el, rfl, rfl⟩ | ⟨nv, rfl, rfl⟩⟩
  · refine ⟨(zMen C, a1, a2), _, rfl, ⟨rfl, n12, m5⟩, ?_⟩
    rintro o2 M2 N2 ⟨rfl, ⟨v2, j2, hj2, el2, rfl, rfl⟩ | ⟨nv2, -⟩⟩
    · have e : j2 = j := (nI_eq (by omega) (by omega)).mp (el2.symm.trans el)
      subst e
      refine ⟨⟨_, rfl, by rw [b9]⟩, zInv_set h ?_ (zAsks_u h.1.2.1 _ (by decide)) rfl rfl (fun c hc => zKu _ hc (by decide)) (fun c c1 c2 => ab_u_ne _ _ (by omega)) (fun _ _ => rfl)⟩
      rw [← b9]
      refine zRN_a28 h.1.1 _ (zI1_28f h.1.1.2.2.1 (fun m hm => ?_))
      by_cases e : m = j2
      · rw [e, upd_eq]; exact v.2
      · rw [upd_ne _ _ e]; exact (h.1.1.2.2.1 m hm).2.2.2.1
    · exact absurd v nv2
  · refine ⟨(zMen C2, a1, a2), _, rfl, ⟨rfl, n12, m5⟩, ?_⟩
    rintro o2 M2 N2 ⟨rfl, ⟨v2, -⟩ | ⟨nv2, rfl, rfl⟩⟩
    · exact absurd v2 nv
    · exact ⟨⟨_, rfl, rfl⟩, zInv_up h (by omega)⟩
theorem zTie_lamp {b : Nat} {C M : ab_M} {N Nc : ab_N} (h : zInv b C M N) (a1 a2 : Int32) : zt_X11_lamp [.ref 0, .int a1, .int a2] C Nc (fun r C2 _ => zt_X12_lamp [.ref 0, .int a1, .int a2] M N (fun r2 M2 N2 => zOu (b + 1) r r2 C2 M2 N2)) := by
  have b5 : C 16 = M 5 := h.1.1.1.2.1.2.2.2.2.1
  obtain ⟨n7, p8⟩ := zInv_p h
  refine ab_m2_i h.1.1.2.1 ?_
  rintro o C2 Nc2 ⟨-, ⟨v, j, hj, el, rfl, rfl⟩ | ⟨nv, rfl, rfl⟩⟩
  · refine ⟨(zPcs C, a1, a2), _, rfl, ⟨rfl, n7, p8⟩, ?_⟩
    rintro o2 M2 N2 ⟨rfl, ⟨v2, j2, hj2, el2, rfl, rfl⟩ | ⟨nv2, -⟩⟩
    · have e : j2 = j := (nI_eq (by omega) (by omega)).mp (el2.symm.trans el)
      subst e
      refine ⟨⟨_, rfl, by rw [b5]⟩, zInv_set h ?_ (zAsks_u h.1.2.1 _ (by decide)) rfl rfl (fun c hc => zKu _ hc (by decide)) (fun c c1 c2 => ab_u_ne _ _ (by omega)) (fun _ _ => rfl)⟩
      rw [← b5]
      refine zRN_a16 h.1.1 _ (fun p hp => ?_)
      by_cases e : p = j2
      · rw [e, upd_eq]
        obtain ⟨k, hk, ek⟩ := zIxM (n := 1) (by decide) v.2
        rw [ek]
        match k, hk with
        | 0, _ => exact Or.inl rfl
        | 1, _ => exact Or.inr rfl
      · rw [upd_ne _ _ e]; exact h.1.1.2.2.2.2 p hp
    · exact absurd v nv2
  · refine ⟨(zPcs C2, a1, a2), _, rfl, ⟨rfl, n7, p8⟩, ?_⟩
    rintro o2 M2 N2 ⟨rfl, ⟨v2, -⟩ | ⟨nv2, rfl, rfl⟩⟩
    · exact absurd v2 nv
    · exact ⟨⟨_, rfl, rfl⟩, zInv_up h (by omega)⟩
theorem zTie_call {b : Nat} {C M : ab_M} {N Nc : ab_N} (h : zInv b C M N) (a1 : Int32) : zt_X11_call [.ref 0, .int a1] C Nc (fun r C2 _ => zt_X12_call [.ref 0, .int a1] M N (fun r2 M2 N2 => zOu (b + 1) r r2 C2 M2 N2)) := by
  have a6 : C 1 7 = M 0 5 := h.1.1.1.1.2.2.2.2.2.1
  refine ab_m1_i trivial ?_
  rintro o C2 Nc2 ⟨-, ⟨v, rfl, rfl⟩ | ⟨nv, rfl, rfl⟩⟩
  · refine ⟨a1, _, rfl, rfl, ?_⟩
    rintro o2 M2 N2 ⟨rfl, ⟨v2, rfl, rfl⟩ | ⟨nv2, -⟩⟩
    · refine ⟨⟨_, rfl, by rw [a6]⟩, zInv_set h (zRN_called h.1.1 v) (zAsks_u h.1.2.1 _ (by decide)) rfl rfl (fun c hc => zKu _ hc (by decide)) (fun c c1 c2 => ab_u_ne _ _ (by omega)) (fun j hj => ?_)⟩
      rw [ab_u_eq, upd_ne _ _ (by omega)]
    · exact absurd v nv2
  · refine ⟨a1, _, rfl, rfl, ?_⟩
    rintro o2 M2 N2 ⟨rfl, ⟨v2, -⟩ | ⟨nv2, rfl, rfl⟩⟩
    · exact absurd v2 nv
    · exact ⟨⟨_, rfl, rfl⟩, zInv_up h (by omega)⟩
theorem zLawOK_t {C M : ab_M} {t : Nat} (h : zTextEq C M t) (ht : t < 6) (h3 : C 3 3 = nI t) : zLawOK C := by
  obtain ⟨O0, O1, O2, -, -, -, hl, e0, e1, e2, -⟩ := h
  exact ⟨t, _, _, _, ht, h3, e0, e1, e2, by omega, by omega, by omega, by omega⟩
theorem zTie_force {b : Nat} {C M : ab_M} {N Nc : ab_N} (h : zInv b C M N) (hb : b < 2000000) (a1 : Int32) : zt_X11_force [.ref 0, .int a1] C Nc (fun r C2 _ => zt_X12_force [.ref 0, .int a1] M N (fun r2 M2 N2 => zOu (b + 1) r r2 C2 M2 N2)) := by
  obtain ⟨w, ⟨w1, w2⟩, x2, x3, x4, t0, t1, y2, y3⟩ := h.2.2.2.2.1
  refine ab_m1_i trivial ?_
  rintro o C2 Nc2 ⟨-, ⟨v, rfl, rfl⟩ | ⟨nv, rfl, rfl⟩⟩
  · refine ⟨a1, _, rfl, rfl, ?_⟩
    rintro o2 M2 N2 ⟨rfl, ⟨v2, rfl, rfl⟩ | ⟨nv2, -⟩⟩
    · rw [x2] at v
      obtain ⟨t, ht, rfl⟩ := zIxN (by omega) v
      obtain ⟨⟨h1, h2, h3⟩, ⟨a, g1, g2, g3⟩, i3, i4, i5, i6⟩ := h
      have q33 : (zFg (ab_u C 3 (upd (C 3) 3 (nI t)))) 3 3 = nI t := by
        rw [zFg_n _ (by decide), ab_u_eq, upd_eq]
      have q32 : (zFg (ab_u C 3 (upd (C 3) 3 (nI t)))) 3 2 = C 3 2 := by
        rw [zFg_n _ (by decide), ab_u_eq, upd_ne _ _ (by decide)]
      have m24 : (ab_u M 0 (upd (M 0) 24 (nI t))) 0 24 = nI t := by rw [ab_u_eq, upd_eq]
      have m0 : ∀ j, j ≠ 24 → (ab_u M 0 (upd (M 0) 24 (nI t))) 0 j = M 0 j := fun j hj => by rw [ab_u_eq, upd_ne _ _ hj]
      have g5 : zFg (ab_u C 3 (upd (C 3) 3 (nI t))) 5 4 = nI (a + 1) := zFg_5 _ g3
      have tx : ∀ t', t' < w → zTextEq (zFg (ab_u C 3 (upd (C 3) 3 (nI t)))) (ab_u M 0 (upd (M 0) 24 (nI t))) t' := fun t' ht' => zTextEq_fc (zTextEq_fr (x4 t' ht') rfl rfl) rfl rfl
      have X : zInvX (zFg (ab_u C 3 (upd (C 3) 3 (nI t)))) (ab_u M 0 (upd (M 0) 24 (nI t))) := ⟨w, ⟨w1, w2⟩, by rw [q32]; exact x2, by rw [m0 23 (by decide)]; exact x3, tx, t, ht, q33, m24⟩
      refine ⟨⟨_, rfl, by rw [y2, y3]⟩, ⟨?_, zAsks_new h2 g3 (by omega) g5 rfl (zLawOK_t (tx t ht) (by omega) q33) h2.2.2, h3⟩, ⟨a + 1, by omega, by omega, g5⟩, zInvS_fr i3 rfl rfl rfl rfl rfl rfl, zInvT_fr i4 rfl rfl (m0 20 (by decide)) rfl rfl, X, ?_⟩
      · obtain ⟨⟨⟨a1, a2, a3, a4, a5, a6, a7, a8⟩, b1, ⟨c1, c2, c3, c4, c5⟩, -⟩, j0, j1, j2, j3⟩ := h1
        refine ⟨⟨⟨?_, ?_, ?_, ?_, ?_, ?_, ?_, ?_⟩, b1, ⟨?_, ?_, ?_, ?_, ?_⟩, t, by omega, q33, m24, tx t ht⟩, j0, j1, j2, j3⟩
        · rw [m0 0 (by decide)]; exact a1
        · rw [m0 1 (by decide)]; exact a2
        · rw [m0 2 (by decide)]; exact a3
        · rw [m0 3 (by decide)]; exact a4
        · rw [m0 4 (by decide)]; exact a5
        · rw [m0 5 (by decide)]; exact a6
        · rw [m0 7 (by decide)]; exact a7
        · rw [m0 12 (by decide)]; exact a8
        · rw [m0 30 (by decide)]; exact c1
        · rw [m0 27 (by decide)]; exact c2
        · rw [m0 28 (by decide), m0 29 (by decide)]; exact c3
        · rw [m0 25 (by decide)]; exact c4
        · rw [m0 26 (by decide)]; exact c5
      · exact zInvI_fr i6 i5 q32 rfl rfl rfl rfl rfl rfl rfl rfl rfl (fun c a b => ab_u_ne _ _ (by omega)) (fun j a b => m0 j (by omega))
    · exact absurd (by rw [x2] at v; rw [x3]; exact v) nv2
  · refine ⟨a1, _, rfl, rfl, ?_⟩
    rintro o2 M2 N2 ⟨rfl, ⟨v2, -⟩ | ⟨nv2, rfl, rfl⟩⟩
    · exact absurd (by rw [x3] at v2; rw [x2]; exact v2) nv
    · exact ⟨⟨_, rfl, rfl⟩, zInv_up h (by omega)⟩
