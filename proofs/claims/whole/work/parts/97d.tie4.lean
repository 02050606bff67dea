/-! both side by side: set, night, piece, learn *)
-/
theorem zTie_set {b : Nat} {C M : ab_M} {N Nc : ab_N} (h : zInv b C M N) (hb : b < 2000000) (a1 a2 a3 : Int32) : zt_X11_set [.ref 0, .int a1, .int a2, .int a3] C Nc (fun r C2 _ => zt_X12_set [.ref 0, .int a1, .int a2, .int a3] M N (fun r2 M2 N2 => zOu (b + 1) r r2 C2 M2 N2)) := by
  obtain ⟨n7, p8⟩ := zInv_p h
  obtain ⟨-, b2, b3, b4, -⟩ := h.1.1.1.2.1
  refine ab_m3_i h.1.1.2.1 ?_
  rintro o C2 Nc2 ⟨-, e1, rfl⟩
  refine ⟨(zPcs C, a1, a2, a3), _, rfl, ⟨rfl, n7, p8⟩, ?_⟩
  rintro o2 M2 N2 ⟨e0, e2, rfl⟩
  dsimp only at e2 ⊢
  rw [e0]
  unfold zStC at e1
  unfold zStR at e2
  by_cases v : zStV (zPcs C) a1 a2 a3
  · rw [if_pos v] at e1 e2
    have ans : zStP (fun c => M (2 + c)) (zPcs C) a1 a2 a3 = zStP (fun c => C (13 + c)) (zPcs C) a1 a2 a3 := by
      unfold zStP
      rw [if_pos v, if_pos v]
      rcases v.2 with ⟨rfl, -⟩ | ⟨rfl, -⟩ | ⟨rfl, -⟩
      · show M 2 _ = C 13 _
        rw [b2]
      · show M 3 _ = C 14 _
        rw [b3]
      · show M 4 _ = C 15 _
        rw [b4]
    refine ⟨⟨_, rfl, by rw [ans]⟩, ?_⟩
    rw [e1, e2]
    rcases v.2 with ⟨rfl, -⟩ | ⟨rfl, -⟩ | ⟨rfl, v0, v3⟩
    · show zInv (b + 1) (zFg (ab_u C 13 (upd (C 13) a1.toNatClampNeg a3))) (ab_u M 2 (upd (M 2) a1.toNatClampNeg a3)) N
      refine zInv_fg h hb ?_ rfl rfl rfl (fun c hc => zKu _ hc (by decide)) (fun c c1 c2 => ab_u_ne _ _ (by omega)) (fun _ _ => rfl)
      rw [← b2]
      exact zRN_a13 h.1.1 _
    · show zInv (b + 1) (zFg (ab_u C 14 (upd (C 14) a1.toNatClampNeg a3))) (ab_u M 3 (upd (M 3) a1.toNatClampNeg a3)) N
      refine zInv_fg h hb ?_ rfl rfl rfl (fun c hc => zKu _ hc (by decide)) (fun c c1 c2 => ab_u_ne _ _ (by omega)) (fun _ _ => rfl)
      rw [← b3]
      exact zRN_a14 h.1.1 _
    · show zInv (b + 1) (zFg (ab_u C 15 (upd (C 15) a1.toNatClampNeg a3))) (ab_u M 4 (upd (M 4) a1.toNatClampNeg a3)) N
      refine zInv_fg h hb ?_ rfl rfl rfl (fun c hc => zKu _ hc (by decide)) (fun c c1 c2 => ab_u_ne _ _ (by omega)) (fun _ _ => rfl)
      rw [← b4]
      refine zRN_a15 h.1.1 _ (fun p hp => ?_)
      by_cases e : p = a1.toNatClampNeg
      · rw [e, upd_eq]
        obtain ⟨k, hk, ek⟩ := zIxM (n := 3) (by decide) ⟨v0, v3⟩
        exact ⟨k, hk, ek⟩
      · rw [upd_ne _ _ e]
        exact h.1.1.2.2.2.1 p hp
  · rw [if_neg v] at e1 e2
    rw [e1, e2]
    refine ⟨⟨_, rfl, ?_⟩, zInv_up h (by omega)⟩
    unfold zStP
    rw [if_neg v, if_neg v]
theorem zTie_night {b : Nat} {C M : ab_M} {N Nc : ab_N} (h : zInv b C M N) (hb : b < 2000000) (a1 a2 : Int32) : zt_X11_night [.ref 0, .int a1, .int a2] C Nc (fun r C2 _ => zt_X12_night [.ref 0, .int a1, .int a2] M N (fun r2 M2 N2 => zOu (b + 1) r r2 C2 M2 N2)) := by
  obtain ⟨q0, q1, q2, q3, q4, -⟩ := h.1.1.1.1
  have i0 : zI0 C := h.1.1.2.1
  obtain ⟨j0, j1, j2, j3, j4, jr⟩ := id i0
  refine ab_m2_i trivial ?_
  rintro o C2 Nc2 ⟨-, e1, rfl⟩
  refine ⟨(a1, a2), _, rfl, rfl, ?_⟩
  rintro o2 M2 N2 ⟨e0, e2, rfl⟩
  dsimp only at e2 ⊢
  rw [e0]
  unfold zNiC at e1
  unfold zNiR at e2
  by_cases v : zNiV a1 a2
  · rw [if_pos v] at e1 e2
    have ans : zNiA (M 0) a1 a2 = zNiA (C 17) a1 a2 := by
      unfold zNiA
      rw [if_pos v, if_pos v]
      rcases v with ⟨rfl, -⟩ | ⟨rfl, -⟩ | ⟨rfl, -⟩ | ⟨rfl, -⟩ | ⟨rfl, -⟩
      · exact q0.symm
      · exact q1.symm
      · exact q2.symm
      · exact q3.symm
      · exact q4.symm
    refine ⟨⟨_, rfl, by rw [ans]⟩, ?_⟩
    rw [e1, e2]
    have go : ∀ j : Nat, j ≤ 4 → zRN (ab_u C 17 (upd (C 17) j a2)) (ab_u M 0 (upd (M 0) j a2)) → zInv (b + 1) (zFg (ab_u C 17 (upd (C 17) j a2))) (ab_u M 0 (upd (M 0) j a2)) N := fun j hj hr =>
      zInv_fg h hb hr rfl rfl rfl (fun c hc => zKu _ hc (by decide)) (fun c c1 c2 => ab_u_ne _ _ (by omega)) (fun i hi => by rw [ab_u_eq, upd_ne _ _ (by omega)])
    rcases v with ⟨rfl, v0, v1⟩ | ⟨rfl, v0, v1⟩ | ⟨rfl, v0, v1⟩ | ⟨rfl, v0, v1⟩ | ⟨rfl, v0, v1⟩
    · exact go 0 (by decide) (zRN_ni0 h.1.1 _ ⟨⟨v0, v1⟩, j1, j2, j3, j4, jr⟩)
    · exact go 1 (by decide) (zRN_ni1 h.1.1 _ ⟨j0, ⟨v0, v1⟩, j2, j3, j4, jr⟩)
    · exact go 2 (by decide) (zRN_ni2 h.1.1 _ ⟨j0, j1, ⟨v0, v1⟩, j3, j4, jr⟩)
    · exact go 3 (by decide) (zRN_ni3 h.1.1 _ ⟨j0, j1, j2, ⟨v0, v1⟩, j4, jr⟩)
    · exact go 4 (by decide) (zRN_ni4 h.1.1 _ ⟨j0, j1, j2, j3, ⟨v0, v1⟩, jr⟩)
  · rw [if_neg v] at e1 e2
    rw [e1, e2]
    refine ⟨⟨_, rfl, ?_⟩, zInv_up h (by omega)⟩
    unfold zNiA
    rw [if_neg v, if_neg v]
/-- one piece more -/
theorem zInv_pc {b : Nat} {C M : ab_M} {N : ab_N} (h : zInv b C M N) (hb : b < 2000000) (x y : Int32) : zInv (b + 1) (zPcC C x y (zPcs C)) (zPcM M x y (zPcs C)) N := by
  obtain ⟨n7, p8⟩ := zInv_p h
  obtain ⟨c7, -⟩ := zP_eq h.1.1.2.1
  obtain ⟨-, b2, b3, -⟩ := h.1.1.1.2.1
  unfold zPcC zPcM
  by_cases v : zPcV x y (zPcs C)
  · have v2 : (0 ≤ x ∧ x ≤ 1) ∧ (0 ≤ y ∧ y ≤ 99) ∧ ¬ zPcs C = 8 := v
    have n8 : zPcs C < 8 := by
      have := v2.2.2
      omega
    rw [if_pos v, if_pos v2]
    obtain ⟨a, g1, g2, g3⟩ := h.2.1
    have hz := zRN_a14 (zRN_a13 (zRN_fg h.1.1) (upd (C 13) (zPcs C) x)) (upd (C 14) (zPcs C) y)
    obtain ⟨i0, i1, -, -⟩ := h.1.1.2
    have hr := zRN_pieces hz (nI (zPcs C + 1)) ⟨i0.1, i0.2.1, i0.2.2.1, i0.2.2.2.1, i0.2.2.2.2.1, ⟨nI_pos' (by omega), nI_le (b := 8) (by omega) (by decide)⟩, i0.2.2.2.2.2.2⟩ (fun m hm => by
      obtain ⟨r1, r2, r3, r4, r5, r6⟩ := i1 m hm
      rw [c7] at r2 r3 r6
      have up : ∀ z : Int32, z < nI (zPcs C) → z < nI (zPcs C + 1) := fun z hz => Int32.lt_trans hz (nI_lt (by omega) (by omega))
      exact ⟨r1, ⟨r2.1, up _ r2.2⟩, ⟨r3.1, up _ r3.2⟩, r4, r5, fun z => ⟨(r6 z).1, up _ (r6 z).2⟩⟩)
    have e2 : upd (M 2) (zPcs C) x = upd (C 13) (zPcs C) x := by rw [b2]
    have e3 : upd (M 3) (zPcs C) y = upd (C 14) (zPcs C) y := by rw [b3]
    rw [e2, e3]
    have g5 : zFg C 5 4 = nI (a + 1) := zFg_5 C g3
    refine zInv_m h hr (zAsks_new h.1.2.1 g3 (by omega) g5 rfl (zLawOK_fr h.1.2.1.1 rfl rfl) h.1.2.1.2.2) h.1.2.2 ⟨a + 1, by omega, by omega, g5⟩ (fun c hc => (zKu _ hc (by decide)).trans ((zKu _ hc (by decide)).trans ((zKu _ hc (by decide)).trans (zKu _ hc (by decide))))) (fun c c1 c2 => ?_) (fun j hj => ?_) rfl
    · rw [ab_u_ne _ _ (by omega), ab_u_ne _ _ (by omega), ab_u_ne _ _ (by omega)]
    · rw [ab_u_eq, upd_ne _ _ (by omega)]
  · have v2 : ¬ ((0 ≤ x ∧ x ≤ 1) ∧ (0 ≤ y ∧ y ≤ 99) ∧ ¬ zPcs C = 8) := v
    rw [if_neg v, if_neg v2]
    exact zInv_up h (by omega)
theorem zTie_piece {b : Nat} {C M : ab_M} {N Nc : ab_N} (h : zInv b C M N) (hb : b < 2000000) (a1 a2 : Int32) : zt_X11_piece [.ref 0, .int a1, .int a2] C Nc (fun r C2 _ => zt_X12_piece [.ref 0, .int a1, .int a2] M N (fun r2 M2 N2 => zOu (b + 1) r r2 C2 M2 N2)) := by
  obtain ⟨n7, p8⟩ := zInv_p h
  refine ab_m2_i h.1.1.2.1 ?_
  rintro o C2 Nc2 ⟨-, e1, rfl⟩
  refine ⟨(zPcs C, a1, a2), _, rfl, ⟨rfl, n7, p8⟩, ?_⟩
  rintro o2 M2 N2 ⟨e2, e0, rfl⟩
  rw [e0, e1, e2]
  exact ⟨⟨_, rfl, rfl⟩, zInv_pc h hb a1 a2⟩
theorem zTie_learn {b : Nat} {C M : ab_M} {N Nc : ab_N} (h : zInv b C M N) (hb : b < 2000000) (a1 : Int32) : zt_X11_learn [.ref 0, .int a1] C Nc (fun r C2 _ => zt_X12_learn [.ref 0, .int a1] M N (fun r2 M2 N2 => zOu (b + 1) r r2 C2 M2 N2)) := by
  obtain ⟨n7, p8⟩ := zInv_p h
  obtain ⟨-, b2, -⟩ := h.1.1.1.2.1
  have eS := zSvE h.2.2.1
  refine ab_m1_i ⟨h.1.1.2.1, h.2.2.1.2⟩ ?_
  rintro o C2 Nc2 ⟨e1, -, rfl⟩
  refine ⟨(zPcs C, a1), _, rfl, ⟨rfl, n7, p8⟩, ?_⟩
  rintro o2 M2 N2 ⟨e2, e0, rfl⟩
  dsimp only at e2 ⊢
  rw [e0]
  unfold zLeK at e1
  unfold zLeM at e2
  unfold zLeA
  rw [zHwA_c eS, zPlA_c eS] at e1 ⊢
  rw [b2] at e1 ⊢
  by_cases v : zHwA M a1 (zPcs C) = 0
  · rw [if_pos v] at e1 e2
    rw [e1, e2]
    refine ⟨⟨_, rfl, rfl⟩, zInv_fg h hb (zRN_a13 h.1.1 _) rfl rfl rfl (fun c hc => zKu _ hc (by decide)) (fun c c1 c2 => ab_u_ne _ _ (by omega)) (fun _ _ => rfl)⟩
  · rw [if_neg v] at e1 e2
    rw [e1, e2]
    exact ⟨⟨_, rfl, rfl⟩, zInv_up h (by omega)⟩
