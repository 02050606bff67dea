/-! what both constructors leave *)
-/
def zO0 : List Int32 := [-1, 4, -15, -2, 20, -15, -13, -4, -13]
def zO1 : List Int32 := [30, -4, 15, -15, -13, -6, 10, -15, -14]
def zO2 : List Int32 := [-4, -5, -15]
theorem zFT0 : (zTk (zs_ch 0) 89 0).1 = nI (9 - 2) ∧ zYm (zs_ch 0) 89 30 (true, true, (zTk (zs_ch 0) 89 0).2.2.2, [], []) = some (.inr (34, zO0)) := by decide +kernel
theorem zFT1 : (zTk (zs_ch 0) 89 34).1 = nI (9 - 1) ∧ zYm (zs_ch 0) 89 30 (true, true, (zTk (zs_ch 0) 89 34).2.2.2, [], []) = some (.inr (68, zO1)) := by decide +kernel
theorem zFT2 : (zTk (zs_ch 0) 89 68).1 = nI (9 - 0) ∧ zYm (zs_ch 0) 89 30 (true, true, (zTk (zs_ch 0) 89 68).2.2.2, [], []) = some (.inr (88, zO2)) := by decide +kernel
theorem zFT3 : (zTk (zs_ch 0) 89 88).1 = -1 := by decide +kernel
theorem zFirst : zTx (zs_ch 0) 89 3 0 (.inr [zO0, zO1, zO2]) :=
  Or.inl ⟨zFT0.1, Or.inr ⟨34, zO0, ⟨30, zFT0.2⟩, Or.inr ⟨[zO1, zO2], Or.inl ⟨zFT1.1, Or.inr ⟨68, zO1, ⟨30, zFT1.2⟩, Or.inr ⟨[zO2], Or.inl ⟨zFT2.1, Or.inr ⟨88, zO2, ⟨30, zFT2.2⟩, Or.inr ⟨[], Or.inl ⟨zFT3, rfl⟩, rfl⟩⟩⟩, rfl⟩⟩⟩, rfl⟩⟩⟩
def zQ11 (C : ab_M) (_ : ab_N) : Prop := ∃ (M1 : ab_M) (res : zTr) (o : Option Value) (M2 : ab_M), zFr [4, 34] zB11 M1 ∧ (∀ j, j < 89 → M1 34 j = zs_ch 0 j) ∧ zTx (M1 34) 89 3 0 res ∧ zRead M1 89 0 res o M2 ∧ C = ab_u M2 4 (upd (M2 4) 2 0)
theorem zs_ch0 : ∀ j, j < 89 → 0 ≤ zs_ch 0 j := by decide +kernel
theorem zL_X11_init {N : ab_N} : ∀ (r i : Nat) (M : ab_M), i + r = 89 → zFr [4, 34] zB11 M → (∀ j, j < i → M 34 j = zs_ch 0 j) → M 4 2 = nI i → zr_X11_init (fun r M N => r = none ∧ zQ11 M N) 175 [some (.ref 0), some (.int (nI i))] [] M N := by
  intro r
  induction r with
  | zero =>
    intro i M hi hF h34 h4
    have e : i = 89 := by omega
    subst e
    refine zv_X11_init_175 _ ⟨trivial, fun _ => ?_, fun c => absurd (Int32.le_refl _) c⟩
    refine ⟨rfl, 89, 0, ⟨by decide, h4, fun j hj => by rw [h34 j hj]; exact zs_ch0 j hj⟩, by rw [hF 3 (by decide)]; rfl, by decide, fun res o M2 hx hR => ?_⟩
    have ho : ∃ v : Int32, o = some (.int v) := by
      obtain ⟨-, -, -, -, -, ⟨p, -, -, z, -⟩ | ⟨O0, O1, O2, -, z, -⟩⟩ := hR
      · exact ⟨_, z⟩
      · exact ⟨_, z⟩
    obtain ⟨v, rfl⟩ := ho
    exact zv_X11_init_210 v ⟨rfl, M, res, _, M2, hF, h34, hx, hR, rfl⟩
  | succ r ih =>
    intro i M hi hF h34 h4
    refine zv_X11_init_175 _ ⟨trivial, fun c => absurd c (nI_ge (b := 89) (show i < 89 by omega) (by decide)), fun _ => ⟨nI_in_ (by omega), ?_⟩⟩
    refine ab_m1_i ⟨i, by omega, h4⟩ ?_
    rintro o M2 N2 ⟨rfl, rfl, rfl⟩
    refine zv_X11_init_197 _ ?_
    rw [nI_1, h4, nI_clamp (by omega), nI_1]
    refine ih (i + 1) _ (by omega) (fun c hc => ?_) (fun j hj => ?_) (by rw [ab_u_eq, upd_eq])
    · have := hc
      simp only [List.mem_cons, List.not_mem_nil, or_false] at this
      rw [ab_u_ne _ _ (by omega), ab_u_ne _ _ (by omega)]
      exact hF c hc
    · rw [ab_u_ne _ _ (by decide), ab_u_eq]
      by_cases q : j = i
      · rw [q, upd_eq]
      · rw [upd_ne _ _ q]
        exact h34 j (by omega)
theorem zRun_X11 : zr_X11_init (fun r M N => r = none ∧ zQ11 M N) 173 [some (.ref 0), none] [] zB11 zJ11 :=
  zv_X11_init_173 (zL_X11_init 89 0 zB11 (by decide) (fun _ _ => rfl) (fun j hj => absurd hj (Nat.not_lt_zero _)) rfl)
def zFl : Nat → Int32 := fun j => ([0, 100004, 18, 1, 100020, 18, 16, 3, 16, 100030, 3, 100015, 18, 16, 5, 100010, 18, 17, 3, 4, 18] : List Int32).getD j 0
def zFst : Nat → Int32 := fun j => ([0, 9, 18, 21] : List Int32).getD j 0
def zQ12 (M : ab_M) (N : ab_N) : Prop := N = zJ12 ∧ zFr [13, 14] zB12 M ∧ (∀ j, j < 21 → M 13 j = zFl j) ∧ ∀ j, j < 4 → M 14 j = zFst j
theorem zRun_X12 : zr_X12_init (fun r M N => r = none ∧ zQ12 M N) 404 [some (.ref 0)] [] zB12 zJ12 := by
  refine zv_X12_init_404 (ab_m5_i ⟨0, by decide, rfl⟩ ?_)
  rintro o M1 N1 ⟨rfl, rfl, e1⟩
  have F1 : zFr [13, 14] zB12 M1 := fun c hc => by
    simp only [List.mem_cons, List.not_mem_nil, or_false] at hc
    rw [e1, ab_u_ne _ _ (by omega)]
  refine zv_X12_init_415 (ab_m5_i ⟨4, by decide, rfl⟩ ?_)
  rintro o M2 N2 ⟨rfl, rfl, e2⟩
  have F2 : zFr [13, 14] zB12 M2 := fun c hc => by
    rw [← F1 c hc]
    simp only [List.mem_cons, List.not_mem_nil, or_false] at hc
    rw [e2, ab_u_ne _ _ (by omega)]
  refine zv_X12_init_427 (ab_m5_i ⟨8, by decide, rfl⟩ ?_)
  rintro o M3 N3 ⟨rfl, rfl, e3⟩
  have F3 : zFr [13, 14] zB12 M3 := fun c hc => by
    rw [← F2 c hc]
    simp only [List.mem_cons, List.not_mem_nil, or_false] at hc
    rw [e3, ab_u_ne _ _ (by omega)]
  refine zv_X12_init_440 (ab_m5_i ⟨12, by decide, rfl⟩ ?_)
  rintro o M4 N4 ⟨rfl, rfl, e4⟩
  have F4 : zFr [13, 14] zB12 M4 := fun c hc => by
    rw [← F3 c hc]
    simp only [List.mem_cons, List.not_mem_nil, or_false] at hc
    rw [e4, ab_u_ne _ _ (by omega)]
  refine zv_X12_init_453 (ab_m5_i ⟨16, by decide, rfl⟩ ?_)
  rintro o M5 N5 ⟨rfl, rfl, e5⟩
  have F5 : zFr [13, 14] zB12 M5 := fun c hc => by
    rw [← F4 c hc]
    simp only [List.mem_cons, List.not_mem_nil, or_false] at hc
    rw [e5, ab_u_ne _ _ (by omega)]
  have k14 : M5 14 = zB12 14 := by
    rw [e5, ab_u_ne _ _ (by decide), e4, ab_u_ne _ _ (by decide), e3, ab_u_ne _ _ (by decide), e2, ab_u_ne _ _ (by decide), e1, ab_u_ne _ _ (by decide)]
  have k13 : ∀ j, j < 20 → M5 13 j = zFl j := by
    rw [e5, ab_u_eq, e4, ab_u_eq, e3, ab_u_eq, e2, ab_u_eq, e1, ab_u_eq]
    decide +kernel
  refine zv_X12_init_465 ⟨nI_in_ (n := 20) (by decide), nI_in_ (n := 1) (by decide), nI_in_ (n := 2) (by decide), nI_in_ (n := 3) (by decide), rfl, rfl, fun c hc => ?_, fun j hj => ?_, fun j hj => ?_⟩
  · rw [← F5 c hc]
    simp only [List.mem_cons, List.not_mem_nil, or_false] at hc
    rw [ab_u_ne _ _ (by omega), ab_u_ne _ _ (by omega), ab_u_ne _ _ (by omega), ab_u_ne _ _ (by omega)]
  · rw [ab_u_ne _ _ (by decide), ab_u_ne _ _ (by decide), ab_u_ne _ _ (by decide), ab_u_eq]
    by_cases q : j = 20
    · rw [q, upd_eq]
      decide
    · rw [upd_ne _ _ q]
      exact k13 j (by omega)
  · rw [ab_u_eq, k14]
    match j, hj with
    | 0, _ => decide
    | 1, _ => decide
    | 2, _ => decide
    | 3, _ => decide
theorem zFl_rc : ∀ j, j < 21 → zFl j = zRc ((zO0 ++ zO1 ++ zO2).getD j 0) := by decide +kernel
theorem zInv_0 {C M : ab_M} {Nc N : ab_N} (hc : zQ11 C Nc) (hm : zQ12 M N) : zInv 1 C M N := by
  obtain ⟨M1, res, o, M2, hF, h34, hx, hR, rfl⟩ := hc
  obtain ⟨rfl, gF, g13, g14⟩ := hm
  have er : res = .inr [zO0, zO1, zO2] := zTx_det 3 0 _ _ (zTx_cg h34 3 0 _ hx) zFirst
  subst er
  have wf := zTx_wf 3 0 _ hx
  obtain ⟨f1, f2, -, -, f5, ⟨p, z, -⟩ | ⟨O0, O1, O2, z, -, f6, -, f7, f8, f9, f10⟩⟩ := hR
  · cases z
  have z := Sum.inr.inj z
  simp only [List.cons.injEq, and_true] at z
  obtain ⟨rfl, rfl, rfl⟩ := z
  have e : ∀ c, c ∉ [3, 4, 31, 32, 34] → (ab_u M2 4 (upd (M2 4) 2 0)) c = zB11 c := fun c hc => by
    simp only [List.mem_cons, List.not_mem_nil, or_false] at hc
    rw [ab_u_ne _ _ (by omega), f1 c (by simp only [List.mem_cons, List.not_mem_nil, or_false]; omega)]
    exact hF c (by simp only [List.mem_cons, List.not_mem_nil, or_false]; omega)
  have g : ∀ c, c ∉ [13, 14] → M c = zB12 c := gF
  have c33 : (ab_u M2 4 (upd (M2 4) 2 0)) 3 3 = nI 0 := by
    rw [ab_u_ne _ _ (by decide), f5 3 (by decide), hF 3 (by decide)]
    rfl
  have c32 : (ab_u M2 4 (upd (M2 4) 2 0)) 3 2 = nI 1 := by
    rw [ab_u_ne _ _ (by decide)]
    exact f6
  have tx : zTextEq (ab_u M2 4 (upd (M2 4) 2 0)) M 0 := ⟨zO0, zO1, zO2, wf zO0 (by simp), wf zO1 (by simp), wf zO2 (by simp), by decide, f7, f8, f9, f10, by rw [g14 _ (by decide)]; decide, by rw [g14 _ (by decide)]; decide, by rw [g14 _ (by decide)]; decide, by rw [g14 _ (by decide)]; decide, fun j x hx => by
    have hj : j < 21 := (List.getElem?_eq_some_iff.mp hx).1
    rw [show 200 * 0 + j = j by omega, g13 j hj, zFl_rc j hj, List.getD_eq_getElem?_getD, hx]
    rfl⟩
  generalize hCe : ab_u M2 4 (upd (M2 4) 2 0) = C at *
  have c42 : C 4 2 = 0 := by rw [← hCe, ab_u_eq, upd_eq]
  have m0 := g 0 (by decide)
  have i15 : ∀ p, p < 8 → ∃ s : Nat, s ≤ 3 ∧ C 15 p = nI s := fun p _ => ⟨0, by decide, by rw [e 15 (by decide)]; rfl⟩
  have i0 : zI0 C := by
    unfold zI0
    rw [e 17 (by decide), e 1 (by decide), e 2 (by decide)]
    decide +kernel
  have i1 : zI1 C := fun m hm => by
    unfold zMen at hm
    rw [e 2 (by decide)] at hm
    exact absurd hm (Nat.not_lt_zero _)
  have hRN : zRN C M := by
    refine ⟨⟨?_, ⟨?_, ?_, ?_, ?_, ?_, ?_, ?_, ?_, ?_, ?_, ?_⟩, ?_, 0, by decide, c33, ?_, tx⟩, i0, i1, i15, fun p _ => Or.inl ?_⟩
    · rw [e 17 (by decide), e 1 (by decide), e 2 (by decide), m0]
      decide +kernel
    · rw [e 18 (by decide), g 1 (by decide)]; rfl
    · rw [e 13 (by decide), g 2 (by decide)]; rfl
    · rw [e 14 (by decide), g 3 (by decide)]; rfl
    · rw [e 15 (by decide), g 4 (by decide)]; rfl
    · rw [e 16 (by decide), g 5 (by decide)]; rfl
    · rw [e 25 (by decide), g 6 (by decide)]; rfl
    · rw [e 26 (by decide), g 7 (by decide)]; rfl
    · rw [e 27 (by decide), g 8 (by decide)]; rfl
    · rw [e 28 (by decide), g 9 (by decide)]; rfl
    · rw [e 29 (by decide), g 10 (by decide)]; rfl
    · rw [e 30 (by decide), g 11 (by decide)]; rfl
    · rw [e 6 (by decide), m0]
      exact ⟨by decide +kernel, by decide +kernel, Or.inl (by decide +kernel), by decide +kernel, Or.inl (by decide +kernel)⟩
    · rw [m0]; rfl
    · rw [e 16 (by decide)]; rfl
  refine ⟨⟨hRN, ⟨zLawOK_t tx (by decide) c33, ⟨1, by decide, by decide, by rw [e 5 (by decide)]; rfl, fun row p h is _ _ _ _ _ => ⟨0, by rw [e 36 (by decide)]; rfl, by decide, fun z => absurd z (by decide)⟩⟩, i15⟩, ?_⟩, ⟨1, by decide, by decide, by rw [e 5 (by decide)]; rfl⟩, ⟨⟨?_, ?_, ?_⟩, fun s _ => ⟨0, by decide, ?_⟩⟩, ⟨0, ⟨by decide, c42, fun j hj => absurd hj (Nat.not_lt_zero _)⟩, ⟨by decide, by rw [m0]; rfl, fun j hj => absurd hj (Nat.not_lt_zero _), by decide +kernel⟩, fun j hj => absurd hj (Nat.not_lt_zero _)⟩, ⟨1, ⟨by decide, by decide⟩, c32, by rw [m0]; rfl, fun t ht => ?_, 0, by decide, c33, by rw [m0]; rfl⟩, ?_, fun z => absurd ?_ z⟩
  · unfold zT6
    rw [e 6 (by decide)]
    decide +kernel
  · rw [e 43 (by decide), g 21 (by decide)]; rfl
  · rw [e 44 (by decide), g 22 (by decide)]; rfl
  · rw [e 45 (by decide), g 23 (by decide)]; rfl
  · rw [e 44 (by decide)]; rfl
  · have : t = 0 := by omega
    rw [this]
    exact tx
  · rw [e 10 (by decide), m0]; rfl
  · rw [e 10 (by decide)]; rfl
