/-! what the night's walk and the reckoning see of a state *)
-/
theorem zCl_lt (x : Int32) : x.toNatClampNeg < 2 ^ 31 := by
  have h := Int32.toInt_lt x
  show x.toInt.toNat < _
  omega
def zEqT (d d2 : ab_M) : Prop := d2 6 7 = d 6 7 ∧ d2 6 8 = d 6 8 ∧ (d 6 8 = -1 ∨ (d2 6 9 = d 6 9 ∧ d2 6 10 = d 6 10)) ∧ d2 6 11 = d 6 11 ∧ (d 6 11 = -1 ∨ d2 6 12 = d 6 12)
def zEqv (d d2 : ab_M) : Prop := zAsk d2 = zAsk d ∧ d2 1 = d 1 ∧ d2 2 = d 2 ∧ zEqT d d2 ∧ d2 16 = d 16 ∧ d2 17 = d 17 ∧ d2 25 = d 25 ∧ d2 26 = d 26 ∧ d2 27 = d 27 ∧ d2 28 = d 28 ∧ d2 29 = d 29 ∧ d2 30 = d 30
theorem zEqT_rf {d d2 : ab_M} (h : d2 6 = d 6) : zEqT d d2 := by
  unfold zEqT
  rw [h]
  exact ⟨rfl, rfl, Or.inr ⟨rfl, rfl⟩, rfl, Or.inr rfl⟩
theorem zEqv_go {M M2 : ab_M} (hF : zFr zGo M M2) : zEqv M M2 := ⟨zAsk_go hF, hF 1 (by decide), hF 2 (by decide), zEqT_rf (hF 6 (by decide)), hF 16 (by decide), hF 17 (by decide), hF 25 (by decide), hF 26 (by decide), hF 27 (by decide), hF 28 (by decide), hF 29 (by decide), hF 30 (by decide)⟩
theorem nI_m1 {m : Nat} (hm : m < 2 ^ 31) : ¬ nI m = -1 := fun z => nI_pos hm (by rw [z]; decide)
section Eqv
variable {d d2 : ab_M}
theorem zEqv_pcs (E : zEqv d d2) : zPcs d2 = zPcs d := by unfold zPcs; rw [E.2.1]
theorem zEqv_men (E : zEqv d d2) : zMen d2 = zMen d := by unfold zMen; rw [E.2.2.1]
theorem zEqv_hrs (E : zEqv d d2) : zHrs d2 = zHrs d := by unfold zHrs; rw [E.2.2.2.2.2.1]
theorem zEqv_brk (E : zEqv d d2) : zBrk d2 = zBrk d := by unfold zBrk; rw [E.2.2.2.2.2.1]
theorem zPcs_lt (d : ab_M) : zPcs d < 2 ^ 31 := zCl_lt _
theorem zMen_lt (d : ab_M) : zMen d < 2 ^ 31 := zCl_lt _
theorem zCome_eqv (E : zEqv d d2) {h m : Nat} (hm : m < 2 ^ 31) {pl pl2 bk bk2 : Nat → Int32} {sc sc2 : Nat → Nat} (hpl : pl2 m = pl m) (hbk : bk2 m = bk m) (hsc : ∀ p, p < 2 ^ 31 → sc2 p = sc p) : zCome d2 h pl2 bk2 sc2 m = zCome d h pl bk sc m := by
  have hP := zEqv_pcs E
  have hL := zPcs_lt d
  obtain ⟨hA, e1, e2, ⟨-, t8, t9, -, -⟩, e16, e17, e25, e26, e27, e28, e29, e30⟩ := E
  have hR : ∀ v f, zRiskF d2 h sc2 v f (zPcs d) = zRiskF d h sc v f (zPcs d) := by
    intro v f
    rw [zRiskF_congr (zPcs d) (fun p hp => hsc p (by omega))]
    generalize zPcs d = n
    induction n with
    | zero => rfl
    | succ n ih => rw [zRiskF, zRiskF, ih, hA]
  have hT : (if nI m = d2 6 8 ∧ nI h = d2 6 9 then some (d2 6 10) else none) = (if nI m = d 6 8 ∧ nI h = d 6 9 then some (d 6 10) else none) := by
    rw [t8]
    rcases t9 with q | ⟨q, q2⟩
    · rw [q, if_neg (fun z => nI_m1 hm z.1), if_neg (fun z => nI_m1 hm z.1)]
    · rw [q, q2]
  unfold zCome
  rw [e1, e25, e26, e27, e28, e29, e30, hP, hR, hpl, hbk]
  by_cases c : nI m = d 6 8 ∧ nI h = d 6 9
  · rw [if_pos c] at hT ⊢
    by_cases c2 : nI m = d2 6 8 ∧ nI h = d2 6 9
    · rw [if_pos c2] at hT ⊢
      exact Option.some.inj hT
    · rw [if_neg c2] at hT
      cases hT
  · rw [if_neg c] at hT ⊢
    by_cases c2 : nI m = d2 6 8 ∧ nI h = d2 6 9
    · rw [if_pos c2] at hT
      cases hT
    · rw [if_neg c2]
theorem zLk_eqv (E : zEqv d d2) {h p : Nat} (hp : p < 2 ^ 31) {pl pl2 : Nat → Int32} : ∀ m, m < 2 ^ 31 → (∀ i, i < m → pl2 i = pl i) → zLk d2 h pl2 m p = zLk d h pl m p
  | 0, _, _ => by
    obtain ⟨hA, e1, e2, ⟨-, -, -, t11, t12⟩, e16, e17, e25, e26, e27, e28, e29, e30⟩ := E
    unfold zLk zOth
    rw [e1, e16, e17, t11]
    rcases t12 with q | q
    · have n1 : ∀ a : Int32, ¬ (nI p = -1 ∧ nI h = a) := fun a z => nI_m1 hp z.1
      rw [q]
      simp only [if_neg (n1 _)]
    · rw [q]
  | m + 1, hm, hpl => by
    have ih := zLk_eqv E (h := h) hp m (by omega) (fun i hi => hpl i (by omega))
    obtain ⟨hA, e1, e2, ⟨t7, -, -, -, -⟩, e16, e17, e25, e26, e27, e28, e29, e30⟩ := E
    unfold zLk
    rw [ih, e25, e29, t7, hpl m (by omega)]
def zAgr (s s2 : zSt) : Prop := (∀ m, m < 2 ^ 31 → s2.1 m = s.1 m ∧ s2.2.1 m = s.2.1 m) ∧ ∀ p, p < 2 ^ 31 → s2.2.2.1 p = s.2.2.1 p ∧ s2.2.2.2 p = s.2.2.2 p
theorem zHr_eqv (E : zEqv d d2) (h : Nat) {s s2 : zSt} (hs : zAgr s s2) : zAgr (zHr d h s) (zHr d2 h s2) := by
  have hM := zMen_lt d
  have hsc : ∀ p, p < 2 ^ 31 → (if h = 0 ∨ ¬ s2.2.2.2 p = 0 then 1 else s2.2.2.1 p + 1) = (if h = 0 ∨ ¬ s.2.2.2 p = 0 then 1 else s.2.2.1 p + 1) := fun p hp => by rw [(hs.2 p hp).1, (hs.2 p hp).2]
  have hpl : ∀ m, m < 2 ^ 31 → (zHr d2 h s2).1 m = (zHr d h s).1 m := fun m hm => zCome_eqv E hm (hs.1 m hm).1 (hs.1 m hm).2 hsc
  refine ⟨fun m hm => ⟨hpl m hm, ?_⟩, fun p hp => ⟨hsc p hp, ?_⟩⟩
  · show zBack d2 h s2.2.1 m ((zHr d2 h s2).1 m) = zBack d h s.2.1 m ((zHr d h s).1 m)
    unfold zBack
    rw [hpl m hm, (hs.1 m hm).2]
    obtain ⟨-, -, -, -, -, -, -, e26, e27, -⟩ := E
    rw [e26, e27]
  · show zLk d2 h (zHr d2 h s2).1 (zMen d2) p = zLk d h (zHr d h s).1 (zMen d) p
    rw [zEqv_men E]
    exact zLk_eqv E hp _ hM (fun i hi => hpl i (by omega))
theorem zWk_eqv (E : zEqv d d2) : ∀ h, zAgr (zWk d h) (zWk d2 h)
  | 0 => zHr_eqv E 0 ⟨fun _ _ => ⟨rfl, rfl⟩, fun _ _ => ⟨rfl, rfl⟩⟩
  | h + 1 => zHr_eqv E (h + 1) (zWk_eqv E h)
theorem zSc_eqv (E : zEqv d d2) (h : Nat) {p : Nat} (hp : p < 2 ^ 31) : zSc d2 h p = zSc d h p := by
  rw [← zWk_sc, ← zWk_sc]
  exact ((zWk_eqv E h).2 p hp).1
theorem zLook_eqv (E : zEqv d d2) : zLook d2 = zLook d := by
  funext p h pc n
  induction n with
  | zero => rfl
  | succ n ih => funext s; show zLook1 d2 p h pc (n + 1) (zLook d2 p h pc n s) = _; rw [ih]; unfold zLook1; rw [E.1]; rfl
theorem zGrow_eqv (E : zEqv d d2) : zGrow d2 = zGrow d := by
  funext p h sc s
  unfold zGrow
  rw [E.1, zEqv_brk E]
theorem zPace_eqv (E : zEqv d d2) : zPace d2 = zPace d := by
  funext w
  unfold zPace
  rw [zEqv_men E, E.2.2.2.2.2.2.2.2.2.1]
theorem zLooks_eqv (E : zEqv d d2) (p h : Nat) (lk : Int32) (s : zRs) : ∀ n, zLooks d2 p h lk n s = zLooks d p h lk n s
  | 0 => rfl
  | n + 1 => by
    unfold zLooks
    rw [zLooks_eqv E p h lk s n, zLook_eqv E, zEqv_brk E, zPace_eqv E]
theorem zRk_eqv (E : zEqv d d2) {p : Nat} (hp : p < 2 ^ 31) : ∀ h, zRk d2 p h = zRk d p h
  | 0 => rfl
  | h + 1 => by
    show zLooks d2 p h ((zWk d2 h).2.2.2 p) 8 (zGrow d2 p h (zSc d2 h p) (zRk d2 p h)) = zLooks d p h ((zWk d h).2.2.2 p) 8 (zGrow d p h (zSc d h p) (zRk d p h))
    rw [zLooks_eqv E, zRk_eqv E hp h, zGrow_eqv E, zSc_eqv E h hp, ((zWk_eqv E h).2 p hp).2]
theorem zSum_eqv (E : zEqv d d2) (w : Nat) : ∀ n, n < 2 ^ 31 → zSum d2 w n = zSum d w n
  | 0, _ => rfl
  | n + 1, hn => by
    unfold zSum
    rw [zSum_eqv E w n (by omega), zRk_eqv E (by omega), zEqv_hrs E]
    unfold zTold
    rw [zEqv_brk E]
theorem zAll_eqv (E : zEqv d d2) : zAll d2 = zAll d := by
  unfold zAll
  rw [zEqv_pcs E]
  exact zSum_eqv E 0 _ (zPcs_lt d)
end Eqv
theorem zWalked_eqv {M M2 : ab_M} (hI : zI0 M) (E : zEqv M M2) (h37 : M2 37 = M 37) (h38 : M2 38 = M 38) (h39 : M2 39 = M 39) (h : zWalked M) : zWalked M2 := by
  have hm := zMen_lt M
  have hp := zPcs_lt M
  intro g hg
  rw [zEqv_hrs E] at hg
  obtain ⟨k1, k2⟩ := h g hg
  rw [h37, h38, h39]
  refine ⟨fun m hm2 => ?_, fun p hp2 => ?_⟩
  · rw [zEqv_men E] at hm2
    rw [((zWk_eqv E g).1 m (by omega)).1]
    exact k1 m hm2
  · rw [zEqv_pcs E] at hp2
    rw [zSc_eqv E g (by omega), ((zWk_eqv E g).2 p (by omega)).2]
    exact k2 p hp2
/-- behind a walk -/
theorem zWalked_go {M M2 : ab_M} (hF : zFr zGo M M2) (h : ∀ h, h < zHrs M → (∀ m, m < zMen M → M2 37 (h * 5 + m) = (zWk M h).1 m) ∧ ∀ p, p < zPcs M → M2 39 (h * 8 + p) = nI ((zWk M h).2.2.1 p) ∧ M2 38 (h * 8 + p) = (zWk M h).2.2.2 p) : zWalked M2 := by
  have E := zEqv_go hF
  have hm := zMen_lt M
  have hp := zPcs_lt M
  intro g hg
  rw [zEqv_hrs E] at hg
  obtain ⟨k1, k2⟩ := h g hg
  refine ⟨fun m hm2 => ?_, fun p hp2 => ?_⟩
  · rw [zEqv_men E] at hm2
    rw [((zWk_eqv E g).1 m (by omega)).1]
    exact k1 m hm2
  · rw [zEqv_pcs E] at hp2
    rw [zSc_eqv E g (by omega), ((zWk_eqv E g).2 p (by omega)).2, ← zWk_sc]
    exact k2 p hp2
