/-! who looks, as bits; where it is most risky, told another way *)
-/
theorem zB_or : ∀ b, b < 256 → ∀ q, q < 8 → nI b ||| ((1 : Int32) <<< (nI q &&& 31)) = nI (b ||| 2 ^ q) := by decide +kernel
theorem zB_bit : ∀ b, b < 256 → ∀ w, w < 8 → decide (((nI b) >>> (nI w &&& 31)) &&& 1 = 0) = !b.testBit w := by decide +kernel
theorem zB_lt : ∀ b, b < 256 → ∀ q, q < 8 → b ||| 2 ^ q < 256 := by decide +kernel
theorem zTow_eq : ∀ a, a < 8 → ∀ b, b < 8 → ∀ c, c < 4 → zTow (nI c) (nI a) (nI b) = zTow2 (nI a) (nI b) (nI c) := by decide +kernel
abbrev zVil (d : ab_M) (p h : Nat) : Prop := 0 ≤ d 1 7 ∧ nI p < d 17 3 ∧ d 1 7 + d 17 4 ≤ nI h
abbrev zMor (d : ab_M) (p h : Nat) : Prop := nI p = d 6 11 ∧ nI h = d 6 12
abbrev zDoes (d : ab_M) (m h : Nat) : Prop := ¬ nI m = d 6 7 ∧ zAwk (d 25 m) (d 29 m) (nI h)
def zOthN (d : ab_M) (h p : Nat) : Nat := ((if zVil d p h then 32 else 0) ||| (if d 16 p = 0 then 0 else 64)) ||| (if zMor d p h then 128 else 0)
def zLkN (d : ab_M) (h : Nat) (pl : Nat → Int32) : Nat → Nat → Nat
  | 0, p => zOthN d h p
  | m + 1, p => if zDoes d m h ∧ pl m = nI p then zLkN d h pl m p ||| 2 ^ m else zLkN d h pl m p
theorem zLk_N {d : ab_M} {h p : Nat} {pl : Nat → Int32} : ∀ n, n ≤ 5 → zLk d h pl n p = nI (zLkN d h pl n p) ∧ zLkN d h pl n p < 256
  | 0, _ => by
    unfold zLk zLkN zOth zOthN
    by_cases c1 : zVil d p h
    · by_cases c2 : d 16 p = 0
      · by_cases c3 : zMor d p h
        · rw [if_pos c3, if_pos c1, if_pos c1, if_pos c2, if_pos c2, if_pos c3]; decide
        · rw [if_neg c3, if_pos c1, if_pos c1, if_pos c2, if_pos c2, if_neg c3]; decide
      · by_cases c3 : zMor d p h
        · rw [if_pos c3, if_pos c1, if_pos c1, if_neg c2, if_neg c2, if_pos c3]; decide
        · rw [if_neg c3, if_pos c1, if_pos c1, if_neg c2, if_neg c2, if_neg c3]; decide
    · by_cases c2 : d 16 p = 0
      · by_cases c3 : zMor d p h
        · rw [if_pos c3, if_neg c1, if_neg c1, if_pos c2, if_pos c2, if_pos c3]; decide
        · rw [if_neg c3, if_neg c1, if_neg c1, if_pos c2, if_pos c2, if_neg c3]; decide
      · by_cases c3 : zMor d p h
        · rw [if_pos c3, if_neg c1, if_neg c1, if_neg c2, if_neg c2, if_pos c3]; decide
        · rw [if_neg c3, if_neg c1, if_neg c1, if_neg c2, if_neg c2, if_neg c3]; decide
  | m + 1, hm => by
    obtain ⟨i1, i2⟩ := zLk_N (d := d) (h := h) (p := p) (pl := pl) m (by omega)
    unfold zLk zLkN
    by_cases c : zDoes d m h ∧ pl m = nI p
    · rw [if_pos c, if_pos c, i1]
      exact ⟨zB_or _ i2 m (by omega), zB_lt _ i2 m (by omega)⟩
    · rw [if_neg c, if_neg c]
      exact ⟨i1, i2⟩
theorem zOthB {A B C : Prop} [Decidable A] [Decidable B] [Decidable C] {w : Nat} (hw : w < 8) : (((if A then 32 else 0) ||| (if B then 0 else 64)) ||| (if C then 128 else 0) : Nat).testBit w = true ↔ (w = 5 ∧ A) ∨ (w = 6 ∧ ¬ B) ∨ (w = 7 ∧ C) := by
  by_cases c1 : A <;> by_cases c2 : B <;> by_cases c3 : C <;> simp only [c1, c2, c3, if_true, if_false, and_true, and_false, or_false, false_or, not_true_eq_false, not_false_eq_true] <;> (revert w; decide)
theorem zOthZ {A B C : Prop} [Decidable A] [Decidable B] [Decidable C] : ¬ (((if A then 32 else 0) ||| (if B then 0 else 64)) ||| (if C then 128 else 0) : Nat) = 0 ↔ A ∨ ¬ B ∨ C := by
  by_cases c1 : A <;> by_cases c2 : B <;> by_cases c3 : C <;> simp [c1, c2, c3]
theorem zOthN_bit {d : ab_M} {h p w : Nat} (hw : w < 8) : (zOthN d h p).testBit w = true ↔ (w = 5 ∧ zVil d p h) ∨ (w = 6 ∧ ¬ d 16 p = 0) ∨ (w = 7 ∧ zMor d p h) := by
  unfold zOthN
  exact zOthB hw
theorem zLkN_bit {d : ab_M} {h p : Nat} {pl : Nat → Int32} {w : Nat} (hw : w < 8) : ∀ n, n ≤ 5 → ((zLkN d h pl n p).testBit w = true ↔ (w < n ∧ zDoes d w h ∧ pl w = nI p) ∨ (w = 5 ∧ zVil d p h) ∨ (w = 6 ∧ ¬ d 16 p = 0) ∨ (w = 7 ∧ zMor d p h))
  | 0, _ => by
    show (zOthN d h p).testBit w = true ↔ _
    rw [zOthN_bit hw]
    constructor
    · exact Or.inr
    · rintro (z | z)
      · exact absurd z.1 (Nat.not_lt_zero _)
      · exact z
  | m + 1, hm => by
    have ih := zLkN_bit (d := d) (h := h) (p := p) (pl := pl) hw m (by omega)
    show (if zDoes d m h ∧ pl m = nI p then zLkN d h pl m p ||| 2 ^ m else zLkN d h pl m p).testBit w = true ↔ _
    by_cases c : zDoes d m h ∧ pl m = nI p
    · rw [if_pos c, Nat.testBit_or, Bool.or_eq_true, ih, Nat.testBit_two_pow]
      simp only [decide_eq_true_eq]
      constructor
      · rintro (z | z)
        · rcases z with z | z
          · exact Or.inl ⟨by omega, z.2⟩
          · exact Or.inr z
        · subst z; exact Or.inl ⟨by omega, c⟩
      · rintro (z | z)
        · by_cases e : w = m
          · exact Or.inr e.symm
          · exact Or.inl (Or.inl ⟨by omega, z.2⟩)
        · exact Or.inl (Or.inr z)
    · rw [if_neg c, ih]
      constructor
      · rintro (z | z)
        · exact Or.inl ⟨by omega, z.2⟩
        · exact Or.inr z
      · rintro (z | z)
        · by_cases e : w = m
          · subst e; exact absurd z.2 c
          · exact Or.inl ⟨by omega, z.2⟩
        · exact Or.inr z
theorem zLkN_0 {d : ab_M} {h p : Nat} {pl : Nat → Int32} : ∀ n, (¬ zLkN d h pl n p = 0 ↔ (zVil d p h ∨ ¬ d 16 p = 0 ∨ zMor d p h) ∨ ∃ m, m < n ∧ zDoes d m h ∧ pl m = nI p)
  | 0 => by
    have h1 : ¬ zOthN d h p = 0 ↔ _ := zOthZ
    refine h1.trans ⟨Or.inl, fun z => z.elim id (fun ⟨m, q, _⟩ => absurd q (Nat.not_lt_zero m))⟩
  | m + 1 => by
    have ih := zLkN_0 (d := d) (h := h) (p := p) (pl := pl) m
    show ¬ (if zDoes d m h ∧ pl m = nI p then zLkN d h pl m p ||| 2 ^ m else zLkN d h pl m p) = 0 ↔ _
    by_cases c : zDoes d m h ∧ pl m = nI p
    · rw [if_pos c]
      constructor
      · exact fun _ => Or.inr ⟨m, Nat.lt_succ_self m, c⟩
      · intro _ z
        have := (Nat.or_eq_zero_iff.mp z).2
        exact absurd this (Nat.pos_iff_ne_zero.mp (Nat.two_pow_pos m))
    · rw [if_neg c, ih]
      constructor
      · rintro (z | ⟨q, h1, h2⟩)
        · exact Or.inl z
        · exact Or.inr ⟨q, by omega, h2⟩
      · rintro (z | ⟨q, h1, h2⟩)
        · exact Or.inl z
        · by_cases e : q = m
          · subst e; exact absurd h2 c
          · exact Or.inr ⟨q, by omega, h2⟩
/-- pieces as bits -/
def zBits (f : Nat → Int32) : Nat → Nat
  | 0 => 0
  | p + 1 => if f p = 0 then zBits f p else zBits f p ||| 2 ^ p
theorem zBits_bit {f : Nat → Int32} {w : Nat} : ∀ n, (zBits f n).testBit w = true ↔ w < n ∧ ¬ f w = 0
  | 0 => by
    show (0 : Nat).testBit w = true ↔ _
    rw [Nat.zero_testBit]
    constructor
    · exact fun z => by cases z
    · exact fun z => absurd z.1 (Nat.not_lt_zero _)
  | p + 1 => by
    have ih := zBits_bit (f := f) (w := w) p
    show (if f p = 0 then zBits f p else zBits f p ||| 2 ^ p).testBit w = true ↔ _
    by_cases c : f p = 0
    · rw [if_pos c, ih]
      constructor
      · exact fun z => ⟨by omega, z.2⟩
      · intro z
        refine ⟨?_, z.2⟩
        rcases Nat.lt_or_ge w p with q | q
        · exact q
        · have : w = p := by omega
          subst this; exact absurd c z.2
    · rw [if_neg c, Nat.testBit_or, Bool.or_eq_true, ih, Nat.testBit_two_pow]
      simp only [decide_eq_true_eq]
      constructor
      · rintro (z | z)
        · exact ⟨by omega, z.2⟩
        · subst z; exact ⟨by omega, c⟩
      · intro z
        by_cases e : w = p
        · exact Or.inr e.symm
        · exact Or.inl ⟨by omega, z.2⟩
theorem zBits_lt {f : Nat → Int32} : ∀ n, n ≤ 8 → zBits f n < 256
  | 0, _ => by show (0 : Nat) < 256; decide
  | p + 1, hp => by
    have ih := zBits_lt (f := f) p (by omega)
    show (if f p = 0 then zBits f p else zBits f p ||| 2 ^ p) < 256
    split
    · exact ih
    · exact zB_lt _ ih p (by omega)
/-- a set of bits that tells the same -/
theorem zBits_eq {f : Nat → Int32} {n B : Nat} (h : ∀ w, B.testBit w = true ↔ w < n ∧ ¬ f w = 0) : B = zBits f n := Nat.eq_of_testBit_eq fun w => by
  have h1 := h w
  have h2 := zBits_bit (f := f) (w := w) n
  cases e : B.testBit w <;> cases e2 : (zBits f n).testBit w <;> simp_all
/-- where it is most risky: the reference's way -/
def zRiskR (D : Nat → Nat) (v f : Int32) (f0 : Nat) : Nat → Nat
  | 0 => f0
  | p + 1 => if zAbs (nI p - f) ≤ v ∧ D (zRiskR D v f f0 p) < D p then p else zRiskR D v f f0 p
theorem zRisk_eq {d : ab_M} {h : Nat} {sc : Nat → Nat} {v : Int32} {f0 : Nat} {D : Nat → Nat} (hD : ∀ p, p < 8 → D p = sc p * zAsk d 0 p h (sc p) 0 ∧ D p < 2 ^ 31) (hv : 0 ≤ v) (hf8 : f0 < 8) : ∀ n, n ≤ 8 →
    (∃ b mx : Nat, b < 8 ∧ zRiskR D v (nI f0) f0 n < 8 ∧ (zRiskF d h sc v (nI f0) n = (nI b, nI mx) ∨ (zRiskF d h sc v (nI f0) n = (nI b, -1) ∧ mx = 0 ∧ b = f0)) ∧ (mx ≤ D f0 → zRiskR D v (nI f0) f0 n = f0) ∧ (D f0 < mx → zRiskR D v (nI f0) f0 n = b ∧ D b = mx) ∧ (zRiskF d h sc v (nI f0) n = (nI b, nI mx) → mx < 2 ^ 31) ∧ (f0 < n → zRiskF d h sc v (nI f0) n = (nI b, nI mx) ∧ D f0 ≤ mx ∧ (mx = D f0 → b = f0)))
  | 0, _ => ⟨f0, 0, hf8, hf8, Or.inr ⟨rfl, rfl, rfl⟩, fun _ => rfl, fun z => absurd z (Nat.not_lt_zero _), fun _ => by decide, fun z => absurd z (Nat.not_lt_zero _)⟩
  | n + 1, hn => by
    obtain ⟨b, mx, hb, hr8, hF, h1, h2, h3, h4⟩ := zRisk_eq hD hv hf8 n (by omega)
    obtain ⟨d1, d2⟩ := hD n (by omega)
    have dr : D (zRiskR D v (nI f0) f0 n) = if mx ≤ D f0 then D f0 else mx := by
      by_cases c : mx ≤ D f0
      · rw [if_pos c, h1 c]
      · rw [if_neg c]
        obtain ⟨e1, e2⟩ := h2 (by omega)
        rw [e1, e2]
    show ∃ b mx : Nat, b < 8 ∧ (if zAbs (nI n - nI f0) ≤ v ∧ D (zRiskR D v (nI f0) f0 n) < D n then n else zRiskR D v (nI f0) f0 n) < 8 ∧ _
    by_cases c : zAbs (nI n - nI f0) ≤ v
    · have eF : zRiskF d h sc v (nI f0) (n + 1) = if ((zRiskF d h sc v (nI f0) n).2 < nI (D n) ∨ (nI (D n) = (zRiskF d h sc v (nI f0) n).2 ∧ nI n = nI f0)) then (nI n, nI (D n)) else zRiskF d h sc v (nI f0) n := by
        rw [zRiskF, if_pos c, d1]
      have eR : zRiskR D v (nI f0) f0 (n + 1) = if D (zRiskR D v (nI f0) f0 n) < D n then n else zRiskR D v (nI f0) f0 n := by
        show (if zAbs (nI n - nI f0) ≤ v ∧ D (zRiskR D v (nI f0) f0 n) < D n then n else zRiskR D v (nI f0) f0 n) = _
        by_cases q : D (zRiskR D v (nI f0) f0 n) < D n
        · rw [if_pos ⟨c, q⟩, if_pos q]
        · rw [if_neg (fun z => q z.2), if_neg q]
      have hnf : nI n = nI f0 ↔ n = f0 := nI_eq (by omega) (by omega)
      -- what the class takes
      have tk : ((zRiskF d h sc v (nI f0) n).2 < nI (D n) ∨ (nI (D n) = (zRiskF d h sc v (nI f0) n).2 ∧ nI n = nI f0)) ↔ ((zRiskF d h sc v (nI f0) n = (nI b, -1)) ∨ mx < D n ∨ (D n = mx ∧ n = f0)) := by
        rcases hF with e | ⟨e, e0, eb⟩
        · have hm := h3 e
          rw [e]
          have n1 : ¬ ((nI b, nI mx) : Int32 × Int32) = (nI b, -1) := fun z => by
            have : nI mx = -1 := congrArg Prod.snd z
            exact nI_m1 hm this
          constructor
          · rintro (z | ⟨z, z2⟩)
            · exact Or.inr (Or.inl ((nI_ltI hm d2).mp z))
            · exact Or.inr (Or.inr ⟨(nI_eq d2 hm).mp z, hnf.mp z2⟩)
          · rintro (z | z | ⟨z, z2⟩)
            · exact absurd z n1
            · exact Or.inl (nI_lt z d2)
            · exact Or.inr ⟨by rw [z], hnf.mpr z2⟩
        · rw [e]
          refine ⟨fun _ => Or.inl rfl, fun _ => Or.inl ?_⟩
          show (-1 : Int32) < nI (D n)
          exact Int32.lt_iff_toInt_lt.mpr (by rw [nI_toInt d2, show (-1 : Int32).toInt = -1 by decide]; omega)
      rw [eF, eR]
      have key : (if zAbs (nI n - nI f0) ≤ v ∧ D (zRiskR D v (nI f0) f0 n) < D n then n else zRiskR D v (nI f0) f0 n) = (if D (zRiskR D v (nI f0) f0 n) < D n then n else zRiskR D v (nI f0) f0 n) := by
        by_cases q : D (zRiskR D v (nI f0) f0 n) < D n
        · rw [if_pos ⟨c, q⟩, if_pos q]
        · rw [if_neg (fun z => q z.2), if_neg q]
      rw [key, dr]
      have r8 : ∀ (c : Prop) [Decidable c], (if c then n else zRiskR D v (nI f0) f0 n) < 8 := fun c _ => by
        split
        · omega
        · exact hr8
      by_cases t : ((zRiskF d h sc v (nI f0) n).2 < nI (D n) ∨ (nI (D n) = (zRiskF d h sc v (nI f0) n).2 ∧ nI n = nI f0))
      · rw [if_pos t]
        have t2 := tk.mp t
        refine ⟨n, D n, by omega, ?_, Or.inl rfl, fun z => ?_, fun z => ?_, fun _ => d2, fun z => ⟨rfl, ?_, ?_⟩⟩
        · exact r8 _
        · -- D n ≤ D f0
          by_cases q : mx ≤ D f0
          · rw [if_pos q, if_neg (by omega), h1 q]
          · rcases t2 with e | e | e
            · rcases hF with e2 | ⟨-, e2, -⟩
              · rw [e2] at e
                have : nI mx = -1 := congrArg Prod.snd e
                exact absurd this (nI_m1 (h3 e2))
              · omega
            · omega
            · obtain ⟨e1, e2⟩ := e
              rw [e2] at e1
              omega
        · by_cases q : mx ≤ D f0
          · rw [if_pos q, if_pos z]; exact ⟨rfl, rfl⟩
          · rw [if_neg q]
            rcases t2 with e | e | e
            · rcases hF with e2 | ⟨-, e2, -⟩
              · rw [e2] at e
                have : nI mx = -1 := congrArg Prod.snd e
                exact absurd this (nI_m1 (h3 e2))
              · omega
            · rw [if_pos e]; exact ⟨rfl, rfl⟩
            · obtain ⟨e1, e2⟩ := e
              rw [e2] at e1
              omega
        · by_cases e : n = f0
          · rw [e]; exact Nat.le_refl _
          · obtain ⟨e1, e2, e3⟩ := h4 (by omega)
            rcases t2 with e4 | e4 | e4
            · rw [e1] at e4
              have : nI mx = -1 := congrArg Prod.snd e4
              exact absurd this (nI_m1 (h3 e1))
            · omega
            · omega
        · intro e
          by_cases e0 : n = f0
          · exact e0
          · obtain ⟨e1, e2, e3⟩ := h4 (by omega)
            rcases t2 with e4 | e4 | e4
            · rw [e1] at e4
              have : nI mx = -1 := congrArg Prod.snd e4
              exact absurd this (nI_m1 (h3 e1))
            · omega
            · exact e4.2
      · rw [if_neg t]
        have t2 := fun z => t (tk.mpr z)
        have hF2 : zRiskF d h sc v (nI f0) n = (nI b, nI mx) := hF.elim id (fun e => absurd (Or.inl e.1) t2)
        have m1 : ¬ mx < D n := fun z => t2 (Or.inr (Or.inl z))
        have m2 : ¬ (D n = mx ∧ n = f0) := fun z => t2 (Or.inr (Or.inr z))
        refine ⟨b, mx, hb, ?_, Or.inl hF2, fun z => ?_, fun z => ?_, h3, fun z => ⟨hF2, ?_, ?_⟩⟩
        · exact r8 _
        · rw [if_pos z, if_neg (by omega)]; exact h1 z
        · rw [if_neg (show ¬ mx ≤ D f0 by omega), if_neg m1]; exact h2 z
        · by_cases e : n = f0
          · rw [e] at m1; omega
          · exact (h4 (by omega)).2.1
        · intro e
          by_cases e0 : n = f0
          · rw [e0] at m2; exact absurd ⟨e.symm, rfl⟩ m2
          · exact (h4 (by omega)).2.2 e
    · have eF : zRiskF d h sc v (nI f0) (n + 1) = zRiskF d h sc v (nI f0) n := by rw [zRiskF, if_neg c]
      have eR : zRiskR D v (nI f0) f0 (n + 1) = zRiskR D v (nI f0) f0 n := by
        show (if zAbs (nI n - nI f0) ≤ v ∧ D (zRiskR D v (nI f0) f0 n) < D n then n else zRiskR D v (nI f0) f0 n) = _
        rw [if_neg (fun z => c z.1)]
      have hne : ¬ n = f0 := fun z => c (by
        rw [z, pk_sub (Nat.le_refl _), Nat.sub_self]
        exact hv)
      rw [eF, eR, if_neg (fun z => c z.1)]
      exact ⟨b, mx, hb, hr8, hF, h1, h2, h3, fun z => h4 (by omega)⟩
theorem zRisk_end {d : ab_M} {h : Nat} {sc : Nat → Nat} {v : Int32} {f0 n : Nat} {D : Nat → Nat} (hD : ∀ p, p < 8 → D p = sc p * zAsk d 0 p h (sc p) 0 ∧ D p < 2 ^ 31) (hv : 0 ≤ v) (hf : f0 < n) (hn : n ≤ 8) : (zRiskF d h sc v (nI f0) n).1 = nI (zRiskR D v (nI f0) f0 n) ∧ zRiskR D v (nI f0) f0 n < 8 := by
  obtain ⟨b, mx, hb, hr, hF, h1, h2, h3, h4⟩ := zRisk_eq hD hv (show f0 < 8 by omega) n hn
  obtain ⟨e1, e2, e3⟩ := h4 hf
  refine ⟨?_, hr⟩
  rw [e1]
  show nI b = _
  by_cases c : mx ≤ D f0
  · rw [h1 c, e3 (by omega)]
  · rw [(h2 (by omega)).1]
