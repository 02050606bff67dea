/-! all harm is not too much *)
-/
def zSm (F : Nat → Nat) : Nat → Nat
  | 0 => F 0
  | n + 1 => zSm F n + F (n + 1)
theorem zSm_le {F : Nat → Nat} : ∀ (b : Nat) {j : Nat}, j ≤ b → F j ≤ zSm F b
  | 0, j, h => by
    have : j = 0 := by omega
    subst this
    exact Nat.le_refl _
  | b + 1, j, h => by
    unfold zSm
    by_cases e : j = b + 1
    · rw [e]; omega
    · have := zSm_le (F := F) b (j := j) (by omega)
      omega
theorem zSm_up0 {F : Nat → Nat} {k v : Nat} : ∀ b, b < k → zSm (zUp F k v) b = zSm F b
  | 0, h => by show zUp F k v 0 = F 0; unfold zUp; rw [if_neg (by omega)]
  | b + 1, h => by
    unfold zSm
    rw [zSm_up0 b (by omega)]
    congr 1
    unfold zUp
    rw [if_neg (by omega)]
theorem zSm_up {F : Nat → Nat} {k v : Nat} : ∀ b, k ≤ b → zSm (zUp F k v) b + F k = zSm F b + v
  | 0, h => by
    have : k = 0 := by omega
    subst this
    show zUp F 0 v 0 + F 0 = F 0 + v
    unfold zUp
    rw [if_pos rfl, Nat.add_comm]
  | b + 1, h => by
    unfold zSm
    by_cases e : k = b + 1
    · subst e
      rw [zSm_up0 b (by omega)]
      have : zUp F (b + 1) v (b + 1) = v := by unfold zUp; rw [if_pos rfl]
      rw [this]
      omega
    · have ih := zSm_up (F := F) (k := k) (v := v) b (by omega)
      have : zUp F k v (b + 1) = F (b + 1) := by unfold zUp; rw [if_neg (fun z => e z.symm)]
      rw [this]
      omega
theorem zClamp_m {m x : Int32} (hm : 0 ≤ m) : zClamp m x ≤ m := by unfold zClamp; grind
theorem zAsk_100 (d : ab_M) (p h st pc : Nat) : zAsk d 1 p h st pc ≤ 100 := by
  unfold zAsk zAskN
  obtain ⟨a, b⟩ := zClamp_n 1 (by decide) (zVal d 1 (zNm d p h (zIs d 1 p st) (if 1 = 1 then pc else 0)))
  have c := zClamp_m (m := zs_MOST_OF_THING 1) (x := zVal d 1 (zNm d p h (zIs d 1 p st) (if 1 = 1 then pc else 0))) (by decide)
  rw [a] at c
  exact (nI_leI (b := 100) (by omega) (by decide)).mp c
def zCons (b B : Nat) (s : zRs) : Prop := ∃ (F : Nat → Nat) (H : Nat), (∀ j, j ≤ b → s.1 j = lN (F j)) ∧ zSm F b = 1000000000 ∧ s.2.1 = lN H ∧ H ≤ B
theorem zCons_mono {b B B2 : Nat} {s : zRs} (h : zCons b B s) (hB : B ≤ B2) : zCons b B2 s := by
  obtain ⟨F, H, h1, h2, h3, h4⟩ := h
  exact ⟨F, H, h1, h2, h3, Nat.le_trans h4 hB⟩
theorem zCons_look1 {d : ab_M} {p h pc st b B : Nat} (h1 : 1 ≤ st) (hb : st < b) : ∀ (f : Nat → Int64) (ha fo : Int64), zCons b B (f, ha, fo) → zCons b (B + 999000000000) (zLook1 d p h pc st (f, ha, fo)) := by
  rintro f ha fo ⟨F, H, hF, hS, hH, hB⟩
  dsimp only at hF hH
  have a1 := zAsk_100 d p h st pc
  have a2 := zAsk_le d (show 2 < 3 by decide) p h st 0
  have l1 := zSm_le (F := F) b (j := st) (by omega)
  generalize ek1 : zAsk d 1 p h st pc = x at a1
  generalize ek2 : zAsk d 2 p h st 0 = y at a2
  have m1 : F st * x ≤ 1000000000 * 100 := Nat.mul_le_mul (by omega) a1
  have kle : F st * x / 100 ≤ F st := by
    have : F st * x ≤ F st * 100 := Nat.mul_le_mul_left _ a1
    omega
  have hs : f st * lN x / 100 = lN (F st * x / 100) := by
    rw [hF st (by omega), lN_mul, show (100 : Int64) = lN 100 from rfl, pk_lDiv (by omega) (by decide) (by decide)]
  generalize F st * x / 100 = k at hs kle
  have m2 : k * y ≤ 1000000000 * 999 := Nat.mul_le_mul (by omega) a2
  unfold zLook1
  dsimp only
  rw [ek1, ek2, hs]
  refine ⟨zUp (zUp F st (F st - k)) 0 (F 0 + k), H + k * y, fun j hj => ?_, ?_, ?_, by omega⟩
  · show vp_updL (vp_updL f st (f st - lN k)) 0 (vp_updL f st (f st - lN k) 0 + lN k) j = _
    unfold zUp
    by_cases e0 : j = 0
    · subst e0
      rw [updL_eq, updL_ne _ _ (by omega), if_pos rfl, hF 0 (by omega), lN_add]
    · rw [updL_ne _ _ e0, if_neg e0]
      by_cases e1 : j = st
      · subst e1
        rw [updL_eq, if_pos rfl, hF j (by omega), lN_sub kle]
      · rw [updL_ne _ _ e1, if_neg e1, hF j hj]
  · have s1 := zSm_up (F := F) (k := st) (v := F st - k) b (by omega)
    have s2 := zSm_up (F := zUp F st (F st - k)) (k := 0) (v := F 0 + k) b (by omega)
    have e0 : zUp F st (F st - k) 0 = F 0 := by unfold zUp; rw [if_neg (by omega)]
    rw [e0] at s2
    omega
  · show ha + lN k * lN y = _
    rw [hH, lN_mul, lN_add]
theorem zCons_look {d : ab_M} {p h pc b B : Nat} {s : zRs} (hs : zCons b B s) : ∀ n, n < b → zCons b (B + n * 999000000000) (zLook d p h pc n s)
  | 0, _ => by
    show zCons b (B + 0 * 999000000000) s
    exact zCons_mono hs (by omega)
  | n + 1, hn => by
    have ih := zCons_look (d := d) (p := p) (h := h) (pc := pc) hs n (by omega)
    show zCons b _ (zLook1 d p h pc (n + 1) (zLook d p h pc n s))
    generalize zLook d p h pc n s = t at ih
    obtain ⟨f, ha, fo⟩ := t
    exact zCons_mono (zCons_look1 (by omega) (by omega) f ha fo ih) (by omega)
theorem zCons_looks {d : ab_M} {p h B : Nat} {lk : Int32} {s : zRs} (b2 : 2 ≤ zBrk d) (b6 : zBrk d ≤ 6) (hs : zCons (zBrk d) B s) : ∀ n, zCons (zBrk d) (B + n * 4995000000000) (zLooks d p h lk n s)
  | 0 => by
    show zCons (zBrk d) (B + 0 * 4995000000000) s
    exact zCons_mono hs (by omega)
  | n + 1 => by
    have ih := zCons_looks (d := d) (p := p) (h := h) (lk := lk) b2 b6 hs n
    unfold zLooks
    split
    · exact zCons_mono (zCons_look ih (zBrk d - 1) (by omega)) (by omega)
    · exact zCons_mono ih (by omega)
def zGrF (F : Nat → Nat) (b k : Nat) : Nat → Nat := fun j => if j = 0 then F 0 - k else if j = 1 then k else if j < b then F (j - 1) else F b + F (b - 1)
theorem zGrF_s {F : Nat → Nat} {b k : Nat} (b2 : 2 ≤ b) (b6 : b ≤ 6) (hk : k ≤ F 0) : zSm (zGrF F b k) b = zSm F b := by
  rcases (show b = 2 ∨ b = 3 ∨ b = 4 ∨ b = 5 ∨ b = 6 by omega) with rfl | rfl | rfl | rfl | rfl <;> (simp [zSm, zGrF]; omega)
theorem zCons_grow {d : ab_M} {p h sc B : Nat} (b2 : 2 ≤ zBrk d) (b6 : zBrk d ≤ 6) : ∀ (f : Nat → Int64) (ha fo : Int64), zCons (zBrk d) B (f, ha, fo) → zCons (zBrk d) (B + 999000000000) (zGrow d p h sc (f, ha, fo)) := by
  rintro f ha fo ⟨F, H, hF, hS, hH, hB⟩
  dsimp only at hF hH
  have a1 := zAsk_le d (show 0 < 3 by decide) p h sc 0
  have a2 := zAsk_le d (show 2 < 3 by decide) p h (zBrk d) 0
  have l0 := zSm_le (F := F) (zBrk d) (j := 0) (by omega)
  have l1 := zSm_le (F := F) (zBrk d) (j := zBrk d - 1) (by omega)
  unfold zGrow
  dsimp only
  generalize ek1 : zAsk d 0 p h sc 0 = x at a1
  generalize ek2 : zAsk d 2 p h (zBrk d) 0 = y at a2
  generalize zBrk d = b at *
  have e0 : zShift (vp_updL f b (f b + f (b - 1))) b 0 = lN (F 0) := by
    unfold zShift
    rw [if_neg (by omega), updL_ne _ _ (by omega), hF 0 (by omega)]
  have m1 : F 0 * x ≤ 1000000000 * 999 := Nat.mul_le_mul (by omega) a1
  have kle : F 0 * x / 1000 ≤ F 0 := by
    have : F 0 * x ≤ F 0 * 1000 := Nat.mul_le_mul_left _ (by omega)
    omega
  have hs : zShift (vp_updL f b (f b + f (b - 1))) b 0 * lN x / 1000 = lN (F 0 * x / 1000) := by
    rw [e0, lN_mul, show (1000 : Int64) = lN 1000 from rfl, pk_lDiv (by omega) (by decide) (by decide)]
  have m2 : F (b - 1) * y ≤ 1000000000 * 999 := Nat.mul_le_mul (by omega) a2
  rw [hs]
  generalize F 0 * x / 1000 = k at kle
  refine ⟨zGrF F b k, H + F (b - 1) * y, fun j hj => ?_, by rw [zGrF_s b2 b6 kle]; exact hS, ?_, by omega⟩
  · dsimp only
    unfold zGrF
    by_cases c0 : j = 0
    · subst c0
      rw [updL_eq, updL_ne _ _ (by omega), if_pos rfl, e0, lN_sub kle]
    · rw [updL_ne _ _ c0, if_neg c0]
      by_cases c1 : j = 1
      · subst c1
        rw [updL_eq, if_pos rfl]
      · rw [updL_ne _ _ c1, if_neg c1]
        unfold zShift
        by_cases c2 : j < b
        · rw [if_pos (by omega), if_pos c2, updL_ne _ _ (by omega), hF _ (by omega)]
        · have : j = b := by omega
          subst this
          rw [if_neg (by omega), if_neg c2, updL_eq, hF j (by omega), hF _ (by omega), lN_add]
  · dsimp only
    rw [hH, hF _ (by omega), lN_mul, lN_add]
theorem zSm_0 : ∀ b, zSm (fun j => if j = 0 then 1000000000 else 0) b = 1000000000
  | 0 => rfl
  | b + 1 => by
    unfold zSm
    rw [zSm_0 b, if_neg (by omega)]
theorem zCons_rk {d : ab_M} {p : Nat} (b2 : 2 ≤ zBrk d) (b6 : zBrk d ≤ 6) : ∀ h, zCons (zBrk d) (h * 40959000000000) (zRk d p h)
  | 0 => ⟨fun j => if j = 0 then 1000000000 else 0, 0, fun j _ => by
      show (if j = 0 then (1000000000 : Int64) else 0) = lN (if j = 0 then 1000000000 else 0)
      by_cases c : j = 0
      · rw [if_pos c, if_pos c]; rfl
      · rw [if_neg c, if_neg c]; rfl, zSm_0 _, rfl, by omega⟩
  | h + 1 => by
    have ih := zCons_rk (d := d) (p := p) b2 b6 h
    show zCons (zBrk d) _ (zLooks d p h ((zWk d h).2.2.2 p) 8 (zGrow d p h (zSc d h p) (zRk d p h)))
    generalize zRk d p h = t at ih
    obtain ⟨f, ha, fo⟩ := t
    exact zCons_mono (zCons_looks b2 b6 (zCons_grow b2 b6 f ha fo ih) 8) (by omega)
theorem zBd_rk {d : ab_M} {p : Nat} (b2 : 2 ≤ zBrk d) (b6 : zBrk d ≤ 6) (h : Nat) : (∃ x, x ≤ 1000000000 ∧ (zRk d p h).1 (zBrk d) = lN x) ∧ ∃ H, H ≤ h * 40959000000000 ∧ (zRk d p h).2.1 = lN H := by
  obtain ⟨F, H, h1, h2, h3, h4⟩ := zCons_rk (d := d) (p := p) b2 b6 h
  refine ⟨⟨F (zBrk d), ?_, h1 _ (Nat.le_refl _)⟩, H, h4, h3⟩
  have := zSm_le (F := F) (zBrk d) (Nat.le_refl _)
  omega
theorem zBd_sum {d : ab_M} (b2 : 2 ≤ zBrk d) (b6 : zBrk d ≤ 6) (h12 : zHrs d ≤ 12) : ∀ n, ∃ K, K ≤ n * 491508000000000 ∧ zSum d 0 n = lN K
  | 0 => ⟨0, by omega, rfl⟩
  | n + 1 => by
    obtain ⟨K, k1, k2⟩ := zBd_sum (d := d) b2 b6 h12 n
    obtain ⟨-, H, h1, h2⟩ := zBd_rk (d := d) (p := n) b2 b6 (zHrs d)
    refine ⟨K + H, ?_, ?_⟩
    · have : zHrs d * 40959000000000 ≤ 12 * 40959000000000 := Nat.mul_le_mul_right _ h12
      omega
    · show zSum d 0 n + zTold d (zRk d n (zHrs d)) 0 = _
      rw [k2, show zTold d (zRk d n (zHrs d)) 0 = (zRk d n (zHrs d)).2.1 from rfl, h2, lN_add]
/-- all harm, below the bound beyond -/
theorem zAll_bd {d : ab_M} (h : zI0 d) : ∃ K, K ≤ 4000000000000000 ∧ zAll d = lN K := by
  obtain ⟨-, b6, b2⟩ := zB_eq h
  obtain ⟨-, h12⟩ := zH_eq h
  obtain ⟨-, p8⟩ := zP_eq h
  obtain ⟨K, k1, k2⟩ := zBd_sum (d := d) b2 b6 h12 (zPcs d)
  have : zPcs d * 491508000000000 ≤ 8 * 491508000000000 := Nat.mul_le_mul_right _ p8
  exact ⟨K, by omega, k2⟩
theorem zAll_lt {d : ab_M} (h : zI0 d) : zAll d < 1000000000000000000 := by
  obtain ⟨K, k1, k2⟩ := zAll_bd h
  rw [k2, show (1000000000000000000 : Int64) = lN 1000000000000000000 from rfl]
  exact (pk_lLT (by omega) (by decide)).mpr (by omega)
