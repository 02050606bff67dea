/-! the world of the cells, the locals -/
def ab_c (ad : Nat → Nat) : Value → Value
  | .ref k => .ref (ad k)
  | v => v
theorem ab_c_cat (ad : Nat → Nat) (v : Value) : (ab_c ad v).category = v.category := by cases v <;> rfl
def ab_f (ad : Nat → Nat) (M : ab_M) (N : ab_N) (k j : Nat) : Nat ⊕ FieldType → Value
  | .inl t => .ref (ad t)
  | .inr .long => .long (N k j)
  | .inr _ => .int (M k j)
def ab_e (ad : Nat → Nat) (cy : FieldType → ClassId) (M : ab_M) (N : ab_N) (k : Nat) : ab_L → va_E
  | .inl (ci, fs) => .inr (ci, fs.mapIdx (ab_f ad M N k))
  | .inr (.long, n) => .inl (cy .long, n, .inr (.inl (N k)))
  | .inr (ty, n) => .inl (cy ty, n, .inl (M k))
def ab_w (Λ : List ab_L) (ad : Nat → Nat) (cy : FieldType → ClassId) (M : ab_M) (N : ab_N) : va_W := Λ.mapIdx (fun k c => (ad k, ab_e ad cy M N k c))
theorem ab_w_at {Λ : List ab_L} {ad : Nat → Nat} {cy : FieldType → ClassId} {M : ab_M} {N : ab_N} {k : Nat} {c : ab_L} (h : Λ[k]? = some c) : (ab_w Λ ad cy M N)[k]? = some (ad k, ab_e ad cy M N k c) := by
  simp [ab_w, List.getElem?_mapIdx, h]
theorem ab_u_eq {α : Type} (M : Nat → Nat → α) (k : Nat) (f : Nat → α) : ab_u M k f k = f := by
  unfold ab_u; rw [Nat.beq_refl]
theorem ab_u_ne {α : Type} (M : Nat → Nat → α) {k j : Nat} (f : Nat → α) (h : j ≠ k) : ab_u M k f j = M j := by
  unfold ab_u
  cases e : Nat.beq j k with
  | true => exact absurd (Nat.eq_of_beq_eq_true e) h
  | false => rfl
theorem ab_f_congr {ad : Nat → Nat} {M M2 : ab_M} {N N2 : ab_N} {k : Nat} (h1 : M k = M2 k) (h2 : N k = N2 k) : ab_f ad M N k = ab_f ad M2 N2 k := by
  funext j x
  unfold ab_f
  split
  · rfl
  · rw [h2]
  · rw [h1]
theorem ab_e_congr {ad : Nat → Nat} {cy : FieldType → ClassId} {M M2 : ab_M} {N N2 : ab_N} {k : Nat} (h1 : M k = M2 k) (h2 : N k = N2 k) (c : ab_L) : ab_e ad cy M N k c = ab_e ad cy M2 N2 k c := by
  unfold ab_e
  split
  · rw [ab_f_congr h1 h2]
  · rw [h2]
  · rw [h1]
theorem ab_w_upd {Λ : List ab_L} {ad : Nat → Nat} {cy : FieldType → ClassId} {M M2 : ab_M} {N N2 : ab_N} {k : Nat} {c : ab_L} {e : va_E} (h : Λ[k]? = some c) (h1 : ∀ j, j ≠ k → M2 j = M j) (h2 : ∀ j, j ≠ k → N2 j = N j) (he : e = ab_e ad cy M2 N2 k c) : (ab_w Λ ad cy M N).set k (ad k, e) = ab_w Λ ad cy M2 N2 := by
  subst he
  have hk : k < Λ.length := (List.getElem?_eq_some_iff.mp h).1
  apply List.ext_getElem?
  intro j
  rw [List.getElem?_set]
  by_cases hj : k = j
  · subst hj
    rw [if_pos rfl, ab_w_at h, if_pos]
    simp [ab_w]
    exact hk
  · rw [if_neg hj]
    simp only [ab_w, List.getElem?_mapIdx]
    cases hc : Λ[j]? with
    | none => rfl
    | some c2 => simp only [Option.map_some, ab_e_congr (ad := ad) (cy := cy) (h1 j (fun q => hj q.symm)) (h2 j (fun q => hj q.symm)) c2]
theorem ab_e_arr {ad : Nat → Nat} {cy : FieldType → ClassId} {M : ab_M} {N : ab_N} {k n : Nat} {ty : FieldType} (h : ty ≠ .long) : ab_e ad cy M N k (.inr (ty, n)) = .inl (cy ty, n, .inl (M k)) := by
  cases ty <;> first | rfl | exact absurd rfl h
theorem ab_w_I {Λ : List ab_L} {ad : Nat → Nat} {cy : FieldType → ClassId} {M : ab_M} {N : ab_N} {k n : Nat} {ty : FieldType} (h : Λ[k]? = some (.inr (ty, n))) (ht : ty ≠ .long) (f : Nat → Int32) : (ab_w Λ ad cy M N).set k (ad k, .inl (cy ty, n, .inl f)) = ab_w Λ ad cy (ab_u M k f) N :=
  ab_w_upd h (fun j hj => ab_u_ne M f hj) (fun _ _ => rfl) (by rw [ab_e_arr ht, ab_u_eq])
theorem ab_w_J {Λ : List ab_L} {ad : Nat → Nat} {cy : FieldType → ClassId} {M : ab_M} {N : ab_N} {k n : Nat} (h : Λ[k]? = some (.inr (.long, n))) (f : Nat → Int64) : (ab_w Λ ad cy M N).set k (ad k, .inl (cy .long, n, .inr (.inl f))) = ab_w Λ ad cy M (ab_u N k f) :=
  ab_w_upd h (fun _ _ => rfl) (fun j hj => ab_u_ne N f hj) (by show _ = Sum.inl (cy .long, n, Sum.inr (Sum.inl (ab_u N k f k))); rw [ab_u_eq])
theorem ab_f_int {ad : Nat → Nat} {M : ab_M} {N : ab_N} {k j : Nat} {ty : FieldType} (h : ty ≠ .long) : ab_f ad M N k j (.inr ty) = .int (M k j) := by
  cases ty <;> first | rfl | exact absurd rfl h
theorem ab_w_O {Λ : List ab_L} {ad : Nat → Nat} {cy : FieldType → ClassId} {M : ab_M} {N : ab_N} {k j ci : Nat} {fs : List (Nat ⊕ FieldType)} {ty : FieldType} (h : Λ[k]? = some (.inl (ci, fs))) (hj : fs[j]? = some (.inr ty)) (ht : ty ≠ .long) (x : Int32) : (ab_w Λ ad cy M N).set k (ad k, .inr (ci, (fs.mapIdx (ab_f ad M N k)).set j (.int x))) = ab_w Λ ad cy (ab_u M k (upd (M k) j x)) N := by
  refine ab_w_upd h (fun j hj => ab_u_ne M _ hj) (fun _ _ => rfl) ?_
  show _ = Sum.inr (ci, fs.mapIdx (ab_f ad (ab_u M k (upd (M k) j x)) N k))
  congr 2
  apply List.ext_getElem?
  intro i
  rw [List.getElem?_set, List.getElem?_mapIdx, List.length_mapIdx]
  have hl : j < fs.length := (List.getElem?_eq_some_iff.mp hj).1
  by_cases e : j = i
  · subst e
    rw [if_pos rfl, if_pos hl, List.getElem?_mapIdx, hj]
    simp only [Option.map_some, ab_f_int ht, ab_u_eq, upd, if_pos]
  · rw [if_neg e, List.getElem?_mapIdx]
    cases hc : fs[i]? with
    | none => rfl
    | some c2 =>
      simp only [Option.map_some]
      congr 1
      unfold ab_f
      split
      · rfl
      · rfl
      · rw [ab_u_eq]; simp only [upd, if_neg (fun q : i = j => e q.symm)]
theorem ab_w_OJ {Λ : List ab_L} {ad : Nat → Nat} {cy : FieldType → ClassId} {M : ab_M} {N : ab_N} {k j ci : Nat} {fs : List (Nat ⊕ FieldType)} (h : Λ[k]? = some (.inl (ci, fs))) (hj : fs[j]? = some (.inr .long)) (x : Int64) : (ab_w Λ ad cy M N).set k (ad k, .inr (ci, (fs.mapIdx (ab_f ad M N k)).set j (.long x))) = ab_w Λ ad cy M (ab_u N k (vp_updL (N k) j x)) := by
  refine ab_w_upd h (fun _ _ => rfl) (fun j hj => ab_u_ne N _ hj) ?_
  show _ = Sum.inr (ci, fs.mapIdx (ab_f ad M (ab_u N k (vp_updL (N k) j x)) k))
  congr 2
  apply List.ext_getElem?
  intro i
  rw [List.getElem?_set, List.getElem?_mapIdx, List.length_mapIdx]
  have hl : j < fs.length := (List.getElem?_eq_some_iff.mp hj).1
  by_cases e : j = i
  · subst e
    rw [if_pos rfl, if_pos hl, List.getElem?_mapIdx, hj]
    simp only [Option.map_some, ab_f, ab_u_eq, vp_updL, if_pos]
  · rw [if_neg e, List.getElem?_mapIdx]
    cases hc : fs[i]? with
    | none => rfl
    | some c2 =>
      simp only [Option.map_some]
      congr 1
      unfold ab_f
      split
      · rfl
      · rw [ab_u_eq]; simp only [vp_updL, if_neg (fun q : i = j => e q.symm)]
      · rfl
theorem ab_w_D {Λ : List ab_L} {ad : Nat → Nat} {cy : FieldType → ClassId} {A : Nat → Prop} (hi : ∀ i j, i < Λ.length → j < Λ.length → ad i = ad j → i = j) (hA : ∀ k, k < Λ.length → A (ad k)) (M : ab_M) (N : ab_N) : va_D A (ab_w Λ ad cy M N) := by
  have key : ∀ (k : Nat) (q : Nat × va_E), (ab_w Λ ad cy M N)[k]? = some q → k < Λ.length ∧ q.1 = ad k := by
    intro k q h
    simp only [ab_w, List.getElem?_mapIdx] at h
    cases hc : Λ[k]? with
    | none => rw [hc] at h; cases h
    | some c =>
      rw [hc] at h
      cases h
      exact ⟨(List.getElem?_eq_some_iff.mp hc).1, rfl⟩
  refine ⟨fun i j p q h1 h2 h3 => ?_, fun k q h => ?_⟩
  · obtain ⟨a1, a2⟩ := key i p h1
    obtain ⟨b1, b2⟩ := key j q h2
    exact hi i j a1 b1 (by rw [← a2, ← b2]; exact h3)
  · obtain ⟨a1, a2⟩ := key k q h
    rw [a2]
    exact hA k a1
/-! locals -/
def ab_lv (ad : Nat → Nat) : Nat → List (Option Value) → List (Nat × Value)
  | _, [] => []
  | i, some v :: r => (i, ab_c ad v) :: ab_lv ad (i + 1) r
  | i, none :: r => ab_lv ad (i + 1) r
theorem ab_lv_mem (ad : Nat → Nat) : ∀ (ls : List (Option Value)) (i : Nat) (q : Nat × Value), q ∈ ab_lv ad i ls ↔ ∃ (j : Nat) (v : Value), ab_g ls j = some v ∧ q = (i + j, ab_c ad v)
  | [], i, q => by simp [ab_lv, ab_g]
  | some w :: r, i, q => by
    simp only [ab_lv, List.mem_cons, ab_lv_mem ad r (i + 1) q]
    constructor
    · rintro (rfl | ⟨j, v, h1, rfl⟩)
      · exact ⟨0, w, rfl, rfl⟩
      · exact ⟨j + 1, v, h1, by rw [Nat.add_right_comm, Nat.add_assoc]⟩
    · rintro ⟨j, v, h1, rfl⟩
      cases j with
      | zero => cases h1; exact Or.inl rfl
      | succ j => exact Or.inr ⟨j, v, h1, by rw [Nat.add_right_comm, Nat.add_assoc]⟩
  | none :: r, i, q => by
    simp only [ab_lv, ab_lv_mem ad r (i + 1) q]
    constructor
    · rintro ⟨j, v, h1, rfl⟩
      exact ⟨j + 1, v, h1, by rw [Nat.add_right_comm, Nat.add_assoc]⟩
    · rintro ⟨j, v, h1, rfl⟩
      cases j with
      | zero => cases h1
      | succ j => exact ⟨j, v, h1, by rw [Nat.add_right_comm, Nat.add_assoc]⟩
def ab_lh (ad : Nat → Nat) (lsC : Array Slot) (nL : Nat) (ls : List (Option Value)) : Prop := lv_has lsC nL (ab_lv ad 0 ls)
theorem ab_lh_mono {ad : Nat → Nat} {lsC : Array Slot} {nL : Nat} {l : List (Nat × Value)} {ls : List (Option Value)} (h : lv_has lsC nL l) (hm : ∀ (j : Nat) (v : Value), ab_g ls j = some v → (j, ab_c ad v) ∈ l) : ab_lh ad lsC nL ls := by
  refine ⟨h.1, h.2.1, fun q hq => h.2.2 q ?_⟩
  obtain ⟨j, v, h1, rfl⟩ := (ab_lv_mem ad ls 0 q).mp hq
  rw [Nat.zero_add]
  exact hm j v h1
theorem ab_lh_in {ad : Nat → Nat} {ls : List (Option Value)} {j : Nat} {v : Value} (h : ab_g ls j = some v) : (j, ab_c ad v) ∈ ab_lv ad 0 ls := (ab_lv_mem ad ls 0 _).mpr ⟨j, v, h, by rw [Nat.zero_add]⟩
theorem ab_lh_le {ad : Nat → Nat} {lsC : Array Slot} {nL : Nat} {a b : List (Option Value)} (hab : ab_Le a b) (h : ab_lh ad lsC nL b) : ab_lh ad lsC nL a := ab_lh_mono h (fun j v h1 => ab_lh_in (hab j v h1))
theorem ab_lh_at {ad : Nat → Nat} {lsC : Array Slot} {nL : Nat} {a : List (Option Value)} {i : Nat} {v : Value} (h : ab_lh ad lsC nL a) (hg : ab_g a i = some v) : lsC[i]? = some (.val (ab_c ad v)) := h.2.2 (i, ab_c ad v) (ab_lh_in hg)
theorem ab_g_nil (j : Nat) : ab_g [] j = none := by cases j <;> rfl
theorem ab_g_p : ∀ (ls : List (Option Value)) (i : Nat) (v : Option Value) (j : Nat), ab_g (ab_p ls i v) j = if j = i then v else ab_g ls j
  | [], 0, v, 0 => rfl
  | [], 0, v, j + 1 => by simp [ab_p, ab_g, ab_g_nil]
  | [], i + 1, v, 0 => by simp [ab_p, ab_g]
  | [], i + 1, v, j + 1 => by simp [ab_p, ab_g, ab_g_p [] i v j, ab_g_nil]
  | x :: r, 0, v, 0 => rfl
  | x :: r, 0, v, j + 1 => by simp [ab_p, ab_g]
  | x :: r, i + 1, v, 0 => by simp [ab_p, ab_g]
  | x :: r, i + 1, v, j + 1 => by simp [ab_p, ab_g, ab_g_p r i v j]
theorem ab_g_kl (ls : List (Option Value)) (i j : Nat) (v : Value) (h : ab_g (ab_kl ls i) j = some v) : ab_g ls j = some v ∧ ¬ (j + 1 = i ∧ v.category = 2) := by
  cases i with
  | zero => exact ⟨h, fun q => by omega⟩
  | succ n =>
    unfold ab_kl at h
    dsimp only at h
    have fin : ∀ hh : ab_g (ab_p ls n none) j = some v, ab_g ls j = some v ∧ ¬ (j + 1 = n + 1 ∧ v.category = 2) := by
      intro hh
      rw [ab_g_p] at hh
      by_cases e : j = n
      · rw [if_pos e] at hh; cases hh
      · rw [if_neg e] at hh; exact ⟨hh, fun q => e (by omega)⟩
    have oth : ab_g ls j = some v → (∀ w, ab_g ls n = some w → w.category = 1) → ab_g ls j = some v ∧ ¬ (j + 1 = n + 1 ∧ v.category = 2) := by
      intro hh hc
      refine ⟨hh, fun q => ?_⟩
      have e : j = n := by omega
      subst e
      have := hc v hh
      omega
    cases hg : ab_g ls n with
    | none =>
      rw [hg] at h
      exact oth h (fun w hw => by rw [hg] at hw; cases hw)
    | some w =>
      rw [hg] at h
      cases w with
      | long x => exact fin h
      | double x => exact fin h
      | _ => exact oth h (fun w hw => by rw [hg] at hw; cases hw; rfl)
theorem ab_lh_s1 {ad : Nat → Nat} {lsC : Array Slot} {nL i : Nat} {a : List (Option Value)} {v : Value} (h : lv_has lsC nL ((i, ab_c ad v) :: (ab_lv ad 0 a).filter (fun q => !(q.1 == i) && !(q.1 + 1 == i && q.2.category == 2)))) : ab_lh ad lsC nL (ab_p (ab_kl a i) i (some v)) := by
  refine ab_lh_mono h (fun j w hw => ?_)
  rw [ab_g_p] at hw
  by_cases e : j = i
  · rw [if_pos e] at hw
    cases hw
    rw [e]
    exact List.mem_cons_self
  · rw [if_neg e] at hw
    obtain ⟨h1, h2⟩ := ab_g_kl a i j w hw
    refine List.mem_cons_of_mem _ (List.mem_filter.mpr ⟨ab_lh_in h1, ?_⟩)
    have e2 : (j == i) = false := by simpa using e
    simp only [e2, Bool.not_false, Bool.true_and, Bool.not_eq_true', Bool.and_eq_false_imp, beq_iff_eq, ab_c_cat]
    intro q
    simpa using fun z => h2 ⟨q, z⟩
theorem ab_lh_s2 {ad : Nat → Nat} {lsC : Array Slot} {nL i : Nat} {a : List (Option Value)} {v : Value} (h : lv_has lsC nL ((i, ab_c ad v) :: (ab_lv ad 0 a).filter (fun q => !(q.1 == i) && (!(q.1 == i + 1) && !(q.1 + 1 == i && q.2.category == 2))))) : ab_lh ad lsC nL (ab_p (ab_p (ab_kl a i) i (some v)) (i + 1) none) := by
  refine ab_lh_mono h (fun j w hw => ?_)
  rw [ab_g_p] at hw
  by_cases e1 : j = i + 1
  · rw [if_pos e1] at hw; cases hw
  rw [if_neg e1, ab_g_p] at hw
  by_cases e : j = i
  · rw [if_pos e] at hw
    cases hw
    rw [e]
    exact List.mem_cons_self
  · rw [if_neg e] at hw
    obtain ⟨h1, h2⟩ := ab_g_kl a i j w hw
    refine List.mem_cons_of_mem _ (List.mem_filter.mpr ⟨ab_lh_in h1, ?_⟩)
    have e2 : (j == i) = false := by simpa using e
    have e3 : (j == i + 1) = false := by simpa using e1
    simp only [e2, e3, Bool.not_false, Bool.true_and, Bool.not_eq_true', Bool.and_eq_false_imp, beq_iff_eq, ab_c_cat]
    intro q
    simpa using fun z => h2 ⟨q, z⟩
/-- the locals at the entry -/
def ab_en : List Value → List (Option Value)
  | [] => []
  | v :: r => match Nat.beq v.category 2 with
    | true => some v :: none :: ab_en r
    | false => some v :: ab_en r
theorem ab_en_in (ad : Nat → Nat) : ∀ (as : List Value) (i j : Nat) (v : Value), ab_g (ab_en as) j = some v → (i + j, ab_c ad v) ∈ lv_args i (as.map (ab_c ad))
  | [], i, j, v, h => by simp [ab_en, ab_g_nil] at h
  | w :: r, i, j, v, h => by
    unfold ab_en at h
    simp only [List.map_cons, lv_args, ab_c_cat]
    split at h
    · rename_i hc
      have hc2 : w.category = 2 := Nat.eq_of_beq_eq_true hc
      rw [if_pos hc2]
      match j, h with
      | 0, h => cases h; exact List.mem_cons_self
      | 1, h => cases h
      | j + 2, h =>
        have := ab_en_in ad r (i + 2) j v h
        rw [show i + (j + 2) = i + 2 + j by omega]
        exact List.mem_cons_of_mem _ this
    · rename_i hc
      have hc2 : ¬ w.category = 2 := fun q => by rw [q] at hc; cases hc
      rw [if_neg hc2]
      match j, h with
      | 0, h => cases h; exact List.mem_cons_self
      | j + 1, h =>
        have := ab_en_in ad r (i + 1) j v h
        rw [show i + (j + 1) = i + 1 + j by omega]
        exact List.mem_cons_of_mem _ this
