/-! texts: what is read is one, and it is well formed *)
-/
theorem zYm_mono {B : Nat → Int32} {n : Nat} : ∀ (m : Nat) (s : zYs) (r : zYr) (d : Nat), zYm B n m s = some r → zYm B n (m + d) s = some r
  | 0, s, r, d, h => by cases h
  | m + 1, s, r, d, h => by
    rw [show m + 1 + d = (m + d) + 1 by omega]
    unfold zYm at h ⊢
    split at h
    · exact zYm_mono m _ r d h
    · exact h
theorem zYd_det {B : Nat → Int32} {n : Nat} {s : zYs} {r r2 : zYr} (h : zYd B n s r) (h2 : zYd B n s r2) : r = r2 := by
  obtain ⟨m, hm⟩ := h
  obtain ⟨m2, hm2⟩ := h2
  have a := zYm_mono m s r m2 hm
  have b := zYm_mono m2 s r2 m hm2
  rw [Nat.add_comm m2 m, a] at b
  exact Option.some.inj b
theorem zTx_det {B : Nat → Int32} {n : Nat} : ∀ (r i : Nat) (a b : zTr), zTx B n r i a → zTx B n r i b → a = b
  | 0, i, a, b, ha, hb => by
    rcases ha with ⟨h1, rfl⟩ | ⟨h1, rfl⟩ <;> rcases hb with ⟨h2, rfl⟩ | ⟨h2, rfl⟩
    · rfl
    · exact absurd h1 h2
    · exact absurd h2 h1
    · rfl
  | r + 1, i, a, b, ha, hb => by
    rcases ha with ⟨h1, ha⟩ | ⟨h1, rfl⟩ <;> rcases hb with ⟨h2, hb⟩ | ⟨h2, rfl⟩
    · rcases ha with ⟨p, a1, rfl⟩ | ⟨i2, O, a1, a2⟩ <;> rcases hb with ⟨p2, b1, rfl⟩ | ⟨i3, O3, b1, b2⟩
      · have := zYd_det a1 b1
        rw [Sum.inl.inj this]
      · have := zYd_det a1 b1
        cases this
      · have := zYd_det a1 b1
        cases this
      · have e := zYd_det a1 b1
        have e := Prod.mk.inj (Sum.inr.inj e)
        obtain ⟨rfl, rfl⟩ := e
        rcases a2 with ⟨p, c1, rfl⟩ | ⟨l, c1, rfl⟩ <;> rcases b2 with ⟨p2, d1, rfl⟩ | ⟨l2, d1, rfl⟩
        · have := zTx_det r i2 _ _ c1 d1
          rw [Sum.inl.inj this]
        · have := zTx_det r i2 _ _ c1 d1
          cases this
        · have := zTx_det r i2 _ _ c1 d1
          cases this
        · have := zTx_det r i2 _ _ c1 d1
          rw [Sum.inr.inj this]
    · exact absurd h1 h2
    · exact absurd h2 h1
    · rfl
def zWe : Nat → List Int32 → Option Nat
  | h, [] => some h
  | h, c :: r => if -7 < c then zWe (h + 1) r else if -9 < c then (if 1 ≤ h then zWe h r else none) else (if 2 ≤ h then zWe (h - 1) r else none)
theorem zWe_c (h : Nat) (c : Int32) (r : List Int32) : zWe h (c :: r) = if -7 < c then zWe (h + 1) r else if -9 < c then (if 1 ≤ h then zWe h r else none) else (if 2 ≤ h then zWe (h - 1) r else none) := rfl
theorem zWe_app : ∀ (A B : List Int32) (h h2 : Nat), zWe h A = some h2 → zWe h (A ++ B) = zWe h2 B
  | [], B, h, h2, e => by
    have : h = h2 := Option.some.inj e
    rw [this]
    rfl
  | c :: A, B, h, h2, e => by
    rw [List.cons_append, zWe_c]
    rw [zWe_c] at e
    split
    · rename_i c1
      rw [if_pos c1] at e
      exact zWe_app A B _ _ e
    · rename_i c1
      rw [if_neg c1] at e
      split
      · rename_i c2
        rw [if_pos c2] at e
        split
        · rename_i c3
          rw [if_pos c3] at e
          exact zWe_app A B _ _ e
        · rename_i c3
          rw [if_neg c3] at e
          cases e
      · rename_i c2
        rw [if_neg c2] at e
        split
        · rename_i c3
          rw [if_pos c3] at e
          exact zWe_app A B _ _ e
        · rename_i c3
          rw [if_neg c3] at e
          cases e
theorem zWe_wf : ∀ (A : List Int32) (h : Nat), zWe h A = some 1 → (∀ c ∈ A, zOkC c) → zWfH h A
  | [], h, e, _ => Option.some.inj e
  | c :: A, h, e, ok => by
    refine ⟨ok c List.mem_cons_self, ?_⟩
    have ok2 : ∀ c ∈ A, zOkC c := fun x hx => ok x (List.mem_cons_of_mem _ hx)
    rw [zWe_c] at e
    split
    · rename_i c1
      rw [if_pos c1] at e
      exact zWe_wf A _ e ok2
    · rename_i c1
      rw [if_neg c1] at e
      split
      · rename_i c2
        rw [if_pos c2] at e
        split at e
        · rename_i c3
          exact ⟨c3, zWe_wf A _ e ok2⟩
        · cases e
      · rename_i c2
        rw [if_neg c2] at e
        split at e
        · rename_i c3
          exact ⟨c3, zWe_wf A _ e ok2⟩
        · cases e
/-- signs that take two values -/
def zBn : List Nat → Nat
  | [] => 0
  | s :: K => (if s = 0 ∨ s = 13 ∨ s = 19 then 0 else 1) + zBn K
def zYi (w : Bool) (K : List Nat) (O : List Int32) : Prop := (∀ s ∈ K, s = 0 ∨ (11 ≤ s ∧ s ≤ 19)) ∧ (∀ c ∈ O, zOkC c) ∧ zWe 0 O = some ((if w = true then 0 else 1) + zBn K)
theorem zYi_put {K : List Nat} {O : List Int32} {c : Int32} (h : zYi true K O) (hc : zOkC c) (h7 : -7 < c) : zYi false K (O ++ [c]) := by
  obtain ⟨h1, h2, h3⟩ := h
  refine ⟨h1, fun x hx => ?_, ?_⟩
  · rcases List.mem_append.mp hx with a | a
    · exact h2 x a
    · rw [List.mem_singleton.mp a]; exact hc
  · rw [zWe_app _ _ _ _ h3]
    rw [zWe_c, if_pos h7, if_pos rfl, if_neg (show ¬ false = true by decide)]
    show some (0 + zBn K + 1) = some (1 + zBn K)
    congr 1
    omega
theorem zCo_k : ∀ s, s < 20 → 11 ≤ s → zOkC (zCo s) ∧ ¬ -7 < zCo s ∧ ((s = 13 ∨ s = 19) ↔ -9 < zCo s) := by
  unfold zOkC
  decide +kernel
theorem zUw_yi {r : Nat} (hr : 1 ≤ r) : ∀ (K : List Nat) (O : List Int32), zYi false K O → zYi false (zUw r K O).1 (zUw r K O).2
  | [], O, h => h
  | s :: K, O, h => by
    unfold zUw
    split
    · rename_i c
      refine zUw_yi hr K _ ?_
      obtain ⟨h1, h2, h3⟩ := h
      have hs := h1 s List.mem_cons_self
      have s0 : ¬ s = 0 := zRank_0 (by omega)
      obtain ⟨k1, k2, k3⟩ := zCo_k s (by omega) (by omega)
      refine ⟨fun x hx => h1 x (List.mem_cons_of_mem _ hx), fun x hx => ?_, ?_⟩
      · rcases List.mem_append.mp hx with a | a
        · exact h2 x a
        · rw [List.mem_singleton.mp a]; exact k1
      · rw [zWe_app _ _ _ _ h3]
        have eB : zBn (s :: K) = (if s = 0 ∨ s = 13 ∨ s = 19 then 0 else 1) + zBn K := rfl
        rw [zWe_c, if_neg k2, eB]
        by_cases u : s = 13 ∨ s = 19
        · rw [if_pos (k3.mp u), if_pos (show s = 0 ∨ s = 13 ∨ s = 19 from Or.inr u), if_neg (show ¬ false = true by decide), Nat.zero_add, if_pos (show 1 ≤ 1 + zBn K by omega)]
          rfl
        · rw [if_neg (fun z => u (k3.mpr z)), if_neg (show ¬ (s = 0 ∨ s = 13 ∨ s = 19) from fun z => z.elim s0 u), if_neg (show ¬ false = true by decide), if_pos (show 2 ≤ 1 + (1 + zBn K) by omega)]
          show some (1 + (1 + zBn K) - 1) = some (1 + zBn K)
          congr 1
          omega
    · exact h
theorem zYi_hold {K : List Nat} {O : List Int32} {s : Nat} (h : zYi false K O) (hs : 11 ≤ s ∧ s ≤ 18 ∧ ¬ s = 13) : zYi true (s :: K) O := by
  obtain ⟨h1, h2, h3⟩ := h
  refine ⟨fun x hx => ?_, h2, ?_⟩
  · rcases List.mem_cons.mp hx with e | e
    · rw [e]; omega
    · exact h1 x e
  · rw [h3]
    show some _ = some _
    unfold zBn
    rw [if_neg (show ¬ (s = 0 ∨ s = 13 ∨ s = 19) by omega)]
    simp
    cases K <;> rfl
theorem zYi_open {K : List Nat} {O : List Int32} {s : Nat} (h : zYi true K O) (hs : s = 0 ∨ s = 13 ∨ s = 19) : zYi true (s :: K) O := by
  obtain ⟨h1, h2, h3⟩ := h
  refine ⟨fun x hx => ?_, h2, ?_⟩
  · rcases List.mem_cons.mp hx with e | e
    · rw [e]; omega
    · exact h1 x e
  · rw [h3, show zBn (s :: K) = (if s = 0 ∨ s = 13 ∨ s = 19 then 0 else 1) + zBn K from rfl, if_pos hs, Nat.zero_add]
theorem zYs_inl {w mn w2 mn2 : Bool} {i i2 : Nat} {p : List Nat × List Int32} {K2 : List Nat} {O2 : List Int32} (h : (Sum.inl (w, mn, i, p) : zYs ⊕ zYr) = .inl (w2, mn2, i2, K2, O2)) : w2 = w ∧ K2 = p.1 ∧ O2 = p.2 := by
  obtain ⟨a, b⟩ := p
  cases h
  exact ⟨rfl, rfl, rfl⟩
theorem zYi_step {B : Nat → Int32} {n : Nat} {w mn : Bool} {i : Nat} {K : List Nat} {O : List Int32} (h : zYi w K O) : (∀ w2 mn2 i2 K2 O2, zYs1 B n w mn i K O = .inl (w2, mn2, i2, K2, O2) → zYi w2 K2 O2) ∧ ∀ i2 O2, zYs1 B n w mn i K O = .inr (.inr (i2, O2)) → zYi false [] O2 := by
  have val : ∀ t num : Int32, 0 ≤ t → t ≤ 6 → (t = 0 → ∃ v : Nat, v ≤ 9999 ∧ num = nI v) → zOkC (if t = 0 then num else -t) ∧ -7 < (if t = 0 then num else -t) := by
    intro t num h0 h6 hn
    obtain ⟨k, hk, rfl⟩ := nI_ex h0
    have k6 := (nI_leI (b := 6) hk (by decide)).mp h6
    by_cases z : nI k = 0
    · rw [if_pos z]
      obtain ⟨v, hv, rfl⟩ := hn z
      have a := nI_pos' (n := v) (by omega)
      exact ⟨⟨Int32.le_trans (by decide) a, nI_le (b := 9999) (by omega) (by decide)⟩, Int32.lt_of_lt_of_le (by decide) a⟩
    · rw [if_neg z]
      exact (by unfold zOkC; decide +kernel : ∀ k, k < 7 → zOkC (-nI k) ∧ -7 < -nI k) k (by omega)
  have sgs := zSg_n (zTk B n i).1
  have tn := zTk_n (B := B) (n := n) (i := i)
  unfold zYs1
  dsimp only
  generalize hh : zSg (zTk B n i).1 = sg at *
  cases w with
  | true =>
    rw [if_pos rfl]
    split
    · rename_i c
      obtain ⟨v1, v2⟩ := val _ _ c.1 c.2 tn
      refine ⟨fun w2 mn2 i2 K2 O2 e => ?_, fun i2 O2 e => (by cases e)⟩
      obtain ⟨rfl, rfl, rfl⟩ := zYs_inl e
      exact zUw_yi (by decide) _ _ (zYi_put h v1 v2)
    · split
      · split
        · exact ⟨fun w2 mn2 i2 K2 O2 e => (by cases e), fun i2 O2 e => (by cases e)⟩
        · refine ⟨fun w2 mn2 i2 K2 O2 e => ?_, fun i2 O2 e => (by cases e)⟩
          cases e
          exact zYi_open h (by decide)
      · split
        · split
          · exact ⟨fun w2 mn2 i2 K2 O2 e => (by cases e), fun i2 O2 e => (by cases e)⟩
          · refine ⟨fun w2 mn2 i2 K2 O2 e => ?_, fun i2 O2 e => (by cases e)⟩
            cases e
            exact zYi_open h (by decide)
        · split
          · split
            · exact ⟨fun w2 mn2 i2 K2 O2 e => (by cases e), fun i2 O2 e => (by cases e)⟩
            · refine ⟨fun w2 mn2 i2 K2 O2 e => ?_, fun i2 O2 e => (by cases e)⟩
              cases e
              exact zYi_open h (by decide)
          · exact ⟨fun w2 mn2 i2 K2 O2 e => (by cases e), fun i2 O2 e => (by cases e)⟩
  | false =>
    rw [if_neg (by decide)]
    have h1 := zUw_yi (r := 1) (by decide) _ _ h
    split
    · split
      · rename_i hK
        rw [hK] at h1
        refine ⟨fun w2 mn2 i2 K2 O2 e => (by cases e), fun i2 O2 e => ?_⟩
        cases e
        exact h1
      · exact ⟨fun w2 mn2 i2 K2 O2 e => (by cases e), fun i2 O2 e => (by cases e)⟩
    · split
      · split
        · exact ⟨fun w2 mn2 i2 K2 O2 e => (by cases e), fun i2 O2 e => (by cases e)⟩
        · rename_i s K2 hK
          have lw := zUw_isLow 1 K O
          rw [hK] at h1 lw
          refine ⟨fun w2 mn2 i2 K2 O2 e => ?_, fun i2 O2 e => (by cases e)⟩
          obtain ⟨rfl, rfl, rfl⟩ := zYs_inl e
          refine zUw_yi (by decide) _ _ ?_
          obtain ⟨a1, a2, a3⟩ := h1
          have s0 : s = 0 := by
            have hs := a1 s List.mem_cons_self
            have : ∀ s, s < 20 → zRank s < 1 → s = 0 ∨ s < 11 := by decide +kernel
            have := this s (by omega) lw
            omega
          subst s0
          refine ⟨fun x hx => a1 x (List.mem_cons_of_mem _ hx), a2, ?_⟩
          rw [a3]
          exact congrArg (fun x => some (1 + x)) (Nat.zero_add _)
      · split
        · exact ⟨fun w2 mn2 i2 K2 O2 e => (by cases e), fun i2 O2 e => (by cases e)⟩
        · rename_i s0
          split
          · split
            · exact ⟨fun w2 mn2 i2 K2 O2 e => (by cases e), fun i2 O2 e => (by cases e)⟩
            · refine ⟨fun w2 mn2 i2 K2 O2 e => ?_, fun i2 O2 e => (by cases e)⟩
              cases e
              exact zYi_hold (zUw_yi (by decide) _ _ h) (by omega)
          · rename_i r4
            have r1 : 1 ≤ zRank sg := by
              have : ∀ s, s < 20 → 11 ≤ s → 1 ≤ zRank s := by decide +kernel
              exact this sg (by omega) (by omega)
            refine ⟨fun w2 mn2 i2 K2 O2 e => ?_, fun i2 O2 e => (by cases e)⟩
            cases e
            exact zYi_hold (zUw_yi r1 _ _ h) (by omega)
theorem zYm_yi {B : Nat → Int32} {n : Nat} : ∀ (m : Nat) (w mn : Bool) (i : Nat) (K : List Nat) (O : List Int32) (i2 : Nat) (O2 : List Int32), zYi w K O → zYm B n m (w, mn, i, K, O) = some (.inr (i2, O2)) → zYi false [] O2
  | 0, w, mn, i, K, O, i2, O2, h, e => by cases e
  | m + 1, w, mn, i, K, O, i2, O2, h, e => by
    obtain ⟨s1, s2⟩ := zYi_step (B := B) (n := n) (mn := mn) (i := i) h
    unfold zYm at e
    dsimp only at e
    split at e
    · rename_i t ht
      obtain ⟨w3, mn3, i3, K3, O3⟩ := t
      exact zYm_yi m _ _ _ _ _ _ _ (s1 _ _ _ _ _ ht) e
    · rename_i t ht
      cases e
      exact s2 _ _ ht
theorem zR_wf {B : Nat → Int32} {n i i2 : Nat} {O : List Int32} (h : zR B n i [] [] true (.inr (i2, O))) : zWfH 0 O := by
  obtain ⟨m, hm⟩ := h
  obtain ⟨-, h2, h3⟩ := zYm_yi m _ _ _ _ _ _ _ ⟨fun s hs => absurd hs List.not_mem_nil, fun s hs => absurd hs List.not_mem_nil, rfl⟩ hm
  exact zWe_wf _ _ h3 h2
theorem zTx_wf {B : Nat → Int32} {n : Nat} : ∀ (r i : Nat) (l : List (List Int32)), zTx B n r i (.inr l) → ∀ O ∈ l, zWfH 0 O
  | 0, i, l, h, O, hO => by
    rcases h with ⟨-, e⟩ | ⟨-, e⟩
    · rw [Sum.inr.inj e] at hO
      exact absurd hO List.not_mem_nil
    · cases e
  | r + 1, i, l, h, O, hO => by
    rcases h with ⟨-, h⟩ | ⟨-, e⟩
    · rcases h with ⟨p, -, e⟩ | ⟨i2, O2, a1, ⟨p, -, e⟩ | ⟨l2, a2, e⟩⟩
      · cases e
      · cases e
      · rw [Sum.inr.inj e] at hO
        rcases List.mem_cons.mp hO with q | q
        · rw [q]; exact zR_wf a1
        · exact zTx_wf r i2 l2 a2 O q
    · cases e
/-- a text that both have read -/
theorem zTextEq_new {C0 C M0 M : ab_M} {n w : Nat} {B : Nat → Int32} {res res2 : zTr} {o o2 : Option Value} (h1 : zTx B n 3 0 res) (h2 : zTx B n 3 0 res2) (hC : zRead C0 n w res o C) (hM : zReadR M0 n w res2 o2 M) : o = o2 ∧ ((C 3 2 = C0 3 2 ∧ M 0 23 = M0 0 23) ∨ (C 3 2 = nI (w + 1) ∧ M 0 23 = nI (w + 1) ∧ zTextEq C M w)) := by
  have e := zTx_det 3 0 _ _ h1 h2
  subst e
  obtain ⟨-, -, -, -, -, hC⟩ := hC
  obtain ⟨-, -, -, -, -, hM⟩ := hM
  rcases hC with ⟨p, rfl, -, rfl, c3⟩ | ⟨O0, O1, O2, rfl, rfl, c3, c4, c5, c6, c7, c8⟩
  · rcases hM with ⟨p2, e, -, rfl, m3⟩ | ⟨O0, O1, O2, e, -⟩
    · rw [Sum.inl.inj e]
      exact ⟨rfl, Or.inl ⟨c3, m3⟩⟩
    · cases e
  · rcases hM with ⟨p2, e, -⟩ | ⟨P0, P1, P2, e, rfl, m3, m4, m5, m6, m7, m8, m9⟩
    · cases e
    · have e := Sum.inr.inj e
      simp only [List.cons.injEq, and_true] at e
      obtain ⟨rfl, rfl, rfl⟩ := e
      have wf := zTx_wf 3 0 _ h1
      exact ⟨rfl, Or.inr ⟨c3, m3, O0, O1, O2, wf O0 (by simp), wf O1 (by simp), wf O2 (by simp), c4, c5, c6, c7, c8, m5, m6, m7, m8, m9⟩⟩
