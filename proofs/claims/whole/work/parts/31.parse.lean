/-! what the parts of a text's reading say *)
-/
def zPut : (Nat → Int32) → Nat → List Int32 → (Nat → Int32)
  | f, _, [] => f
  | f, d, c :: r => zPut (upd f d c) (d + 1) r
theorem zPut_app : ∀ (C C2 : List Int32) (f : Nat → Int32) (d : Nat), zPut f d (C ++ C2) = zPut (zPut f d C) (d + C.length) C2
  | [], C2, f, d => rfl
  | c :: r, C2, f, d => by
    show zPut (upd f d c) (d + 1) (r ++ C2) = _
    rw [zPut_app r C2, List.length_cons, show d + (r.length + 1) = d + 1 + r.length by omega]
    rfl
theorem zPut_lo : ∀ (C : List Int32) (f : Nat → Int32) (d j : Nat), j < d ∨ d + C.length ≤ j → zPut f d C j = f j
  | [], f, d, j, _ => rfl
  | c :: r, f, d, j, h => by
    show zPut (upd f d c) (d + 1) r j = f j
    rw [List.length_cons] at h
    rw [zPut_lo r _ _ _ (by omega), upd_ne _ _ (by omega)]
theorem zPut_in : ∀ (C : List Int32) (f : Nat → Int32) (d j : Nat) (x : Int32), C[j]? = some x → zPut f d C (d + j) = x
  | [], f, d, j, x, h => by cases h
  | c :: r, f, d, 0, x, h => by
    show zPut (upd f d c) (d + 1) r (d + 0) = x
    rw [zPut_lo r _ _ _ (by omega), Nat.add_zero, upd_eq]
    exact Option.some.inj h
  | c :: r, f, d, j + 1, x, h => by
    show zPut (upd f d c) (d + 1) r (d + (j + 1)) = x
    rw [show d + (j + 1) = d + 1 + j by omega]
    exact zPut_in r _ _ _ _ h
theorem zTk_b (B : Nat → Int32) {n i : Nat} (hi : i ≤ n) : i ≤ (zTk B n i).2.2.1 ∧ (zTk B n i).2.2.1 < (zTk B n i).2.2.2 ∧ (zTk B n i).2.2.1 ≤ n ∧ (n ≤ (zTk B n i).2.2.1 → (zTk B n i).1 = -1) ∧ (¬ (zTk B n i).1 = -1 → (zTk B n i).2.2.1 < n ∧ (zTk B n i).2.2.2 ≤ n) := by
  have h1 := zRun_ge zbS B (n - i) i
  have h2 : zRun zbS B (n - i) i ≤ n := zRun_lt hi
  unfold zTk
  dsimp only
  generalize hp : zRun zbS B (n - i) i = pl at h1 h2
  have g1 := zRun_ge zbL B (n - (pl + 1)) (pl + 1)
  have g2 := zRun_ge zbD B (n - (pl + 1)) (pl + 1)
  split
  · rename_i c
    exact ⟨h1, Nat.lt_succ_self _, h2, fun _ => rfl, fun z => absurd rfl z⟩
  · rename_i c
    have g3 : zRun zbL B (n - (pl + 1)) (pl + 1) ≤ n := zRun_lt (by omega)
    have g4 : zRun zbD B (n - (pl + 1)) (pl + 1) ≤ n := zRun_lt (by omega)
    split
    · exact ⟨h1, by dsimp only; omega, h2, fun z => absurd z c, fun _ => ⟨by dsimp only; omega, g3⟩⟩
    · split
      · exact ⟨h1, by dsimp only; omega, h2, fun z => absurd z c, fun _ => ⟨by dsimp only; omega, g4⟩⟩
      · exact ⟨h1, by dsimp only; omega, h2, fun z => absurd z c, fun _ => ⟨by dsimp only; omega, by dsimp only; omega⟩⟩
/-- before a part -/
def zPp (M : ab_M) (n w i dn : Nat) : Prop := zTp M n ∧ M 3 2 = nI w ∧ w < 6 ∧ zLa (M 4) (M 34) n i ∧ i ≤ n ∧ M 4 7 = nI dn ∧ w * 160 ≤ dn ∧ dn ≤ w * 160 + i
/-- behind it: codes came -/
def zPf (M M2 : ab_M) (n dn i2 : Nat) (C : List Int32) : Prop := (∀ c, c ≠ 4 → c ≠ 31 → M2 c = M c) ∧ M2 4 2 = M 4 2 ∧ zLa (M2 4) (M 34) n i2 ∧ i2 ≤ n ∧ M2 4 7 = nI (dn + C.length) ∧ M2 31 = zPut (M 31) dn C
theorem zPf_rf {M : ab_M} {n w i dn : Nat} (h : zPp M n w i dn) : zPf M M n dn i [] := ⟨fun _ _ _ => rfl, rfl, h.2.2.2.1, h.2.2.2.2.1, h.2.2.2.2.2.1, rfl⟩
theorem zPp_of {M M2 : ab_M} {n w i dn i2 : Nat} {C : List Int32} (h : zPp M n w i dn) (g : zPf M M2 n dn i2 C) (hl : i + C.length ≤ i2) : zPp M2 n w i2 (dn + C.length) := by
  obtain ⟨⟨h1, h2, h3⟩, h4, h5, h6, h7, h8, h9, h10⟩ := h
  obtain ⟨g1, g2, g3, g4, g5, g6⟩ := g
  have e34 : M2 34 = M 34 := g1 34 (by decide) (by decide)
  refine ⟨⟨h1, by rw [g2, h2], by rw [e34]; exact h3⟩, by rw [g1 3 (by decide) (by decide), h4], h5, by rw [e34]; exact g3, g4, g5, by omega, by omega⟩
theorem zPf_tr {M M1 M2 : ab_M} {n dn i1 i2 : Nat} {C1 C2 : List Int32} (g : zPf M M1 n dn i1 C1) (h : zPf M1 M2 n (dn + C1.length) i2 C2) : zPf M M2 n dn i2 (C1 ++ C2) := by
  obtain ⟨g1, g2, g3, g4, g5, g6⟩ := g
  obtain ⟨h1, h2, h3, h4, h5, h6⟩ := h
  refine ⟨fun c a b => (h1 c a b).trans (g1 c a b), h2.trans g2, by rw [← g1 34 (by decide) (by decide)]; exact h3, h4, by rw [h5, List.length_append, Nat.add_assoc], by rw [h6, g6, zPut_app]⟩
theorem zPf_put {M M1 : ab_M} {n dn i1 : Nat} {C : List Int32} (g : zPf M M1 n dn i1 C) (hb : dn + C.length < 2 ^ 31) (c : Int32) : zPf M (ab_u (ab_u M1 31 (upd (M1 31) (M1 4 7).toNatClampNeg c)) 4 (upd (M1 4) 7 (M1 4 7 + 1))) n dn i1 (C ++ [c]) := by
  obtain ⟨g1, g2, g3, g4, g5, g6⟩ := g
  refine ⟨fun q a b => by rw [ab_u_ne _ _ a, ab_u_ne _ _ b]; exact g1 q a b, by rw [ab_u_eq, upd_ne _ _ (by decide), g2], ?_, g4, ?_, ?_⟩
  · obtain ⟨a1, a2, a3, a4⟩ := g3
    rw [ab_u_eq]
    exact ⟨by rw [upd_ne _ _ (by decide)]; exact a1, fun z => by rw [upd_ne _ _ (by decide)]; exact a2 z, by rw [upd_ne _ _ (by decide)]; exact a3, by rw [upd_ne _ _ (by decide)]; exact a4⟩
  · rw [ab_u_eq, upd_eq, g5, nI_1, List.length_append]
    rfl
  · rw [ab_u_ne _ _ (by decide), ab_u_eq, g5, nI_clamp hb, g6, zPut_app]
    rfl
theorem zPut_call {M M1 : ab_M} {N : ab_N} {k : ab_R} {n w i dn i1 : Nat} {C : List Int32} {c : Int32} (h : zPp M n w i dn) (g : zPf M M1 n dn i1 C) (hb : dn + C.length < (w + 1) * 160) (hk : ∀ M2, zPf M M2 n dn i1 (C ++ [c]) → k none M2 N) : zt_X8_put [.ref 4, .int c] M1 N k := by
  refine ab_m1_i ⟨w, dn + C.length, h.2.2.1, by rw [g.1 3 (by decide) (by decide), h.2.1], hb, g.2.2.2.2.1⟩ ?_
  rintro o M2 N2 ⟨rfl, rfl, rfl⟩
  exact hk _ (zPf_put g (by have := h.2.2.1; omega) c)
theorem zAdv_call {M M1 : ab_M} {N : ab_N} {k : ab_R} {n w i dn i1 : Nat} {C : List Int32} (h : zPp M n w i dn) (g : zPf M M1 n dn i1 C) (ht : ¬ (zTk (M 34) n i1).1 = -1) (hk : ∀ M2, zPf M M2 n dn (zTk (M 34) n i1).2.2.2 C → k none M2 N) : zt_X8_advance [.ref 4] M1 N k := by
  obtain ⟨g1, g2, g3, g4, g5, g6⟩ := g
  obtain ⟨⟨h1, h2, h3⟩, -⟩ := h
  have e34 : M1 34 = M 34 := g1 34 (by decide) (by decide)
  obtain ⟨b1, b2, b3, b4, b5⟩ := zTk_b (M 34) g4
  refine ab_m0_i ⟨n, _, ⟨h1, by rw [g2, h2], by rw [e34]; exact h3⟩, (b5 ht).2, g3.2.2.2⟩ ?_
  rintro o M2 N2 ⟨rfl, rfl, f, rfl, f2, f7, hf⟩
  refine hk _ ⟨fun c a b => by rw [ab_u_ne _ _ a]; exact g1 c a b, by rw [ab_u_eq, f2, g2], ?_, (b5 ht).2, by rw [ab_u_eq, f7, g5], by rw [ab_u_ne _ _ (by decide), g6]⟩
  have := hf n _ h1 (b5 ht).2 (by rw [g2, h2]) g3.2.2.2
  rw [e34] at this
  rw [ab_u_eq]
  exact this
/-- what a part says of the yard -/
def zCnd (r : Nat) (nt : Bool) (B : Nat → Int32) (n o i : Nat) (K : List Nat) (mn : Bool) : Prop := zLow r K ∧ zOp K = o ∧ (nt = true → mn = true) ∧ (nt = false → (zTk B n i).1 = 12 → mn = false)
def zGood (r : Nat) (nt : Bool) (B : Nat → Int32) (n o i i2 : Nat) (C : List Int32) : Prop := ∀ (K : List Nat) (O : List Int32) (mn : Bool), zCnd r nt B n o i K mn → ∀ res : zYr, zV B n i2 K (O ++ C) res → zR B n i K O mn res
def zBad (r : Nat) (nt : Bool) (B : Nat → Int32) (n o i i2 : Nat) : Prop := ∀ (K : List Nat) (O : List Int32) (mn : Bool), zCnd r nt B n o i K mn → zR B n i K O mn (.inl (zTk B n i2).2.2.1)
def zCm (t : Int32) : Prop := t = 60 ∨ t = 61
def zPost (r : Nat) (nt isC : Bool) (ex : List Int32) (B : Nat → Int32) (n o i i2 : Nat) (C : List Int32) (b : Int32) : Prop := i + C.length ≤ i2 ∧ ((b = 1 ∧ (zTk B n i2).1 ∉ ex ∧ (isC = true → zCm (zTk B n i2).1 → zBad r nt B n o i i2) ∧ ((isC = true → ¬ zCm (zTk B n i2).1) → zGood r nt B n o i i2 C)) ∨ (b = 0 ∧ zBad r nt B n o i i2))
def zt_P (r : Nat) (nt isC : Bool) (ex : List Int32) (e : Nat) : ab_T := fun as M N k => match as with
  | [.ref q, .int op] => q = 4 ∧ ∃ n w i dn o : Nat, op = nI o ∧ o ≤ 5 ∧ o + e = 6 ∧ zPp M n w i dn ∧ ∀ (b : Int32) (M2 : ab_M) (i2 : Nat) (C : List Int32), zPf M M2 n dn i2 C → zPost r nt isC ex (M 34) n o i i2 C b → k (some (.int b)) M2 N
  | _ => False
theorem zt_P_e {r : Nat} {nt isC : Bool} {ex : List Int32} {e : Nat} {as : List Value} {M : ab_M} {N : ab_N} {k : ab_R} (h : zt_P r nt isC ex e as M N k) : ∃ n w i dn o : Nat, as = [.ref 4, .int (nI o)] ∧ o ≤ 5 ∧ o + e = 6 ∧ zPp M n w i dn ∧ ∀ (b : Int32) (M2 : ab_M) (i2 : Nat) (C : List Int32), zPf M M2 n dn i2 C → zPost r nt isC ex (M 34) n o i i2 C b → k (some (.int b)) M2 N := by
  unfold zt_P at h
  split at h
  · obtain ⟨rfl, n, w, i, dn, o, rfl, h⟩ := h
    exact ⟨n, w, i, dn, o, rfl, h⟩
  · exact h.elim
theorem zt_P_mono (r : Nat) (nt isC : Bool) (ex : List Int32) (e : Nat) : ab_mono (zt_P r nt isC ex e) := fun as M N k k2 hk h => by
  unfold zt_P at h ⊢
  split at h
  · obtain ⟨a, n, w, i, dn, o, b, c, d, f, g⟩ := h
    exact ⟨a, n, w, i, dn, o, b, c, d, f, fun x M2 i2 C p q => hk _ _ _ (g x M2 i2 C p q)⟩
  · exact h
theorem zt_P_v (r : Nat) (nt isC : Bool) (ex : List Int32) (e : Nat) : ab_recv zw_C vwCl RX8 (zt_P r nt isC ex e) := fun as M N k h => by
  obtain ⟨n, w, i, dn, o, rfl, -⟩ := zt_P_e h
  exact ⟨_, _, _, _, _, _, rfl, rfl, rfl⟩
theorem zP_call {M M1 : ab_M} {N : ab_N} {k : ab_R} {n w i dn i1 o e r : Nat} {nt isC : Bool} {ex : List Int32} {C : List Int32} {op : Int32} (h : zPp M n w i dn) (g : zPf M M1 n dn i1 C) (hl : i + C.length ≤ i1) (ho : o ≤ 5) (he : o + e = 6) (hop : op = nI o) (hk : ∀ (b : Int32) (M2 : ab_M) (i2 : Nat) (C2 : List Int32), zPf M M2 n dn i2 (C ++ C2) → zPost r nt isC ex (M 34) n o i1 i2 C2 b → k (some (.int b)) M2 N) : zt_P r nt isC ex e [.ref 4, .int op] M1 N k := by
  refine ⟨rfl, n, w, i1, dn + C.length, o, hop, ho, he, zPp_of h g hl, fun b M2 i2 C2 g2 hp => hk b M2 i2 C2 (zPf_tr g g2) ?_⟩
  rw [g.1 34 (by decide) (by decide)] at hp
  exact hp
section PurePost
variable {B : Nat → Int32} {n o : Nat}
theorem zPost_b {r i i2 : Nat} {nt isC : Bool} {ex : List Int32} {C : List Int32} {b : Int32} (h : zPost r nt isC ex B n o i i2 C b) : b = 1 ∨ b = 0 := h.2.elim (fun z => Or.inl z.1) (fun z => Or.inr z.1)
theorem zCnd_weak {r r2 i : Nat} {nt : Bool} {K : List Nat} {mn : Bool} (hr : r ≤ r2) (h : zCnd r nt B n o i K mn) : zCnd r2 nt B n o i K mn := ⟨zLow_mono hr h.1, h.2⟩
theorem zPost_weak {r r2 i i2 : Nat} {nt isC : Bool} {ex : List Int32} {C : List Int32} {b : Int32} (hr : r ≤ r2) (h : zPost r2 nt isC ex B n o i i2 C b) : zPost r nt isC ex B n o i i2 C b :=
  ⟨h.1, h.2.elim (fun ⟨a, b2, c, d⟩ => Or.inl ⟨a, b2, fun z z2 K O mn q => c z z2 K O mn (zCnd_weak hr q), fun z K O mn q => d z K O mn (zCnd_weak hr q)⟩) (fun ⟨a, c⟩ => Or.inr ⟨a, fun K O mn q => c K O mn (zCnd_weak hr q)⟩)⟩
theorem zCm_rank {t : Int32} (h : zCm t) : zRank (zSg t) = 4 := by
  rcases h with rfl | rfl <;> decide
theorem zV_low {i : Nat} {K : List Nat} {O : List Int32} {r : zYr} (hl : zLow 7 K) (h : zA B n i K O r) : zV B n i K O r := by
  show zYd B n (false, false, i, zUw 7 K O) r
  rw [zUw_low hl]
  exact h
theorem zA_low {i : Nat} {K : List Nat} {O : List Int32} {r : zYr} (hl : zLow 7 K) (h : zV B n i K O r) : zA B n i K O r := by
  have h2 : zYd B n (false, false, i, zUw 7 K O) r := h
  rw [zUw_low hl] at h2
  exact h2
/-- a sign between two, and what stands behind it -/
theorem zPost_bin {r r2 i i1 i2 s : Nat} {nt nt2 isC : Bool} {ex : List Int32} {C C2 : List Int32} {b : Int32} (h1 : zPost r nt isC ex B n o i i1 C 1) (hs : zSg (zTk B n i1).1 = s) (s0 : ¬ s = 0) (s13 : ¬ s = 13) (s19 : ¬ s = 19) (sr : zRank s = r) (r4 : ¬ r = 4) (r7 : r < 7) (r0 : 1 ≤ r) (hr : r < r2) (hnt : nt2 = decide (s ≤ 12)) (hi1 : i1 ≤ n)
    (hthr : ∀ t, t ∉ ex → (isC = true → ¬ zCm t) → zThr t ≤ r) (h2 : zPost r2 nt2 isC ex B n o (zTk B n i1).2.2.2 i2 C2 b) : zPost r nt isC ex B n o i i2 (C ++ C2 ++ [zCo s]) b := by
  obtain ⟨l1, h1⟩ := h1
  obtain ⟨l2, h2⟩ := h2
  obtain ⟨b1, b2, -⟩ := zTk_b B hi1
  have ncm : ¬ zCm (zTk B n i1).1 := fun z => r4 (by rw [← sr, ← hs, zCm_rank z])
  have G1 : zGood r nt B n o i i1 C := by
    rcases h1 with ⟨-, -, -, h⟩ | ⟨h, -⟩
    · exact h (fun _ => ncm)
    · exact absurd h (by decide)
  have cn : ∀ (K : List Nat) (mn : Bool), zCnd r nt B n o i K mn → zCnd r2 nt2 B n o (zTk B n i1).2.2.2 (s :: K) (decide (s ≤ 12)) := fun K mn q => ⟨show zRank s < r2 by omega, by
    show (if s = 0 ∨ s = 13 ∨ s = 19 then 1 else 0) + zOp K = o
    rw [if_neg (by omega), Nat.zero_add]
    exact q.2.1, fun z => by rw [← hnt, z], fun z _ => by rw [← hnt, z]⟩
  have st : ∀ (K : List Nat) (O : List Int32) (mn : Bool), zCnd r nt B n o i K mn → ∀ res : zYr, zR B n (zTk B n i1).2.2.2 (s :: K) (O ++ C) (decide (s ≤ 12)) res → zR B n i K O mn res := fun K O mn q res z =>
    G1 K O mn q res (zV_low (zLow_mono (by omega) q.1) (zA_bin hs s0 (by omega) (by rw [sr]; exact q.1) z))
  refine ⟨by rw [List.length_append, List.length_append, List.length_cons, List.length_nil]; omega, ?_⟩
  rcases h2 with ⟨rfl, hx, hc, hg⟩ | ⟨rfl, hb⟩
  · refine Or.inl ⟨rfl, hx, fun z z2 K O mn q => st K O mn q _ (hc z z2 _ _ _ (cn K mn q)), fun z K O mn q res hv => st K O mn q _ (hg z _ _ _ (cn K mn q) _ (zV_low (show zRank s < 7 by omega) (zA_col (by rw [sr]; exact hthr _ hx z) (by omega) ?_)))⟩
    have hv2 := zA_low (zLow_mono (by omega) q.1) hv
    rw [← List.append_assoc, ← List.append_assoc] at hv2
    exact hv2
  · exact Or.inr ⟨rfl, fun K O mn q => st K O mn q _ (hb _ _ _ (cn K mn q))⟩
theorem zPost_ex {r i i2 : Nat} {nt isC : Bool} {ex ex2 : List Int32} {C : List Int32} {b : Int32} (h : zPost r nt isC ex B n o i i2 C b) (hx : b = 1 → (zTk B n i2).1 ∉ ex → (zTk B n i2).1 ∉ ex2) : zPost r nt isC ex2 B n o i i2 C b :=
  ⟨h.1, h.2.elim (fun ⟨a, b2, c, d⟩ => Or.inl ⟨a, hx a b2, c, d⟩) Or.inr⟩
end PurePost
