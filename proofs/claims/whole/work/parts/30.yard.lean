/-! a text is read: signs that wait, codes that come *)
-/
def zRank (s : Nat) : Nat := if s = 0 then 0 else if s = 11 then 1 else if s = 12 then 2 else if s = 13 then 3 else if s ≤ 15 then 4 else if s ≤ 17 then 5 else if s = 18 then 6 else 7
def zCo (s : Nat) : Int32 := if s = 11 then -9 else if s = 12 then -10 else if s = 13 then -7 else if s = 14 then -11 else if s = 15 then -12 else if s = 16 then -13 else if s = 17 then -14 else if s = 18 then -15 else -8
def zUw (r : Nat) : List Nat → List Int32 → List Nat × List Int32
  | [], O => ([], O)
  | s :: K, O => if r ≤ zRank s then zUw r K (O ++ [zCo s]) else (s :: K, O)
def zOp : List Nat → Nat
  | [] => 0
  | s :: K => (if s = 0 ∨ s = 13 ∨ s = 19 then 1 else 0) + zOp K
def zSg (t : Int32) : Nat := if t = 10 then 11 else if t = 11 then 12 else if t = 60 then 14 else if t = 61 then 15 else if t = 43 then 16 else if t = 45 then 17 else if t = 42 then 18 else 0
def zHd4 : List Nat → Bool
  | [] => false
  | s :: _ => decide (zRank s = 4)
abbrev zYs : Type := Bool × Bool × Nat × List Nat × List Int32
abbrev zYr : Type := Nat ⊕ Nat × List Int32
/-- one token: is a value wanted, may NOT stand, where, what waits, what came -/
def zYs1 (B : Nat → Int32) (n : Nat) (w mn : Bool) (i : Nat) (K : List Nat) (O : List Int32) : zYs ⊕ zYr :=
  let t := (zTk B n i).1
  let pl := (zTk B n i).2.2.1
  let bh := (zTk B n i).2.2.2
  if w = true then
    if 0 ≤ t ∧ t ≤ 6 then .inl (false, false, bh, zUw 7 K (O ++ [if t = 0 then (zTk B n i).2.1 else -t]))
    else if t = 12 ∧ mn = true then (if zOp K = 5 then .inr (.inl pl) else .inl (true, true, bh, 13 :: K, O))
    else if t = 45 then (if zOp K = 5 then .inr (.inl pl) else .inl (true, false, bh, 19 :: K, O))
    else if t = 40 then (if zOp K = 5 then .inr (.inl pl) else .inl (true, true, bh, 0 :: K, O))
    else .inr (.inl pl)
  else if t = 59 then (match (zUw 1 K O).1 with
    | [] => .inr (.inr (bh, (zUw 1 K O).2))
    | _ :: _ => .inr (.inl pl))
  else if t = 41 then (match (zUw 1 K O).1 with
    | [] => .inr (.inl pl)
    | _ :: K2 => .inl (false, false, bh, zUw 7 K2 (zUw 1 K O).2))
  else if zSg t = 0 then .inr (.inl pl)
  else if zRank (zSg t) = 4 then (if zHd4 (zUw 5 K O).1 = true then .inr (.inl pl) else .inl (true, false, bh, zSg t :: (zUw 5 K O).1, (zUw 5 K O).2))
  else .inl (true, decide (zSg t ≤ 12), bh, zSg t :: (zUw (zRank (zSg t)) K O).1, (zUw (zRank (zSg t)) K O).2)
def zYm (B : Nat → Int32) (n : Nat) : Nat → zYs → Option zYr
  | 0, _ => none
  | m + 1, s => match zYs1 B n s.1 s.2.1 s.2.2.1 s.2.2.2.1 s.2.2.2.2 with
    | .inl s2 => zYm B n m s2
    | .inr r => some r
def zYd (B : Nat → Int32) (n : Nat) (s : zYs) (r : zYr) : Prop := ∃ m, zYm B n m s = some r
section Yd
variable {B : Nat → Int32} {n : Nat}
theorem zYd_go {w mn : Bool} {i : Nat} {K : List Nat} {O : List Int32} {s2 : zYs} {r : zYr} (h : zYs1 B n w mn i K O = .inl s2) (h2 : zYd B n s2 r) : zYd B n (w, mn, i, K, O) r := by
  obtain ⟨m, hm⟩ := h2
  refine ⟨m + 1, ?_⟩
  unfold zYm
  dsimp only
  rw [h]
  exact hm
theorem zYd_end {w mn : Bool} {i : Nat} {K : List Nat} {O : List Int32} {r : zYr} (h : zYs1 B n w mn i K O = .inr r) : zYd B n (w, mn, i, K, O) r := by
  refine ⟨1, ?_⟩
  unfold zYm
  dsimp only
  rw [h]
theorem zYd_eq {w mn w2 mn2 : Bool} {i i2 : Nat} {K K2 : List Nat} {O O2 : List Int32} {r : zYr} (h : zYs1 B n w mn i K O = zYs1 B n w2 mn2 i2 K2 O2) (h2 : zYd B n (w2, mn2, i2, K2, O2) r) : zYd B n (w, mn, i, K, O) r := by
  obtain ⟨m, hm⟩ := h2
  refine ⟨m, ?_⟩
  cases m with
  | zero => cases hm
  | succ m =>
    unfold zYm at hm ⊢
    dsimp only at hm ⊢
    rw [h]
    exact hm
end Yd
abbrev zA (B : Nat → Int32) (n i : Nat) (K : List Nat) (O : List Int32) (r : zYr) : Prop := zYd B n (false, false, i, K, O) r
abbrev zR (B : Nat → Int32) (n i : Nat) (K : List Nat) (O : List Int32) (mn : Bool) (r : zYr) : Prop := zYd B n (true, mn, i, K, O) r
abbrev zV (B : Nat → Int32) (n i : Nat) (K : List Nat) (O : List Int32) (r : zYr) : Prop := zYd B n (false, false, i, zUw 7 K O) r
def zLow (r : Nat) : List Nat → Prop
  | [] => True
  | s :: _ => zRank s < r
theorem zLow_mono {r r2 : Nat} (h : r ≤ r2) : ∀ {K : List Nat}, zLow r K → zLow r2 K
  | [], _ => trivial
  | s :: _, q => Nat.lt_of_lt_of_le (show zRank s < r from q) h
theorem zUw_low {r : Nat} : ∀ {K : List Nat} {O : List Int32}, zLow r K → zUw r K O = (K, O)
  | [], _, _ => rfl
  | s :: K, O, h => by
    unfold zUw
    rw [if_neg (Nat.not_le.mpr h)]
theorem zUw_top {r s : Nat} {K : List Nat} {O : List Int32} (h : r ≤ zRank s) : zUw r (s :: K) O = zUw r K (O ++ [zCo s]) := by
  show (if r ≤ zRank s then _ else _) = _
  rw [if_pos h]
theorem zRank_le (s : Nat) : zRank s ≤ 7 := by unfold zRank; grind
def zThr (t : Int32) : Nat := if t = 59 ∨ t = 41 then 1 else if zSg t = 0 then 0 else if zRank (zSg t) = 4 then 5 else zRank (zSg t)
section Steps
variable {B : Nat → Int32} {n i : Nat} {K : List Nat} {O : List Int32} {mn : Bool} {r : zYr}
theorem zR_val (h0 : 0 ≤ (zTk B n i).1) (h1 : (zTk B n i).1 ≤ 6) (h : zV B n (zTk B n i).2.2.2 K (O ++ [if (zTk B n i).1 = 0 then (zTk B n i).2.1 else -(zTk B n i).1]) r) : zR B n i K O mn r :=
  zYd_go (by unfold zYs1; dsimp only; rw [if_pos rfl, if_pos ⟨h0, h1⟩]) h
theorem zR_neg (ht : (zTk B n i).1 = 45) (ho : ¬ zOp K = 5) (h : zR B n (zTk B n i).2.2.2 (19 :: K) O false r) : zR B n i K O mn r :=
  zYd_go (by unfold zYs1; dsimp only; rw [if_pos rfl, ht, if_neg (by decide), if_neg (fun z => absurd z.1 (by decide)), if_pos rfl, if_neg ho]) h
theorem zR_par (ht : (zTk B n i).1 = 40) (ho : ¬ zOp K = 5) (h : zR B n (zTk B n i).2.2.2 (0 :: K) O true r) : zR B n i K O mn r :=
  zYd_go (by unfold zYs1; dsimp only; rw [if_pos rfl, ht, if_neg (by decide), if_neg (fun z => absurd z.1 (by decide)), if_neg (by decide), if_pos rfl, if_neg ho]) h
theorem zR_not (ht : (zTk B n i).1 = 12) (ho : ¬ zOp K = 5) (h : zR B n (zTk B n i).2.2.2 (13 :: K) O true r) : zR B n i K O true r :=
  zYd_go (by unfold zYs1; dsimp only; rw [if_pos rfl, ht, if_neg (by decide), if_pos ⟨rfl, rfl⟩, if_neg ho]) h
theorem zR_full (ht : (zTk B n i).1 = 45 ∨ (zTk B n i).1 = 40) (ho : zOp K = 5) : zR B n i K O mn (.inl (zTk B n i).2.2.1) :=
  zYd_end (by
    unfold zYs1
    dsimp only
    rcases ht with ht | ht
    · rw [if_pos rfl, ht, if_neg (by decide), if_neg (fun z => absurd z.1 (by decide)), if_pos rfl, if_pos ho]
    · rw [if_pos rfl, ht, if_neg (by decide), if_neg (fun z => absurd z.1 (by decide)), if_neg (by decide), if_pos rfl, if_pos ho])
theorem zR_fulln (ht : (zTk B n i).1 = 12) (ho : zOp K = 5) : zR B n i K O true (.inl (zTk B n i).2.2.1) :=
  zYd_end (by unfold zYs1; dsimp only; rw [if_pos rfl, ht, if_neg (by decide), if_pos ⟨rfl, rfl⟩, if_pos ho])
theorem zR_bad (h0 : ¬ (0 ≤ (zTk B n i).1 ∧ (zTk B n i).1 ≤ 6)) (h1 : ¬ (zTk B n i).1 = 45) (h2 : ¬ (zTk B n i).1 = 40) (h3 : (zTk B n i).1 = 12 → mn = false) : zR B n i K O mn (.inl (zTk B n i).2.2.1) :=
  zYd_end (by unfold zYs1; dsimp only; rw [if_pos rfl, if_neg h0, if_neg (fun z => by rw [h3 z.1] at z; exact absurd z.2 (by decide)), if_neg h1, if_neg h2])
theorem zA_bin {s : Nat} (hs : zSg (zTk B n i).1 = s) (h0 : ¬ s = 0) (h4 : ¬ zRank s = 4) (hl : zLow (zRank s) K) (h : zR B n (zTk B n i).2.2.2 (s :: K) O (decide (s ≤ 12)) r) : zA B n i K O r :=
  zYd_go (by
    have n1 : ¬ (zTk B n i).1 = 59 := fun z => h0 (by rw [← hs, z]; decide)
    have n2 : ¬ (zTk B n i).1 = 41 := fun z => h0 (by rw [← hs, z]; decide)
    unfold zYs1
    dsimp only
    rw [if_neg (by decide), if_neg n1, if_neg n2, hs, if_neg h0, if_neg h4, zUw_low hl]) h
theorem zA_cmp {s : Nat} (hs : zSg (zTk B n i).1 = s) (h4 : zRank s = 4) (hl : zLow 4 K) (h : zR B n (zTk B n i).2.2.2 (s :: K) O false r) : zA B n i K O r :=
  zYd_go (by
    have h0 : ¬ s = 0 := fun z => by rw [z] at h4; exact absurd h4 (by decide)
    have n1 : ¬ (zTk B n i).1 = 59 := fun z => h0 (by rw [← hs, z]; decide)
    have n2 : ¬ (zTk B n i).1 = 41 := fun z => h0 (by rw [← hs, z]; decide)
    unfold zYs1
    dsimp only
    rw [if_neg (by decide), if_neg n1, if_neg n2, hs, if_neg h0, if_pos h4, zUw_low (zLow_mono (by decide) hl), if_neg]
    cases K with
    | nil => exact fun z => by cases z
    | cons a K =>
      have : ¬ zRank a = 4 := fun z => by have : zRank a < 4 := hl; omega
      simp [zHd4, this]) h
theorem zA_cmp2 {s : Nat} (hs : zRank (zSg (zTk B n i).1) = 4) (h4 : zRank s = 4) : zA B n i (s :: K) O (.inl (zTk B n i).2.2.1) :=
  zYd_end (by
    have h0 : ¬ zSg (zTk B n i).1 = 0 := fun z => by rw [z] at hs; exact absurd hs (by decide)
    have n1 : ¬ (zTk B n i).1 = 59 := fun z => h0 (by rw [z]; decide)
    have n2 : ¬ (zTk B n i).1 = 41 := fun z => h0 (by rw [z]; decide)
    unfold zYs1
    dsimp only
    rw [if_neg (by decide), if_neg n1, if_neg n2, if_neg h0, if_pos hs, zUw_low (show zLow 5 (s :: K) from show zRank s < 5 by omega), if_pos]
    simp [zHd4, h4])
theorem zA_par (ht : (zTk B n i).1 = 41) (h : zV B n (zTk B n i).2.2.2 K O r) : zA B n i (0 :: K) O r :=
  zYd_go (by
    unfold zYs1
    dsimp only
    rw [if_neg (by decide), ht, if_neg (by decide), if_pos rfl, zUw_low (show zLow 1 (0 :: K) from show zRank 0 < 1 by decide)]) h
theorem zA_semi (ht : (zTk B n i).1 = 59) : zA B n i [] O (.inr ((zTk B n i).2.2.2, O)) :=
  zYd_end (by
    unfold zYs1
    dsimp only
    rw [if_neg (by decide), ht, if_pos rfl]
    rfl)
theorem zA_top (h1 : ¬ (zTk B n i).1 = 59) (h2 : zSg (zTk B n i).1 = 0) : zA B n i [] O (.inl (zTk B n i).2.2.1) :=
  zYd_end (by
    unfold zYs1
    dsimp only
    rw [if_neg (by decide), if_neg h1, if_pos h2]
    split
    · rfl
    · rfl)
theorem zA_nopar (h1 : ¬ (zTk B n i).1 = 41) (h2 : zSg (zTk B n i).1 = 0) : zA B n i (0 :: K) O (.inl (zTk B n i).2.2.1) :=
  zYd_end (by
    unfold zYs1
    dsimp only
    rw [if_neg (by decide), if_neg h1, if_pos h2, zUw_low (show zLow 1 (0 :: K) from show zRank 0 < 1 by decide)]
    split
    · rfl
    · rfl)
/-- a sign that waits would come now -/
theorem zA_col {s : Nat} (ht : zThr (zTk B n i).1 ≤ zRank s) (h0 : 1 ≤ zRank s) (h : zA B n i K (O ++ [zCo s]) r) : zA B n i (s :: K) O r :=
  zYd_eq (by
    unfold zYs1
    dsimp only
    rw [if_neg (show ¬ (false : Bool) = true by decide), if_neg (show ¬ (false : Bool) = true by decide)]
    rw [zUw_top (K := K) (O := O) h0]
    by_cases c1 : (zTk B n i).1 = 59
    · rw [if_pos c1, if_pos c1]
    rw [if_neg c1, if_neg c1]
    by_cases c2 : (zTk B n i).1 = 41
    · rw [if_pos c2, if_pos c2]
    rw [if_neg c2, if_neg c2]
    by_cases c3 : zSg (zTk B n i).1 = 0
    · rw [if_pos c3, if_pos c3]
    rw [if_neg c3, if_neg c3]
    unfold zThr at ht
    rw [if_neg (fun z => z.elim c1 c2), if_neg c3] at ht
    by_cases c4 : zRank (zSg (zTk B n i).1) = 4
    · rw [if_pos c4] at ht
      rw [if_pos c4, if_pos c4, zUw_top (K := K) (O := O) ht]
    · rw [if_neg c4] at ht
      rw [if_neg c4, if_neg c4, zUw_top (K := K) (O := O) ht]) h
end Steps
