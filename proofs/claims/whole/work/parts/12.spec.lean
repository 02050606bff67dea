/-! frames, stacks, the evaluation of a text *)
-/
def zFr (L : List Nat) (M M2 : ab_M) : Prop := ∀ c, c ∉ L → M2 c = M c
theorem zFr_rf (L : List Nat) (M : ab_M) : zFr L M M := fun _ _ => rfl
theorem zFr_u {L : List Nat} {M M2 : ab_M} (h : zFr L M M2) {k : Nat} (hk : k ∈ L) (f : Nat → Int32) : zFr L M (ab_u M2 k f) := fun c hc => by
  have hne : c ≠ k := fun e => hc (by rw [e]; exact hk)
  rw [ab_u_ne M2 f hne]
  exact h c hc
theorem zFr_tr {L : List Nat} {M M2 M3 : ab_M} (h : zFr L M M2) (h2 : zFr L M2 M3) : zFr L M M3 := fun c hc => (h2 c hc).trans (h c hc)
theorem zFr_mono {L L2 : List Nat} {M M2 : ab_M} (h : zFr L M M2) (hs : ∀ c ∈ L, c ∈ L2) : zFr L2 M M2 := fun c hc => h c (fun q => hc (hs c q))
theorem upd_eq (f : Nat → Int32) (k : Nat) (x : Int32) : upd f k x k = x := by simp [upd]
theorem upd_ne (f : Nat → Int32) {k j : Nat} (x : Int32) (h : j ≠ k) : upd f k x j = f j := by simp [upd, h]
theorem updL_eq (f : Nat → Int64) (k : Nat) (x : Int64) : vp_updL f k x k = x := by simp [vp_updL]
theorem updL_ne (f : Nat → Int64) {k j : Nat} (x : Int64) (h : j ≠ k) : vp_updL f k x j = f j := by simp [vp_updL, h]
theorem nI_in_ {n N : Nat} (h : n < N) (hN : N < 2 ^ 31 := by decide) : vp_in (nI n) N := vp_in_nI h hN
/-- a stack of t numbers, the top first -/
def zStk (f : Nat → Int32) : Nat → List Int32 → Prop
  | 0, [] => True
  | t + 1, x :: r => f t = x ∧ zStk f t r
  | _, _ => False
theorem zStk_upd {f : Nat → Int32} : ∀ {t : Nat} {st : List Int32} {k : Nat} (x : Int32), zStk f t st → t ≤ k → zStk (upd f k x) t st
  | 0, [], _, _, _, _ => trivial
  | t + 1, y :: r, k, x, h, hk => ⟨by rw [upd_ne _ _ (by omega)]; exact h.1, zStk_upd x h.2 (by omega)⟩
  | 0, _ :: _, _, _, h, _ => h.elim
  | _ + 1, [], _, _, h, _ => h.elim
def zStep (nm : Nat → Int32) (c : Int32) (st : List Int32) : List Int32 :=
  if -7 < c then (if c < 0 then nm (-1 - c).toNatClampNeg else c) :: st
  else if -9 < c then (match st with
    | x :: r => (if c = -8 then -x else if x = 0 then 1 else 0) :: r
    | [] => [])
  else (match st with
    | y :: x :: r => zj c x y :: r
    | r => r)
def zEval (code nm : Nat → Int32) : Nat → Nat → List Int32 → List Int32
  | _, 0, st => st
  | n, m + 1, st => zEval code nm (n + 1) m (zStep nm (code n) st)
def zTop : List Int32 → Int32
  | [] => 0
  | x :: _ => x
/-- places of a text's part -/
def zFrom (d : ab_M) (th : Nat) : Nat := if th = 0 then (d 3 3).toNatClampNeg * 160 else (d 32 ((d 3 3).toNatClampNeg * 3 + th - 1)).toNatClampNeg
def zTo (d : ab_M) (th : Nat) : Nat := (d 32 ((d 3 3).toNatClampNeg * 3 + th)).toNatClampNeg
def zVal (d : ab_M) (th : Nat) (nm : Nat → Int32) : Int32 := zTop (zEval (d 31) nm (zFrom d th) (zTo d th - zFrom d th) [])
/-- the law's text lies where it should -/
def zLawOK (d : ab_M) : Prop := ∃ w e0 e1 e2 : Nat, w < 6 ∧ d 3 3 = nI w ∧ d 32 (w * 3) = nI e0 ∧ d 32 (w * 3 + 1) = nI e1 ∧ d 32 (w * 3 + 2) = nI e2 ∧ w * 160 ≤ e0 ∧ e0 ≤ e1 ∧ e1 ≤ e2 ∧ e2 ≤ w * 160 + 160
