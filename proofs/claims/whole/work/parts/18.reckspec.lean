/-! a night of one piece in parts, as it is told *)
-/
abbrev zRs : Type := (Nat → Int64) × Int64 × Int64
def zLook1 (d : ab_M) (p h pc st : Nat) (s : zRs) : zRs :=
  let seen : Int64 := s.1 st * lN (zAsk d 1 p h st pc) / 100
  (vp_updL (vp_updL s.1 st (s.1 st - seen)) 0 (vp_updL s.1 st (s.1 st - seen) 0 + seen), s.2.1 + seen * lN (zAsk d 2 p h st 0), s.2.2 + seen)
/-- n steps of a look, from 1 on -/
def zLook (d : ab_M) (p h pc : Nat) : Nat → zRs → zRs
  | 0, s => s
  | n + 1, s => zLook1 d p h pc (n + 1) (zLook d p h pc n s)
def zShift (f : Nat → Int64) (b : Nat) : Nat → Int64 := fun j => if 2 ≤ j ∧ j < b then f (j - 1) else f j
def zGrow (d : ab_M) (p h sc : Nat) (s : zRs) : zRs :=
  let b := zBrk d
  let f1 : Nat → Int64 := zShift (vp_updL s.1 b (s.1 b + s.1 (b - 1))) b
  let x : Int64 := f1 0 * lN (zAsk d 0 p h sc 0) / 1000
  (vp_updL (vp_updL f1 1 x) 0 (vp_updL f1 1 x 0 - x), s.2.1 + s.1 (b - 1) * lN (zAsk d 2 p h b 0), s.2.2)
abbrev zBit (x : Int32) (w : Nat) : Prop := ¬ (x >>> (nI w &&& 31)) &&& 1 = 0
def zPace (d : ab_M) (w : Nat) : Nat := if w < zMen d then (d 28 w).toNatClampNeg else if w = 7 then 1 else 0
def zLooks (d : ab_M) (p h : Nat) (lk : Int32) : Nat → zRs → zRs
  | 0, s => s
  | w + 1, s => if zBit lk w then zLook d p h (zPace d w) (zBrk d - 1) (zLooks d p h lk w s) else zLooks d p h lk w s
def zRk (d : ab_M) (p : Nat) : Nat → zRs
  | 0 => (fun j => if j = 0 then 1000000000 else 0, 0, 0)
  | h + 1 => zLooks d p h ((zWk d h).2.2.2 p) 8 (zGrow d p h (zSc d h p) (zRk d p h))
def zTold (d : ab_M) (s : zRs) (what : Nat) : Int64 := if what = 0 then s.2.1 else if what = 1 then s.1 (zBrk d) else s.2.2
/-- all harm of the first n pieces -/
def zSum (d : ab_M) (what : Nat) : Nat → Int64
  | 0 => 0
  | p + 1 => zSum d what p + zTold d (zRk d p (zHrs d)) what
def zAll (d : ab_M) : Int64 := zSum d 0 (zPcs d)
def zWalked (M : ab_M) : Prop := ∀ h, h < zHrs M → (∀ m, m < zMen M → M 37 (h * 5 + m) = (zWk M h).1 m) ∧ ∀ p, p < zPcs M → M 39 (h * 8 + p) = nI (zSc M h p) ∧ M 38 (h * 8 + p) = (zWk M h).2.2.2 p
def zNfr (L : List Nat) (N N2 : ab_N) : Prop := ∀ c, c ∉ L → N2 c = N c
/-- the reckoning holds a state -/
def zHas (N : ab_N) (s : zRs) : Prop := (∀ j, j < 7 → N 41 j = s.1 j) ∧ N 7 4 = s.2.1 ∧ N 7 5 = s.2.2
def zt_X6_look : ab_T := ab_m3 7 (fun p h pc M N => zNight M ∧ ∃ q g c : Nat, q < zPcs M ∧ g < 12 ∧ c ≤ 3 ∧ p = nI q ∧ h = nI g ∧ pc = nI c)
  (fun p h pc M N o M2 N2 => o = none ∧ zFr [33, 35, 36] M M2 ∧ zAsks M2 ∧ zNfr [7, 41] N N2 ∧ ∀ s, zHas N s → zHas N2 (zLook M p.toNatClampNeg h.toNatClampNeg pc.toNatClampNeg (zBrk M - 1) s))
theorem zt_X6_look_mono : ab_mono zt_X6_look := ab_m3_mono _ _ _
theorem zV_X6_look : ab_recv zw_C vwCl RX6 zt_X6_look := ab_m3_v rfl rfl
def zt_X6_grow : ab_T := ab_m2 7 (fun p h M N => zNight M ∧ ∃ q g s : Nat, q < zPcs M ∧ g < 12 ∧ p = nI q ∧ h = nI g ∧ s ≤ 12 ∧ M 39 (g * 8 + q) = nI s)
  (fun p h M N o M2 N2 => o = none ∧ zFr [33, 35, 36] M M2 ∧ zAsks M2 ∧ zNfr [7, 41] N N2 ∧ ∀ s, zHas N s → zHas N2 (zGrow M p.toNatClampNeg h.toNatClampNeg (M 39 (h.toNatClampNeg * 8 + p.toNatClampNeg)).toNatClampNeg s))
theorem zt_X6_grow_mono : ab_mono zt_X6_grow := ab_m2_mono _ _ _
theorem zV_X6_grow : ab_recv zw_C vwCl RX6 zt_X6_grow := ab_m2_v rfl rfl
def zt_X6_reckon : ab_T := ab_m2 7 (fun p h M N => zNight M ∧ zWalked M ∧ ∃ q g : Nat, q < zPcs M ∧ g ≤ zHrs M ∧ p = nI q ∧ h = nI g)
  (fun p h M N o M2 N2 => o = none ∧ zFr [33, 35, 36] M M2 ∧ zAsks M2 ∧ zNfr [7, 41] N N2 ∧ zHas N2 (zRk M p.toNatClampNeg h.toNatClampNeg))
theorem zt_X6_reckon_mono : ab_mono zt_X6_reckon := ab_m2_mono _ _ _
theorem zV_X6_reckon : ab_recv zw_C vwCl RX6 zt_X6_reckon := ab_m2_v rfl rfl
/-- Arrays.fill of the two rows that are filled -/
def zt_J7_fill_d0a16 : ab_T := fun as M N k => match as with
  | [.ref a, .long x] => a = 41 ∧ ∀ f : Nat → Int64, (∀ j, j < 7 → f j = x) → k none M (ab_u N 41 f)
  | _ => False
theorem zt_J7_fill_d0a16_mono : ab_mono zt_J7_fill_d0a16 := fun as M N k k2 hk h => by
  unfold zt_J7_fill_d0a16 at h ⊢
  split at h
  · exact ⟨h.1, fun f hf => hk _ _ _ (h.2 f hf)⟩
  · exact h
def zt_J7_fill_53178 : ab_T := fun as M N k => match as with
  | [.ref a, .int x] => a = 42 ∧ ∀ f : Nat → Int32, (∀ j, j < 8 → f j = x) → k none (ab_u M 42 f) N
  | _ => False
theorem zt_J7_fill_53178_mono : ab_mono zt_J7_fill_53178 := fun as M N k k2 hk h => by
  unfold zt_J7_fill_53178 at h ⊢
  split at h
  · exact ⟨h.1, fun f hf => hk _ _ _ (h.2 f hf)⟩
  · exact h
