/-! the night's walk, as it is told *)
-/
def zMen (d : ab_M) : Nat := (d 2 6).toNatClampNeg
def zPcs (d : ab_M) : Nat := (d 1 4).toNatClampNeg
def zHrs (d : ab_M) : Nat := (d 17 0).toNatClampNeg
def zBrk (d : ab_M) : Nat := (d 17 1).toNatClampNeg
def zAbs (x : Int32) : Int32 := if 0 ≤ x then x else 0 - x
/-- where it is most risky, up to p: the place, and how much -/
def zRiskF (d : ab_M) (h : Nat) (sc : Nat → Nat) (v f : Int32) : Nat → Int32 × Int32
  | 0 => (f, -1)
  | p + 1 => if zAbs (nI p - f) ≤ v then (if (zRiskF d h sc v f p).2 < nI (sc p * zAsk d 0 p h (sc p) 0) ∨ (nI (sc p * zAsk d 0 p h (sc p) 0) = (zRiskF d h sc v f p).2 ∧ nI p = f) then (nI p, nI (sc p * zAsk d 0 p h (sc p) 0)) else zRiskF d h sc v f p) else zRiskF d h sc v f p
def zCome (d : ab_M) (h : Nat) (pl bk : Nat → Int32) (sc : Nat → Nat) (m : Nat) : Int32 :=
  if nI m = d 6 8 ∧ nI h = d 6 9 then d 6 10
  else if h = 0 then (if d 25 m = 4 then d 27 m else d 26 m)
  else if d 25 m = 1 ∨ d 25 m = 4 then zTow (d 28 m) (pl m) (if bk m = 0 then d 27 m else d 26 m)
  else if d 25 m = 5 then (if zAwk (d 25 m) (d 29 m) (nI h) then zTow (d 28 m) (pl m) (if bk m = 0 then d 27 m else d 26 m) else pl m)
  else if d 25 m = 2 then (zRiskF d h sc (d 28 m) (pl m) (zPcs d)).1
  else if d 25 m = 3 then zTow (d 28 m) (pl m) (if 0 ≤ d 30 (m * 12 + h) ∧ d 30 (m * 12 + h) < d 1 4 ∧ d 30 (m * 12 + h) < 8 then d 30 (m * 12 + h) else d 26 m)
  else zTow (d 28 m) (pl m) (d 26 m)
def zBack (d : ab_M) (h : Nat) (bk : Nat → Int32) (m : Nat) (x : Int32) : Int32 := ab_b (¬ x = d 26 m ∧ (x = d 27 m ∨ (0 < h ∧ ¬ bk m = 0)))
/-- who looks at a piece: others, then men up to m -/
def zLk (d : ab_M) (h : Nat) (pl : Nat → Int32) : Nat → Nat → Int32
  | 0, p => zOth (d 1 7) (d 17 3) (d 17 4) (d 16 p) (d 6 11) (d 6 12) (nI p) (nI h)
  | m + 1, p => if (¬ nI m = d 6 7 ∧ zAwk (d 25 m) (d 29 m) (nI h)) ∧ pl m = nI p then zLk d h pl m p ||| ((1 : Int32) <<< (nI m &&& 31)) else zLk d h pl m p
abbrev zSt : Type := (Nat → Int32) × (Nat → Int32) × (Nat → Nat) × (Nat → Int32)
/-- places, ways back, since, lookers of an hour, out of those of the hour ahead -/
def zHr (d : ab_M) (h : Nat) (s : zSt) : zSt :=
  let sc : Nat → Nat := fun p => if h = 0 ∨ ¬ s.2.2.2 p = 0 then 1 else s.2.2.1 p + 1
  let pl : Nat → Int32 := zCome d h s.1 s.2.1 sc
  (pl, fun m => zBack d h s.2.1 m (pl m), sc, zLk d h pl (zMen d))
def zS0 : zSt := (fun _ => 0, fun _ => 0, fun _ => 0, fun _ => 0)
def zWk (d : ab_M) : Nat → zSt
  | 0 => zHr d 0 zS0
  | h + 1 => zHr d (h + 1) (zWk d h)
/-- what stands of the numbers -/
def zI0 (d : ab_M) : Prop := (1 ≤ d 17 0 ∧ d 17 0 ≤ 12) ∧ (2 ≤ d 17 1 ∧ d 17 1 ≤ 6) ∧ (0 ≤ d 17 2 ∧ d 17 2 ≤ 9) ∧ (0 ≤ d 17 3 ∧ d 17 3 ≤ 8) ∧ (0 ≤ d 17 4 ∧ d 17 4 ≤ 12) ∧ (0 ≤ d 1 4 ∧ d 1 4 ≤ 8) ∧ (-1 ≤ d 1 7 ∧ d 1 7 ≤ 11) ∧ (0 ≤ d 2 6 ∧ d 2 6 ≤ 5)
def zI1 (d : ab_M) : Prop := ∀ m : Nat, m < zMen d → (0 ≤ d 25 m ∧ d 25 m ≤ 5) ∧ (0 ≤ d 26 m ∧ d 26 m < d 1 4) ∧ (0 ≤ d 27 m ∧ d 27 m < d 1 4) ∧ (1 ≤ d 28 m ∧ d 28 m ≤ 3) ∧ (0 ≤ d 29 m ∧ d 29 m ≤ 5) ∧ (nI m = d 6 8 → 0 ≤ d 6 10 ∧ d 6 10 < d 1 4)
def zNight (M : ab_M) : Prop := zAsks M ∧ zI0 M ∧ zI1 M
def zScM (M : ab_M) (h : Nat) : Nat → Nat := fun p => (M 39 (h * 8 + p)).toNatClampNeg
def zScOK (M : ab_M) (h : Nat) : Prop := ∀ p, p < zPcs M → ∃ s : Nat, 1 ≤ s ∧ s ≤ 12 ∧ M 39 (h * 8 + p) = nI s
def zt_X10_riskiest : ab_T := ab_m3 6 (fun m h f M _ => zNight M ∧ ∃ mm g : Nat, mm < zMen M ∧ g < 12 ∧ m = nI mm ∧ h = nI g ∧ zScOK M g)
  (fun m h f M N o M2 N2 => N2 = N ∧ zFr [33, 35, 36] M M2 ∧ zAsks M2 ∧ o = some (.int (zRiskF M h.toNatClampNeg (zScM M h.toNatClampNeg) (M 28 m.toNatClampNeg) f (zPcs M)).1))
theorem zt_X10_riskiest_mono : ab_mono zt_X10_riskiest := ab_m3_mono _ _ _
theorem zV_X10_riskiest : ab_recv zw_C vwCl RX10 zt_X10_riskiest := ab_m3_v rfl rfl
def zt_X10_comes : ab_T := ab_m2 6 (fun m h M _ => zNight M ∧ ∃ mm g : Nat, mm < zMen M ∧ g < 12 ∧ m = nI mm ∧ h = nI g ∧ zScOK M g)
  (fun m h M N o M2 N2 => N2 = N ∧ zFr [33, 35, 36] M M2 ∧ zAsks M2 ∧ o = some (.int (zCome M h.toNatClampNeg (fun i => M 37 ((h.toNatClampNeg - 1) * 5 + i)) (M 40) (zScM M h.toNatClampNeg) m.toNatClampNeg)))
theorem zt_X10_comes_mono : ab_mono zt_X10_comes := ab_m2_mono _ _ _
theorem zV_X10_comes : ab_recv zw_C vwCl RX10 zt_X10_comes := ab_m2_v rfl rfl
def zt_X10_go : ab_T := ab_m0 6 (fun M _ => zNight M)
  (fun M N o M2 N2 => o = none ∧ N2 = N ∧ zFr [33, 35, 36, 37, 38, 39, 40] M M2 ∧ zAsks M2 ∧ ∀ h, h < zHrs M → (∀ m, m < zMen M → M2 37 (h * 5 + m) = (zWk M h).1 m) ∧ ∀ p, p < zPcs M → M2 39 (h * 8 + p) = nI ((zWk M h).2.2.1 p) ∧ M2 38 (h * 8 + p) = (zWk M h).2.2.2 p)
theorem zt_X10_go_mono : ab_mono zt_X10_go := ab_m0_mono _ _ _
theorem zV_X10_go : ab_recv zw_C vwCl RX10 zt_X10_go := ab_m0_v rfl rfl
