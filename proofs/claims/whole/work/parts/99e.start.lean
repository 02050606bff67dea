/-! the law: its start *)
-/
theorem zTb {w : Cond} (i : Nat) (h : tables_1[i]? = some w) : w ∈ lw_tbl := List.mem_append_right _ (List.mem_of_getElem? h)
theorem zArr {s : State} {args : Array Value} {ty : FieldType} (h : (Cond.arrayClass ty).before args s = true) : ∃ cA : ClassId, ArrOfT s cA ty ∧ s.vm.findClass ("[" ++ ty.toString) = some cA := by
  obtain ⟨cA, kA, comp, h1, h2, h3⟩ := Cond.arrayClass_spec h
  exact ⟨cA, fun n z => ⟨fun k h => (by cases h), kA, h2, comp, h3⟩, h1⟩
theorem zInst : ∀ (c : Nat) (q : vw_C), vwCl[c]? = some q → ∃ n : Nat, Cond.instantiable q.1 n ∈ ab_B
  | 0, q, h => by
    cases h
    exact ⟨2, ab_in 366 (by decide +kernel) rfl⟩
  | 1, q, h => by
    cases h
    exact ⟨5, ab_in 181 (by decide +kernel) rfl⟩
  | 2, q, h => by
    cases h
    exact ⟨8, ab_in 30 (by decide +kernel) rfl⟩
  | 3, q, h => by
    cases h
    exact ⟨8, ab_in 284 (by decide +kernel) rfl⟩
  | 4, q, h => by
    cases h
    exact ⟨5, ab_in 337 (by decide +kernel) rfl⟩
  | 5, q, h => by
    cases h
    exact ⟨7, ab_in 81 (by decide +kernel) rfl⟩
  | 6, q, h => by
    cases h
    exact ⟨6, ab_in 256 (by decide +kernel) rfl⟩
  | 7, q, h => by
    cases h
    exact ⟨3, ab_in 318 (by decide +kernel) rfl⟩
  | 8, q, h => by
    cases h
    exact ⟨8, ab_in 149 (by decide +kernel) rfl⟩
  | 9, q, h => by
    cases h
    exact ⟨5, ab_in 122 (by decide +kernel) rfl⟩
  | 10, q, h => by
    cases h
    exact ⟨13, ab_in 203 (by decide +kernel) rfl⟩
  | 11, q, h => by
    cases h
    exact ⟨11, ab_in 22 (by decide +kernel) rfl⟩
  | 12, q, h => by
    cases h
    exact ⟨72, ab_in 951 (by decide +kernel) rfl⟩
  | c + 13, q, h => by
    rw [List.getElem?_eq_none (show vwCl.length ≤ c + 13 from Nat.le_add_left 13 c)] at h
    cases h
theorem zKnown {s : State} {args : Array Value} (hts : ∀ w ∈ ab_B, w.before args s = true) : ∃ (D : va_G) (cy : FieldType → ClassId), va_K D vwCl (ab_tys cy) s := by
  obtain ⟨cI, aI, nI_⟩ := zArr (ty := .int) (hts _ (ab_in 79 (by decide +kernel) rfl))
  obtain ⟨cZ, aZ, nZ_⟩ := zArr (ty := .boolean) (hts _ (ab_in 254 (by decide +kernel) rfl))
  obtain ⟨cJ, aJ, nJ_⟩ := zArr (ty := .long) (hts _ (ab_in 282 (by decide +kernel) rfl))
  have h : ∀ c : Nat, ∃ d : ClassId × (Nat → Nat), ∀ q : vw_C, vwCl[c]? = some q → u_Kn s q.1 q.2.1 q.2.2 d.1 d.2 := fun c => by
    by_cases hz : ∃ q : vw_C, vwCl[c]? = some q
    · obtain ⟨⟨C, T, N⟩, hq⟩ := hz
      obtain ⟨h1, -⟩ := zl_cl c C T N hq
      obtain ⟨n, hn⟩ := zInst c _ hq
      obtain ⟨cC, iS, hk⟩ := u_known hts h1 (hts _ hn)
      exact ⟨(cC, iS), fun q2 hq2 => by
        cases Option.some.inj (hq.symm.trans hq2)
        exact hk⟩
    · exact ⟨(cI, fun _ => 0), fun q hq => absurd ⟨q, hq⟩ hz⟩
  refine ⟨(fun c => (Classical.choose (h c)).1, fun c => (Classical.choose (h c)).2), fun ty => match ty with | .long => cJ | .boolean => cZ | _ => cI, fun c q hq => Classical.choose_spec (h c) q hq, fun k q hq => ?_⟩
  match k, hq with
  | 0, hq =>
    cases hq
    exact ⟨aI, nI_⟩
  | 1, hq =>
    cases hq
    exact ⟨aJ, nJ_⟩
  | 2, hq =>
    cases hq
    exact ⟨aZ, nZ_⟩
  | k + 3, hq => simp [ab_tys] at hq
abbrev zFlat : List Cond := flatC (Jvm.Cond.and given_1 narrow_1)
theorem zE0 : Cond.arrayOf (.static "WalkTheDike" "LEAST_OF_NIGHT" "[I") .int ∈ zFlat ∧ Cond.eq (.length (.static "WalkTheDike" "LEAST_OF_NIGHT" "[I")) (.int (Int32.ofNat 5)) ∈ zFlat ∧ ∀ j, j < 5 → Cond.eq (.elem (.static "WalkTheDike" "LEAST_OF_NIGHT" "[I") (.int (Int32.ofNat j))) (.int (zs_LEAST_OF_NIGHT j)) ∈ zFlat := by decide +kernel
theorem zE1 : Cond.arrayOf (.static "WalkTheDike" "MOST_OF_NIGHT" "[I") .int ∈ zFlat ∧ Cond.eq (.length (.static "WalkTheDike" "MOST_OF_NIGHT" "[I")) (.int (Int32.ofNat 5)) ∈ zFlat ∧ ∀ j, j < 5 → Cond.eq (.elem (.static "WalkTheDike" "MOST_OF_NIGHT" "[I") (.int (Int32.ofNat j))) (.int (zs_MOST_OF_NIGHT j)) ∈ zFlat := by decide +kernel
theorem zE2 : Cond.arrayOf (.static "WalkTheDike" "MOST_OF_THING" "[I") .int ∈ zFlat ∧ Cond.eq (.length (.static "WalkTheDike" "MOST_OF_THING" "[I")) (.int (Int32.ofNat 3)) ∈ zFlat ∧ ∀ j, j < 3 → Cond.eq (.elem (.static "WalkTheDike" "MOST_OF_THING" "[I") (.int (Int32.ofNat j))) (.int (zs_MOST_OF_THING j)) ∈ zFlat := by decide +kernel
def zTm : Nat → Term := fun i => match i with
  | 0 => .string "WalkTheDike" 94
  | _ => .string "WalkTheDike$Tape" 98
theorem zE3 : ∀ i, i < 2 → Cond.exactly (zTm i) "java/lang/String" ∈ zFlat ∧ Cond.eq (.field (zTm i) "java/lang/String" "coder" "B") (.int 0) ∈ zFlat ∧ Cond.arrayOf (.field (zTm i) "java/lang/String" "value" "[B") .byte ∈ zFlat ∧ Cond.eq (.length (.field (zTm i) "java/lang/String" "value" "[B")) (.int (Int32.ofNat (zs_len.getD i 0))) ∈ zFlat := by decide +kernel
theorem zE4 : ∀ j, j < 89 → Cond.eq (.elem (.field (zTm 0) "java/lang/String" "value" "[B") (.int (Int32.ofNat j))) (.int ((zs_byt.getD 0 []).getD j 0)) ∈ zFlat := by decide +kernel
theorem zE5 : ∀ j, j < 57 → Cond.eq (.elem (.field (zTm 1) "java/lang/String" "value" "[B") (.int (Int32.ofNat j))) (.int ((zs_byt.getD 1 []).getD j 0)) ∈ zFlat := by decide +kernel
theorem zE6 : Cond.not (Cond.eq (zTm 0) (zTm 1)) ∈ zFlat := by decide +kernel
theorem zE7 : Cond.eq (.static "java/lang/String" "COMPACT_STRINGS" "Z") (.int 1) ∈ zFlat ∧ Cond.isRef (.static "jdk/internal/util/Preconditions" "SIOOBE_FORMATTER" "Ljava/util/function/BiFunction;") ∈ zFlat := by decide +kernel
set_option maxHeartbeats 4000000 in
theorem zStat {s : State} {b : Nat} (hts : ∀ w ∈ lw_tbl, w.before #[Value.ref b] s = true) (hgv : (Jvm.Cond.and given_1 narrow_1).before #[Value.ref b] s = true) : ∃ ad0 : Nat → Nat, zZ_C ad0 (zA0 s) s s.heap := by
  have hf := flat_of_before _ hgv
  have hA : ∀ a : Nat, a < s.heap.size → ¬ zA0 s a := fun a h z => absurd h (Nat.not_lt.mpr z)
  have hini : (Cond.initialized "WalkTheDike").before #[Value.ref b] s = true := hts _ (zTb 1 (by decide +kernel))
  obtain ⟨t0, e0, T0⟩ := va_Tof (f := fun j => .int (zs_LEAST_OF_NIGHT j)) (A := zA0 s) (N := 5) (by decide) (hf _ zE0.1) (va_eqt (hf _ zE0.2.1)) (fun j hj => va_eqt (hf _ (zE0.2.2 j hj))) hA
  obtain ⟨t1, e1, T1⟩ := va_Tof (f := fun j => .int (zs_MOST_OF_NIGHT j)) (A := zA0 s) (N := 5) (by decide) (hf _ zE1.1) (va_eqt (hf _ zE1.2.1)) (fun j hj => va_eqt (hf _ (zE1.2.2 j hj))) hA
  obtain ⟨t2, e2, T2⟩ := va_Tof (f := fun j => .int (zs_MOST_OF_THING j)) (A := zA0 s) (N := 3) (by decide) (hf _ zE2.1) (va_eqt (hf _ zE2.2.1)) (fun j hj => va_eqt (hf _ (zE2.2.2 j hj))) hA
  obtain ⟨adK, adV, hV, hE⟩ := vk_Sof (N := 2) (tm := zTm) (len := zs_len) (byt := zs_byt) (A := zA0 s) (by decide) (fun i hi => hf _ (zE3 i hi).1) (fun i hi => hf _ (zE3 i hi).2.1) (fun i hi => hf _ (zE3 i hi).2.2.1) (fun i hi => hf _ (zE3 i hi).2.2.2) (fun i hi j hj => by
    match i, hi with
    | 0, _ => exact hf _ (zE4 j hj)
    | 1, _ => exact hf _ (zE5 j hj)) (fun i j hi hj hij => by
    match i, hi, j, hj with
    | 0, _, 1, _ => exact Or.inl (hf _ zE6)
    | 1, _, 0, _ => exact Or.inr (hf _ zE6)
    | 0, _, 0, _ => exact absurd rfl hij
    | 1, _, 1, _ => exact absurd rfl hij) hA
  refine ⟨fun k => match k with | 50 => t0 | 51 => t1 | 52 => t2 | 60 => adK 0 | 61 => adK 1 | 62 => adV 0 | _ => adV 1, ⟨va_Zref (hts _ (zTb 560 (by decide +kernel))) hini e0 hA, T0⟩, ⟨va_Zref (hts _ (zTb 562 (by decide +kernel))) hini e1 hA, T1⟩, ⟨va_Zref (hts _ (zTb 606 (by decide +kernel))) hini e2 hA, T2⟩, ⟨fun i hi => ?_, fun i j hi hj => ?_⟩, vk_R.of (hts _ (zTb 380 (by decide +kernel))) (hE 0 (by decide)), vk_R.of (hts _ (zTb 452 (by decide +kernel))) (hE 1 (by decide)), va_Zof (hts _ (zTb 390 (by decide +kernel))) (hts _ (zTb 13 (by decide +kernel))) (va_eqi (hf _ zE7.1)) hA, va_Zqof (hts _ (zTb 406 (by decide +kernel))) (hts _ (zTb 15 (by decide +kernel))) (hf _ zE7.2) hA, va_Nw.of rfl (hts _ (zTb 605 (by decide +kernel)))⟩
  · match i, hi with
    | 0, _ => exact hV.1 0 (by decide)
    | 1, _ => exact hV.1 1 (by decide)
  · match i, hi, j, hj with
    | 0, _, 0, _ => exact fun _ => rfl
    | 1, _, 1, _ => exact fun _ => rfl
    | 0, _, 1, _ => exact fun h => hV.2 0 1 (by decide) (by decide) h
    | 1, _, 0, _ => exact fun h => hV.2 1 0 (by decide) (by decide) h
theorem zNwL_in : ∀ w ∈ zNwL, w ∈ lw_tbl := by decide +kernel
theorem zNwL_on : ∀ w ∈ zNwL, w.onTables = true := by decide +kernel
theorem zNws_of {s : State} {args : Array Value} (hts : ∀ w ∈ lw_tbl, w.before args s = true) : zNws s := fun w hw => va_Nw.of (zNwL_on w hw) (hts w (zNwL_in w hw))
theorem zKsZ {s : State} {H : Heap} {D : va_G} {cy : FieldType → ClassId} {ws : va_W} {As : List Value} {Z : ab_Zt} (hZok : ab_ZOK Z) {ad : Nat → Nat} (hP : va_P D vwCl ws H) (hK : va_K D vwCl (ab_tys cy) s) {A : Nat → Prop} (hD : va_D A ws) (hNw : zNws s) (hZ : Z ad (va_A ws H.size) s H) {b : Nat} : PreS s H (va_Pc (.ref b :: As) (fun U => zKp D cy ws H.size U ∧ Z ad (va_A ws H.size) U U.heap)) (.ref b :: As) :=
  ⟨fun a U g mk q => by
      obtain ⟨q0, ⟨q1, qP, qK, qD, qN⟩, qZ⟩ := q
      exact ⟨q0, ⟨q1, qP, va_K.moved (u := U) (U := U.calling g mk a) (Vm.Alike.refl U.vm) qK, qD, zNws_same (s := U) rfl qN⟩, hZok.2.1 ad _ U (U.calling g mk a) _ rfl qZ⟩,
    fun U hU hW => ⟨rfl, ⟨by rw [hU], by rw [hU]; exact hP, va_K.moved hW.alike hK, hD.weaken (fun _ _ _ _ => trivial), zNws_warm hW hNw⟩, by rw [hU]; exact hZok.1 ad _ s U H hW hZ⟩⟩
/-- the addresses of the class's cells, and of the statics -/
def zAd (a a0 : Nat → Nat) : Nat → Nat := fun k => match Nat.blt k 47 with
  | true => a k
  | false => a0 k
set_option maxRecDepth 100000 in
theorem zAd_w (a a0 : Nat → Nat) (cy : FieldType → ClassId) (M : ab_M) (N : ab_N) : ab_w zw_C (zAd a a0) cy M N = ab_w zw_C a cy M N := by
  rw [zWl_eq, zWl_eq]
  rfl
theorem zAd_lt {a a0 : Nat → Nat} {k : Nat} (h : k < 47) : zAd a a0 k = a k := by
  unfold zAd
  rw [show Nat.blt k 47 = true from Nat.ble_eq_true_of_le h]
theorem zAd_ge {a a0 : Nat → Nat} {k : Nat} (h : 47 ≤ k) : zAd a a0 k = a0 k := by
  unfold zAd
  cases e : Nat.blt k 47 with
  | true => exact absurd (Nat.le_of_ble_eq_true e) (Nat.not_lt.mpr h)
  | false => rfl
