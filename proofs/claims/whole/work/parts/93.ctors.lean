/-! the constructors: what they stand on *)
-/
def zNwL : List Cond := [.methodLinkNest RX11 9 yX2_init RX11, .methodLinkNest RX11 18 yX5_init RX11, .methodLinkNest RX11 25 yX9_init RX11, .methodLinkNest RX11 75 yX7_init RX11, .methodLinkNest RX11 82 yX4_init RX11, .methodLinkNest RX4 11 yX2_init RX11, .methodLinkNest RX11 89 yX0_init RX11]
def zNws (U : State) : Prop := ∀ w ∈ zNwL, va_Nw w U
theorem zNwL_k {w : Cond} (h : w ∈ zNwL) : ∃ a i x b, w = .methodLinkNest a i x b := by
  simp only [zNwL, List.mem_cons, List.not_mem_nil, or_false] at h
  rcases h with rfl | rfl | rfl | rfl | rfl | rfl | rfl <;> exact ⟨_, _, _, _, rfl⟩
theorem zNws_warm {s U : State} (hW : s.WarmedH U.vm) (h : zNws s) : zNws U := fun w hw => by
  obtain ⟨a, i, x, b, rfl⟩ := zNwL_k hw
  exact va_Nw.warmM hW (h _ hw)
theorem zNws_same {s U : State} (hv : s.vm = U.vm) (h : zNws s) : zNws U := fun w hw => by
  obtain ⟨a, i, x, b, rfl⟩ := zNwL_k hw
  exact va_Nw.same rfl hv (h _ hw)
def zKp (D : va_G) (cy : FieldType → ClassId) (ws : va_W) (sz : Nat) : State → Prop := fun U => U.heap.size = sz ∧ va_P D vwCl ws U.heap ∧ va_K D vwCl (ab_tys cy) U ∧ va_D (fun _ => True) ws ∧ zNws U
def zKq (D : va_G) (cy : FieldType → ClassId) (A : Nat → Prop) (E : (Nat → Nat) → va_W) : (Nat → Nat) → State → Prop := fun u t => va_P D vwCl (E u) t.heap ∧ va_K D vwCl (ab_tys cy) t ∧ va_D A (E u)
theorem zIn {i : Int32} {n : Nat} (h : 0 ≤ i ∧ i.toNatClampNeg < n) : vp_in i n := fun z => z.elim (fun q => Int32.not_lt.mpr h.1 q) (fun q => absurd h.2 (Nat.not_lt.mpr q))
section ZB
variable {p : Program} {l : Launch} {e : Env} {R : Room} {s : State} {m : MethodId} {args : Array Value} {below : List Frame} {meth : Method} {c : Code} {H H0 : Heap} {locs : List Loc} {cells slots : Nat} {Q : State → Prop}
variable {pc : Nat} {ls : Array Slot} {rest : List Value} {cc : ByteArray} {D : va_G} {cy : FieldType → ClassId} {ws : va_W} {A : Nat → Prop}
theorem zb_newa (hexec : p.tables.exec = Jvm.exec) (hb : c.code = cc) {atype : ArrayType} (harr : (Cond.arrayClass (newarray.typeOf atype)).before args s = true) {ty : FieldType} (hty : newarray.typeOf atype = ty) (t0 : Nat) (ht : (ab_tys cy)[t0]? = some (cy ty, ty)) (hK : va_K D vwCl (ab_tys cy) s) (hP : va_P D vwCl ws H) (hD : va_D A ws) (hS : va_S A H0 H locs) (hA : ∀ q, H0.size ≤ q → A q)
    {n : Int32} {N' : Nat} {a0 : vp_A} (ha : ∀ cA : ClassId, vp_cell cA a0 = arrV cA N' (fun _ => defaultValue ty)) (hn : ¬ n < 0) (hN : n.toNatClampNeg = N') (hbytes : N' * componentBytes ty ≤ 536870912) (hcells : cells + 1 ≤ R.cells) (hslots : slots + N' ≤ R.slots) (hdg : decode cc pc = .ok (.newarray atype, 2))
    (kk : ∀ (q : Nat) (H1 : Heap), va_P D vwCl (ws ++ [(q, .inl (cy ty, a0))]) H1 → va_D A (ws ++ [(q, .inl (cy ty, a0))]) → va_S A H0 H1 locs →
      W p l e R s m args below meth c H1 locs (cells + 1) (slots + N') Q (F0 m (pc + 2) ls (.ref q :: rest))) : W p l e R s m args below meth c H locs cells slots Q (F0 m pc ls (.int n :: rest)) := by
  refine va_newa hexec hb harr hty hK hP hD hS hA ha hn hN hbytes hcells hslots hdg (fun q cA H1 hK1 hP1 hD1 hS1 => ?_)
  have r1 := (hK1.2 3 (cA, ty) rfl).2
  have r2 := (hK.2 t0 _ ht).2
  have e1 : cA = cy ty := by
    have fin : s.vm.findClass ("[" ++ ty.toString) = some cA → s.vm.findClass ("[" ++ ty.toString) = some (cy ty) → cA = cy ty := fun x y => Option.some.inj (x.symm.trans y)
    cases ty <;> first | exact fin r1 r2 | (exfalso; rcases t0 with _ | _ | _ | t0 <;> simp [ab_tys] at ht)
  subst e1
  exact kk q H1 hP1 hD1 hS1
theorem zKs {ws : va_W} {As : List Value} (hP : va_P D vwCl ws H) (hK : va_K D vwCl (ab_tys cy) s) {A : Nat → Prop} (hD : va_D A ws) (hNw : zNws s) {b : Nat} : PreS s H (va_Pc (.ref b :: As) (zKp D cy ws H.size)) (.ref b :: As) :=
  ⟨fun a U g mk q => by
      obtain ⟨q0, q1, qP, qK, qD, qN⟩ := q
      exact ⟨q0, q1, qP, va_K.moved (u := U) (U := U.calling g mk a) (Vm.Alike.refl U.vm) qK, qD, zNws_same (s := U) rfl qN⟩,
    fun U hU hW => ⟨rfl, by rw [hU], by rw [hU]; exact hP, va_K.moved hW.alike hK, hD.weaken (fun _ _ _ _ => trivial), zNws_warm hW hNw⟩⟩
end ZB
set_option maxHeartbeats 4000000 in
set_option maxRecDepth 100000 in
theorem zK_X0 (l : Launch) (D : va_G) (cy : FieldType → ClassId) (h0 sz : Nat) : Met l yX0_init (Cond.code yX0_init cX0_init 1 none :: ab_B) { frames := 1, cells := 0, slots := 0, locals := 12 } (va_Pc [.ref h0] (zKp D cy [(h0, .inr (0, [.int 0, .long 0]))] sz)) (va_Qv (fun _ : Nat → Nat => True) (zKq D cy (va_A [(h0, .inr (0, [.int 0, .long 0]))] sz) (fun u => [(h0, .inr (0, [.int (-1), .long 0]))])) (va_A [(h0, .inr (0, [.int 0, .long 0]))] sz)) 0 0 (va_A [(h0, .inr (0, [.int 0, .long 0]))] sz) := by
  refine Met.ofW (cc := cX0_init) (maxL := 1) (ret := none) (by decide) rfl ?_
  intro p e s m args below meth c s₁ B hml hv
  obtain ⟨rfl, hsz, hP, hK, hD0, hNw⟩ := hv
  have hx := B.exec
  have hb := B.bytes
  have hr := B.returns
  have hts0 := atoms_spec (ws := Cond.code yX0_init cX0_init 1 none :: ab_B) B.pre
  have hts : ∀ w ∈ ab_B, w.before _ s = true := fun w hw => hts0 w (List.mem_cons_of_mem _ hw)
  have hown : s.vm.findClass RX0 = some m.cls := findClass_of_methodNamed B.named
  have hlocks := B.notSynchronized
  have hin : meth.name = "<init>" := (name_of_methodNamed B.named B.method).1
  subst hsz
  have hD := hD0.self (sz := s.heap.size)
  generalize hAe : va_A [(h0, .inr (0, [.int 0, .long 0]))] s.heap.size = A at hD ⊢
  have hA : ∀ q : Nat, s.heap.size ≤ q → A q := fun q h => by rw [← hAe]; exact Or.inr h
  have hS : va_S A s.heap s.heap [] := va_S.rf
  have hP : va_P D vwCl [(h0, .inr (0, [.int 0, .long 0]))] s.heap := hP
  have hl := lv_entry ([.ref h0]) (n := 1) (Nat.le_of_ble_eq_true rfl)
  rw [lg_entry_eq]
  generalize (lg_sl ([.ref h0]) ++ List.replicate (1 - (lg_sl ([.ref h0])).length) Slot.unset).toArray = ls at hl ⊢
  have hl : lv_has ls 1 [(0, .ref h0)] := hl
  refine lv_aload_n (k := 0) hx hb (show decode cX0_init 0 = .ok (.aload_n 0, 1) by decide +kernel) rfl (lv_at hl 0 rfl) ?_
  refine W.objInit hx hb hown (hts (.methodLink RX0 1 objectInit) (ab_in 370 (by decide +kernel) rfl)) (hts (.instanceMethod objectInit) (ab_in 27 (by decide +kernel) rfl)) (hts _ (ab_in 28 (by decide +kernel) rfl)) rfl (by rw [hml]; exact hl.1) rfl (show decode cX0_init 1 = .ok (.invokespecial 1, 3) by decide +kernel) (Nat.le_of_ble_eq_true rfl) (Nat.le_of_ble_eq_true rfl) ?_
  refine W.eq (g2 := F0 m 4 ls []) rfl ?_
  refine lv_aload_n (k := 0) hx hb (show decode cX0_init 4 = .ok (.aload_n 0, 1) by decide +kernel) rfl (lv_at hl 0 rfl) ?_
  refine lv_iconst (v := -1) hx hb (show decode cX0_init 5 = .ok (.iconst (-1), 1) by decide +kernel) (by decide) ?_
  refine va_put (D := D) (ci := 0) (v := .int (-1)) (ty := .int) (C := RX0) (T := TX0) (N := 2) hx hb hts (zl_of zl_X0) tyX0 tyX0_ok nmX0 hown hK hP hD hS 0 rfl rfl 0 (by decide) (hts _ (ab_in 371 (by decide +kernel) rfl)) (fun _ h9 => h9) rfl (by decide +kernel) rfl rfl (Nat.le_of_ble_eq_true rfl) (show decode cX0_init 6 = .ok (.putfield 7, 3) by decide +kernel) (fun H locs hP hD hS => ?_)
  have hP : va_P D vwCl [(h0, .inr (0, [.int (-1), .long 0]))] H := hP
  have hD : va_D A [(h0, .inr (0, [.int (-1), .long 0]))] := hD
  refine lv_aload_n (k := 0) hx hb (show decode cX0_init 9 = .ok (.aload_n 0, 1) by decide +kernel) rfl (lv_at hl 0 rfl) ?_
  refine lv_lconst (v := 0) hx hb (show decode cX0_init 10 = .ok (.lconst 0, 1) by decide +kernel) (by decide) ?_
  refine va_put (D := D) (ci := 0) (v := .long 0) (ty := .long) (C := RX0) (T := TX0) (N := 2) hx hb hts (zl_of zl_X0) tyX0 tyX0_ok nmX0 hown hK hP hD hS 0 rfl rfl 1 (by decide) (hts _ (ab_in 373 (by decide +kernel) rfl)) (fun _ h9 => h9) rfl (by decide +kernel) rfl rfl (Nat.le_of_ble_eq_true rfl) (show decode cX0_init 11 = .ok (.putfield 13, 3) by decide +kernel) (fun H locs hP hD hS => ?_)
  have hP : va_P D vwCl [(h0, .inr (0, [.int (-1), .long 0]))] H := hP
  have hD : va_D A [(h0, .inr (0, [.int (-1), .long 0]))] := hD
  refine W.widen (k := 0) (n := 0) (Nat.le_of_ble_eq_true rfl) (Nat.le_of_ble_eq_true rfl) ?_
  exact W.vret hx hb hr (fun t ht hW => ⟨⟨fun j => ([] : List Nat).getD j 0, rfl, trivial, by rw [ht]; exact hP, va_K.moved hW.alike hK, hD⟩, hS.F ht⟩) hS.2.2 (by decide +kernel) hlocks
set_option maxHeartbeats 4000000 in
set_option maxRecDepth 100000 in
theorem zK_X2 (l : Launch) (D : va_G) (cy : FieldType → ClassId) (h0 sz : Nat) : Met l yX2_init (Cond.code yX2_init cX2_init 1 none :: ab_B) { frames := 1, cells := 6, slots := 49, locals := 12 } (va_Pc [.ref h0] (zKp D cy [(h0, .inr (2, [.null, .null, .null, .null, .int 0, .null, .null, .int 0]))] sz)) (va_Qv (fun _ : Nat → Nat => True) (zKq D cy (va_A [(h0, .inr (2, [.null, .null, .null, .null, .int 0, .null, .null, .int 0]))] sz) (fun u => [(h0, .inr (2, [.ref (u 0), .ref (u 1), .ref (u 2), .ref (u 3), .int 0, .ref (u 4), .ref (u 5), .int (-1)])), ((u 0), .inl (cy .int, 8, .inl (fun _ => 0))), ((u 1), .inl (cy .int, 8, .inl (fun _ => 0))), ((u 2), .inl (cy .int, 8, .inl (fun _ => 0))), ((u 3), .inl (cy .int, 8, .inl (fun _ => 0))), ((u 4), .inl (cy .int, 5, .inl (upd (upd (upd (upd (upd (fun _ => 0) 0 8) 1 4) 2 0) 3 4) 4 2))), ((u 5), .inl (cy .int, 12, .inl (fun _ => 0)))])) (va_A [(h0, .inr (2, [.null, .null, .null, .null, .int 0, .null, .null, .int 0]))] sz)) 6 49 (va_A [(h0, .inr (2, [.null, .null, .null, .null, .int 0, .null, .null, .int 0]))] sz) := by
  refine Met.ofW (cc := cX2_init) (maxL := 1) (ret := none) (by decide) rfl ?_
  intro p e s m args below meth c s₁ B hml hv
  obtain ⟨rfl, hsz, hP, hK, hD0, hNw⟩ := hv
  have hx := B.exec
  have hb := B.bytes
  have hr := B.returns
  have hts0 := atoms_spec (ws := Cond.code yX2_init cX2_init 1 none :: ab_B) B.pre
  have hts : ∀ w ∈ ab_B, w.before _ s = true := fun w hw => hts0 w (List.mem_cons_of_mem _ hw)
  have hown : s.vm.findClass RX2 = some m.cls := findClass_of_methodNamed B.named
  have hlocks := B.notSynchronized
  have hin : meth.name = "<init>" := (name_of_methodNamed B.named B.method).1
  subst hsz
  have hD := hD0.self (sz := s.heap.size)
  generalize hAe : va_A [(h0, .inr (2, [.null, .null, .null, .null, .int 0, .null, .null, .int 0]))] s.heap.size = A at hD ⊢
  have hA : ∀ q : Nat, s.heap.size ≤ q → A q := fun q h => by rw [← hAe]; exact Or.inr h
  have hS : va_S A s.heap s.heap [] := va_S.rf
  have hP : va_P D vwCl [(h0, .inr (2, [.null, .null, .null, .null, .int 0, .null, .null, .int 0]))] s.heap := hP
  have hl := lv_entry ([.ref h0]) (n := 1) (Nat.le_of_ble_eq_true rfl)
  rw [lg_entry_eq]
  generalize (lg_sl ([.ref h0]) ++ List.replicate (1 - (lg_sl ([.ref h0])).length) Slot.unset).toArray = ls at hl ⊢
  have hl : lv_has ls 1 [(0, .ref h0)] := hl
  refine lv_aload_n (k := 0) hx hb (show decode cX2_init 0 = .ok (.aload_n 0, 1) by decide +kernel) rfl (lv_at hl 0 rfl) ?_
  refine W.objInit hx hb hown (hts (.methodLink RX2 3 objectInit) (ab_in 34 (by decide +kernel) rfl)) (hts (.instanceMethod objectInit) (ab_in 27 (by decide +kernel) rfl)) (hts _ (ab_in 28 (by decide +kernel) rfl)) rfl (by rw [hml]; exact hl.1) rfl (show decode cX2_init 1 = .ok (.invokespecial 3, 3) by decide +kernel) (Nat.le_of_ble_eq_true rfl) (Nat.le_of_ble_eq_true rfl) ?_
  refine W.eq (g2 := F0 m 4 ls []) rfl ?_
  refine lv_aload_n (k := 0) hx hb (show decode cX2_init 4 = .ok (.aload_n 0, 1) by decide +kernel) rfl (lv_at hl 0 rfl) ?_
  refine lv_bipush (v := 8) hx hb (show decode cX2_init 5 = .ok (.bipush 8, 2) by decide +kernel) (by decide) ?_
  refine zb_newa (atype := .int) (ty := .int) (N' := 8) (a0 := (8, .inl (fun _ => 0))) hx hb (hts _ (ab_in 79 (by decide +kernel) rfl)) rfl 0 rfl hK hP hD hS hA (fun _ => rfl) (by decide) (by decide) (by decide) (Nat.le_of_ble_eq_true rfl) (Nat.le_of_ble_eq_true rfl) (show decode cX2_init 7 = .ok (.newarray .int, 2) by decide +kernel) (fun q7 H hP hD hS => ?_)
  have hP : va_P D vwCl [(h0, .inr (2, [.null, .null, .null, .null, .int 0, .null, .null, .int 0])), (q7, .inl (cy .int, 8, .inl (fun _ => 0)))] H := hP
  have hD : va_D A [(h0, .inr (2, [.null, .null, .null, .null, .int 0, .null, .null, .int 0])), (q7, .inl (cy .int, 8, .inl (fun _ => 0)))] := hD
  refine va_putF (D := D) (ci := 2) (v := .ref q7) (ty := (.array .int)) (C := RX2) (T := TX2) (N := 8) hx hb hts (zl_of zl_X2) tyX2 tyX2_ok nmX2 hown hK hP hD hS 0 rfl rfl 0 (by decide) (hts _ (ab_in 35 (by decide +kernel) rfl)) (fun _ h9 => h9) rfl hin rfl (by decide +kernel) rfl rfl (Nat.le_of_ble_eq_true rfl) (show decode cX2_init 9 = .ok (.putfield 9, 3) by decide +kernel) (fun H locs hP hD hS => ?_)
  have hP : va_P D vwCl [(h0, .inr (2, [.ref q7, .null, .null, .null, .int 0, .null, .null, .int 0])), (q7, .inl (cy .int, 8, .inl (fun _ => 0)))] H := hP
  have hD : va_D A [(h0, .inr (2, [.ref q7, .null, .null, .null, .int 0, .null, .null, .int 0])), (q7, .inl (cy .int, 8, .inl (fun _ => 0)))] := hD
  refine lv_aload_n (k := 0) hx hb (show decode cX2_init 12 = .ok (.aload_n 0, 1) by decide +kernel) rfl (lv_at hl 0 rfl) ?_
  refine lv_bipush (v := 8) hx hb (show decode cX2_init 13 = .ok (.bipush 8, 2) by decide +kernel) (by decide) ?_
  refine zb_newa (atype := .int) (ty := .int) (N' := 8) (a0 := (8, .inl (fun _ => 0))) hx hb (hts _ (ab_in 79 (by decide +kernel) rfl)) rfl 0 rfl hK hP hD hS hA (fun _ => rfl) (by decide) (by decide) (by decide) (Nat.le_of_ble_eq_true rfl) (Nat.le_of_ble_eq_true rfl) (show decode cX2_init 15 = .ok (.newarray .int, 2) by decide +kernel) (fun q15 H hP hD hS => ?_)
  have hP : va_P D vwCl [(h0, .inr (2, [.ref q7, .null, .null, .null, .int 0, .null, .null, .int 0])), (q7, .inl (cy .int, 8, .inl (fun _ => 0))), (q15, .inl (cy .int, 8, .inl (fun _ => 0)))] H := hP
  have hD : va_D A [(h0, .inr (2, [.ref q7, .null, .null, .null, .int 0, .null, .null, .int 0])), (q7, .inl (cy .int, 8, .inl (fun _ => 0))), (q15, .inl (cy .int, 8, .inl (fun _ => 0)))] := hD
  refine va_putF (D := D) (ci := 2) (v := .ref q15) (ty := (.array .int)) (C := RX2) (T := TX2) (N := 8) hx hb hts (zl_of zl_X2) tyX2 tyX2_ok nmX2 hown hK hP hD hS 0 rfl rfl 1 (by decide) (hts _ (ab_in 38 (by decide +kernel) rfl)) (fun _ h9 => h9) rfl hin rfl (by decide +kernel) rfl rfl (Nat.le_of_ble_eq_true rfl) (show decode cX2_init 17 = .ok (.putfield 15, 3) by decide +kernel) (fun H locs hP hD hS => ?_)
  have hP : va_P D vwCl [(h0, .inr (2, [.ref q7, .ref q15, .null, .null, .int 0, .null, .null, .int 0])), (q7, .inl (cy .int, 8, .inl (fun _ => 0))), (q15, .inl (cy .int, 8, .inl (fun _ => 0)))] H := hP
  have hD : va_D A [(h0, .inr (2, [.ref q7, .ref q15, .null, .null, .int 0, .null, .null, .int 0])), (q7, .inl (cy .int, 8, .inl (fun _ => 0))), (q15, .inl (cy .int, 8, .inl (fun _ => 0)))] := hD
  refine lv_aload_n (k := 0) hx hb (show decode cX2_init 20 = .ok (.aload_n 0, 1) by decide +kernel) rfl (lv_at hl 0 rfl) ?_
  refine lv_bipush (v := 8) hx hb (show decode cX2_init 21 = .ok (.bipush 8, 2) by decide +kernel) (by decide) ?_
  refine zb_newa (atype := .int) (ty := .int) (N' := 8) (a0 := (8, .inl (fun _ => 0))) hx hb (hts _ (ab_in 79 (by decide +kernel) rfl)) rfl 0 rfl hK hP hD hS hA (fun _ => rfl) (by decide) (by decide) (by decide) (Nat.le_of_ble_eq_true rfl) (Nat.le_of_ble_eq_true rfl) (show decode cX2_init 23 = .ok (.newarray .int, 2) by decide +kernel) (fun q23 H hP hD hS => ?_)
  have hP : va_P D vwCl [(h0, .inr (2, [.ref q7, .ref q15, .null, .null, .int 0, .null, .null, .int 0])), (q7, .inl (cy .int, 8, .inl (fun _ => 0))), (q15, .inl (cy .int, 8, .inl (fun _ => 0))), (q23, .inl (cy .int, 8, .inl (fun _ => 0)))] H := hP
  have hD : va_D A [(h0, .inr (2, [.ref q7, .ref q15, .null, .null, .int 0, .null, .null, .int 0])), (q7, .inl (cy .int, 8, .inl (fun _ => 0))), (q15, .inl (cy .int, 8, .inl (fun _ => 0))), (q23, .inl (cy .int, 8, .inl (fun _ => 0)))] := hD
  refine va_putF (D := D) (ci := 2) (v := .ref q23) (ty := (.array .int)) (C := RX2) (T := TX2) (N := 8) hx hb hts (zl_of zl_X2) tyX2 tyX2_ok nmX2 hown hK hP hD hS 0 rfl rfl 2 (by decide) (hts _ (ab_in 41 (by decide +kernel) rfl)) (fun _ h9 => h9) rfl hin rfl (by decide +kernel) rfl rfl (Nat.le_of_ble_eq_true rfl) (show decode cX2_init 25 = .ok (.putfield 18, 3) by decide +kernel) (fun H locs hP hD hS => ?_)
  have hP : va_P D vwCl [(h0, .inr (2, [.ref q7, .ref q15, .ref q23, .null, .int 0, .null, .null, .int 0])), (q7, .inl (cy .int, 8, .inl (fun _ => 0))), (q15, .inl (cy .int, 8, .inl (fun _ => 0))), (q23, .inl (cy .int, 8, .inl (fun _ => 0)))] H := hP
  have hD : va_D A [(h0, .inr (2, [.ref q7, .ref q15, .ref q23, .null, .int 0, .null, .null, .int 0])), (q7, .inl (cy .int, 8, .inl (fun _ => 0))), (q15, .inl (cy .int, 8, .inl (fun _ => 0))), (q23, .inl (cy .int, 8, .inl (fun _ => 0)))] := hD
  refine lv_aload_n (k := 0) hx hb (show decode cX2_init 28 = .ok (.aload_n 0, 1) by decide +kernel) rfl (lv_at hl 0 rfl) ?_
  refine lv_bipush (v := 8) hx hb (show decode cX2_init 29 = .ok (.bipush 8, 2) by decide +kernel) (by decide) ?_
  refine zb_newa (atype := .int) (ty := .int) (N' := 8) (a0 := (8, .inl (fun _ => 0))) hx hb (hts _ (ab_in 79 (by decide +kernel) rfl)) rfl 0 rfl hK hP hD hS hA (fun _ => rfl) (by decide) (by decide) (by decide) (Nat.le_of_ble_eq_true rfl) (Nat.le_of_ble_eq_true rfl) (show decode cX2_init 31 = .ok (.newarray .int, 2) by decide +kernel) (fun q31 H hP hD hS => ?_)
  have hP : va_P D vwCl [(h0, .inr (2, [.ref q7, .ref q15, .ref q23, .null, .int 0, .null, .null, .int 0])), (q7, .inl (cy .int, 8, .inl (fun _ => 0))), (q15, .inl (cy .int, 8, .inl (fun _ => 0))), (q23, .inl (cy .int, 8, .inl (fun _ => 0))), (q31, .inl (cy .int, 8, .inl (fun _ => 0)))] H := hP
  have hD : va_D A [(h0, .inr (2, [.ref q7, .ref q15, .ref q23, .null, .int 0, .null, .null, .int 0])), (q7, .inl (cy .int, 8, .inl (fun _ => 0))), (q15, .inl (cy .int, 8, .inl (fun _ => 0))), (q23, .inl (cy .int, 8, .inl (fun _ => 0))), (q31, .inl (cy .int, 8, .inl (fun _ => 0)))] := hD
  refine va_putF (D := D) (ci := 2) (v := .ref q31) (ty := (.array .int)) (C := RX2) (T := TX2) (N := 8) hx hb hts (zl_of zl_X2) tyX2 tyX2_ok nmX2 hown hK hP hD hS 0 rfl rfl 3 (by decide) (hts _ (ab_in 44 (by decide +kernel) rfl)) (fun _ h9 => h9) rfl hin rfl (by decide +kernel) rfl rfl (Nat.le_of_ble_eq_true rfl) (show decode cX2_init 33 = .ok (.putfield 21, 3) by decide +kernel) (fun H locs hP hD hS => ?_)
  have hP : va_P D vwCl [(h0, .inr (2, [.ref q7, .ref q15, .ref q23, .ref q31, .int 0, .null, .null, .int 0])), (q7, .inl (cy .int, 8, .inl (fun _ => 0))), (q15, .inl (cy .int, 8, .inl (fun _ => 0))), (q23, .inl (cy .int, 8, .inl (fun _ => 0))), (q31, .inl (cy .int, 8, .inl (fun _ => 0)))] H := hP
  have hD : va_D A [(h0, .inr (2, [.ref q7, .ref q15, .ref q23, .ref q31, .int 0, .null, .null, .int 0])), (q7, .inl (cy .int, 8, .inl (fun _ => 0))), (q15, .inl (cy .int, 8, .inl (fun _ => 0))), (q23, .inl (cy .int, 8, .inl (fun _ => 0))), (q31, .inl (cy .int, 8, .inl (fun _ => 0)))] := hD
  refine lv_aload_n (k := 0) hx hb (show decode cX2_init 36 = .ok (.aload_n 0, 1) by decide +kernel) rfl (lv_at hl 0 rfl) ?_
  refine lv_iconst (v := 0) hx hb (show decode cX2_init 37 = .ok (.iconst 0, 1) by decide +kernel) (by decide) ?_
  refine va_put (D := D) (ci := 2) (v := .int 0) (ty := .int) (C := RX2) (T := TX2) (N := 8) hx hb hts (zl_of zl_X2) tyX2 tyX2_ok nmX2 hown hK hP hD hS 0 rfl rfl 4 (by decide) (hts _ (ab_in 47 (by decide +kernel) rfl)) (fun _ h9 => h9) rfl (by decide +kernel) rfl rfl (Nat.le_of_ble_eq_true rfl) (show decode cX2_init 38 = .ok (.putfield 24, 3) by decide +kernel) (fun H locs hP hD hS => ?_)
  have hP : va_P D vwCl [(h0, .inr (2, [.ref q7, .ref q15, .ref q23, .ref q31, .int 0, .null, .null, .int 0])), (q7, .inl (cy .int, 8, .inl (fun _ => 0))), (q15, .inl (cy .int, 8, .inl (fun _ => 0))), (q23, .inl (cy .int, 8, .inl (fun _ => 0))), (q31, .inl (cy .int, 8, .inl (fun _ => 0)))] H := hP
  have hD : va_D A [(h0, .inr (2, [.ref q7, .ref q15, .ref q23, .ref q31, .int 0, .null, .null, .int 0])), (q7, .inl (cy .int, 8, .inl (fun _ => 0))), (q15, .inl (cy .int, 8, .inl (fun _ => 0))), (q23, .inl (cy .int, 8, .inl (fun _ => 0))), (q31, .inl (cy .int, 8, .inl (fun _ => 0)))] := hD
  refine lv_aload_n (k := 0) hx hb (show decode cX2_init 41 = .ok (.aload_n 0, 1) by decide +kernel) rfl (lv_at hl 0 rfl) ?_
  refine lv_iconst (v := 5) hx hb (show decode cX2_init 42 = .ok (.iconst 5, 1) by decide +kernel) (by decide) ?_
  refine zb_newa (atype := .int) (ty := .int) (N' := 5) (a0 := (5, .inl (fun _ => 0))) hx hb (hts _ (ab_in 79 (by decide +kernel) rfl)) rfl 0 rfl hK hP hD hS hA (fun _ => rfl) (by decide) (by decide) (by decide) (Nat.le_of_ble_eq_true rfl) (Nat.le_of_ble_eq_true rfl) (show decode cX2_init 43 = .ok (.newarray .int, 2) by decide +kernel) (fun q43 H hP hD hS => ?_)
  have hP : va_P D vwCl [(h0, .inr (2, [.ref q7, .ref q15, .ref q23, .ref q31, .int 0, .null, .null, .int 0])), (q7, .inl (cy .int, 8, .inl (fun _ => 0))), (q15, .inl (cy .int, 8, .inl (fun _ => 0))), (q23, .inl (cy .int, 8, .inl (fun _ => 0))), (q31, .inl (cy .int, 8, .inl (fun _ => 0))), (q43, .inl (cy .int, 5, .inl (fun _ => 0)))] H := hP
  have hD : va_D A [(h0, .inr (2, [.ref q7, .ref q15, .ref q23, .ref q31, .int 0, .null, .null, .int 0])), (q7, .inl (cy .int, 8, .inl (fun _ => 0))), (q15, .inl (cy .int, 8, .inl (fun _ => 0))), (q23, .inl (cy .int, 8, .inl (fun _ => 0))), (q31, .inl (cy .int, 8, .inl (fun _ => 0))), (q43, .inl (cy .int, 5, .inl (fun _ => 0)))] := hD
  refine lv_dup hx hb (show decode cX2_init 45 = .ok (.dup, 1) by decide +kernel) rfl ?_
  refine lv_iconst (v := 0) hx hb (show decode cX2_init 46 = .ok (.iconst 0, 1) by decide +kernel) (by decide) ?_
  refine lv_bipush (v := 8) hx hb (show decode cX2_init 47 = .ok (.bipush 8, 2) by decide +kernel) (by decide) ?_
  refine va_iast hx hb hK hP hD hS 5 0 rfl rfl (zIn (by decide)) (show decode cX2_init 49 = .ok (.iastore, 1) by decide +kernel) (fun H locs hP hD hS => ?_)
  have hP : va_P D vwCl [(h0, .inr (2, [.ref q7, .ref q15, .ref q23, .ref q31, .int 0, .null, .null, .int 0])), (q7, .inl (cy .int, 8, .inl (fun _ => 0))), (q15, .inl (cy .int, 8, .inl (fun _ => 0))), (q23, .inl (cy .int, 8, .inl (fun _ => 0))), (q31, .inl (cy .int, 8, .inl (fun _ => 0))), (q43, .inl (cy .int, 5, .inl (upd (fun _ => 0) 0 8)))] H := hP
  have hD : va_D A [(h0, .inr (2, [.ref q7, .ref q15, .ref q23, .ref q31, .int 0, .null, .null, .int 0])), (q7, .inl (cy .int, 8, .inl (fun _ => 0))), (q15, .inl (cy .int, 8, .inl (fun _ => 0))), (q23, .inl (cy .int, 8, .inl (fun _ => 0))), (q31, .inl (cy .int, 8, .inl (fun _ => 0))), (q43, .inl (cy .int, 5, .inl (upd (fun _ => 0) 0 8)))] := hD
  refine lv_dup hx hb (show decode cX2_init 50 = .ok (.dup, 1) by decide +kernel) rfl ?_
  refine lv_iconst (v := 1) hx hb (show decode cX2_init 51 = .ok (.iconst 1, 1) by decide +kernel) (by decide) ?_
  refine lv_iconst (v := 4) hx hb (show decode cX2_init 52 = .ok (.iconst 4, 1) by decide +kernel) (by decide) ?_
  refine va_iast hx hb hK hP hD hS 5 0 rfl rfl (zIn (by decide)) (show decode cX2_init 53 = .ok (.iastore, 1) by decide +kernel) (fun H locs hP hD hS => ?_)
  have hP : va_P D vwCl [(h0, .inr (2, [.ref q7, .ref q15, .ref q23, .ref q31, .int 0, .null, .null, .int 0])), (q7, .inl (cy .int, 8, .inl (fun _ => 0))), (q15, .inl (cy .int, 8, .inl (fun _ => 0))), (q23, .inl (cy .int, 8, .inl (fun _ => 0))), (q31, .inl (cy .int, 8, .inl (fun _ => 0))), (q43, .inl (cy .int, 5, .inl (upd (upd (fun _ => 0) 0 8) 1 4)))] H := hP
  have hD : va_D A [(h0, .inr (2, [.ref q7, .ref q15, .ref q23, .ref q31, .int 0, .null, .null, .int 0])), (q7, .inl (cy .int, 8, .inl (fun _ => 0))), (q15, .inl (cy .int, 8, .inl (fun _ => 0))), (q23, .inl (cy .int, 8, .inl (fun _ => 0))), (q31, .inl (cy .int, 8, .inl (fun _ => 0))), (q43, .inl (cy .int, 5, .inl (upd (upd (fun _ => 0) 0 8) 1 4)))] := hD
  refine lv_dup hx hb (show decode cX2_init 54 = .ok (.dup, 1) by decide +kernel) rfl ?_
  refine lv_iconst (v := 2) hx hb (show decode cX2_init 55 = .ok (.iconst 2, 1) by decide +kernel) (by decide) ?_
  refine lv_iconst (v := 0) hx hb (show decode cX2_init 56 = .ok (.iconst 0, 1) by decide +kernel) (by decide) ?_
  refine va_iast hx hb hK hP hD hS 5 0 rfl rfl (zIn (by decide)) (show decode cX2_init 57 = .ok (.iastore, 1) by decide +kernel) (fun H locs hP hD hS => ?_)
  have hP : va_P D vwCl [(h0, .inr (2, [.ref q7, .ref q15, .ref q23, .ref q31, .int 0, .null, .null, .int 0])), (q7, .inl (cy .int, 8, .inl (fun _ => 0))), (q15, .inl (cy .int, 8, .inl (fun _ => 0))), (q23, .inl (cy .int, 8, .inl (fun _ => 0))), (q31, .inl (cy .int, 8, .inl (fun _ => 0))), (q43, .inl (cy .int, 5, .inl (upd (upd (upd (fun _ => 0) 0 8) 1 4) 2 0)))] H := hP
  have hD : va_D A [(h0, .inr (2, [.ref q7, .ref q15, .ref q23, .ref q31, .int 0, .null, .null, .int 0])), (q7, .inl (cy .int, 8, .inl (fun _ => 0))), (q15, .inl (cy .int, 8, .inl (fun _ => 0))), (q23, .inl (cy .int, 8, .inl (fun _ => 0))), (q31, .inl (cy .int, 8, .inl (fun _ => 0))), (q43, .inl (cy .int, 5, .inl (upd (upd (upd (fun _ => 0) 0 8) 1 4) 2 0)))] := hD
  refine lv_dup hx hb (show decode cX2_init 58 = .ok (.dup, 1) by decide +kernel) rfl ?_
  refine lv_iconst (v := 3) hx hb (show decode cX2_init 59 = .ok (.iconst 3, 1) by decide +kernel) (by decide) ?_
  refine lv_iconst (v := 4) hx hb (show decode cX2_init 60 = .ok (.iconst 4, 1) by decide +kernel) (by decide) ?_
  refine va_iast hx hb hK hP hD hS 5 0 rfl rfl (zIn (by decide)) (show decode cX2_init 61 = .ok (.iastore, 1) by decide +kernel) (fun H locs hP hD hS => ?_)
  have hP : va_P D vwCl [(h0, .inr (2, [.ref q7, .ref q15, .ref q23, .ref q31, .int 0, .null, .null, .int 0])), (q7, .inl (cy .int, 8, .inl (fun _ => 0))), (q15, .inl (cy .int, 8, .inl (fun _ => 0))), (q23, .inl (cy .int, 8, .inl (fun _ => 0))), (q31, .inl (cy .int, 8, .inl (fun _ => 0))), (q43, .inl (cy .int, 5, .inl (upd (upd (upd (upd (fun _ => 0) 0 8) 1 4) 2 0) 3 4)))] H := hP
  have hD : va_D A [(h0, .inr (2, [.ref q7, .ref q15, .ref q23, .ref q31, .int 0, .null, .null, .int 0])), (q7, .inl (cy .int, 8, .inl (fun _ => 0))), (q15, .inl (cy .int, 8, .inl (fun _ => 0))), (q23, .inl (cy .int, 8, .inl (fun _ => 0))), (q31, .inl (cy .int, 8, .inl (fun _ => 0))), (q43, .inl (cy .int, 5, .inl (upd (upd (upd (upd (fun _ => 0) 0 8) 1 4) 2 0) 3 4)))] := hD
  refine lv_dup hx hb (show decode cX2_init 62 = .ok (.dup, 1) by decide +kernel) rfl ?_
  refine lv_iconst (v := 4) hx hb (show decode cX2_init 63 = .ok (.iconst 4, 1) by decide +kernel) (by decide) ?_
  refine lv_iconst (v := 2) hx hb (show decode cX2_init 64 = .ok (.iconst 2, 1) by decide +kernel) (by decide) ?_
  refine va_iast hx hb hK hP hD hS 5 0 rfl rfl (zIn (by decide)) (show decode cX2_init 65 = .ok (.iastore, 1) by decide +kernel) (fun H locs hP hD hS => ?_)
  have hP : va_P D vwCl [(h0, .inr (2, [.ref q7, .ref q15, .ref q23, .ref q31, .int 0, .null, .null, .int 0])), (q7, .inl (cy .int, 8, .inl (fun _ => 0))), (q15, .inl (cy .int, 8, .inl (fun _ => 0))), (q23, .inl (cy .int, 8, .inl (fun _ => 0))), (q31, .inl (cy .int, 8, .inl (fun _ => 0))), (q43, .inl (cy .int, 5, .inl (upd (upd (upd (upd (upd (fun _ => 0) 0 8) 1 4) 2 0) 3 4) 4 2)))] H := hP
  have hD : va_D A [(h0, .inr (2, [.ref q7, .ref q15, .ref q23, .ref q31, .int 0, .null, .null, .int 0])), (q7, .inl (cy .int, 8, .inl (fun _ => 0))), (q15, .inl (cy .int, 8, .inl (fun _ => 0))), (q23, .inl (cy .int, 8, .inl (fun _ => 0))), (q31, .inl (cy .int, 8, .inl (fun _ => 0))), (q43, .inl (cy .int, 5, .inl (upd (upd (upd (upd (upd (fun _ => 0) 0 8) 1 4) 2 0) 3 4) 4 2)))] := hD
  refine va_putF (D := D) (ci := 2) (v := .ref q43) (ty := (.array .int)) (C := RX2) (T := TX2) (N := 8) hx hb hts (zl_of zl_X2) tyX2 tyX2_ok nmX2 hown hK hP hD hS 0 rfl rfl 5 (by decide) (hts _ (ab_in 51 (by decide +kernel) rfl)) (fun _ h9 => h9) rfl hin rfl (by decide +kernel) rfl rfl (Nat.le_of_ble_eq_true rfl) (show decode cX2_init 66 = .ok (.putfield 28, 3) by decide +kernel) (fun H locs hP hD hS => ?_)
  have hP : va_P D vwCl [(h0, .inr (2, [.ref q7, .ref q15, .ref q23, .ref q31, .int 0, .ref q43, .null, .int 0])), (q7, .inl (cy .int, 8, .inl (fun _ => 0))), (q15, .inl (cy .int, 8, .inl (fun _ => 0))), (q23, .inl (cy .int, 8, .inl (fun _ => 0))), (q31, .inl (cy .int, 8, .inl (fun _ => 0))), (q43, .inl (cy .int, 5, .inl (upd (upd (upd (upd (upd (fun _ => 0) 0 8) 1 4) 2 0) 3 4) 4 2)))] H := hP
  have hD : va_D A [(h0, .inr (2, [.ref q7, .ref q15, .ref q23, .ref q31, .int 0, .ref q43, .null, .int 0])), (q7, .inl (cy .int, 8, .inl (fun _ => 0))), (q15, .inl (cy .int, 8, .inl (fun _ => 0))), (q23, .inl (cy .int, 8, .inl (fun _ => 0))), (q31, .inl (cy .int, 8, .inl (fun _ => 0))), (q43, .inl (cy .int, 5, .inl (upd (upd (upd (upd (upd (fun _ => 0) 0 8) 1 4) 2 0) 3 4) 4 2)))] := hD
  refine lv_aload_n (k := 0) hx hb (show decode cX2_init 69 = .ok (.aload_n 0, 1) by decide +kernel) rfl (lv_at hl 0 rfl) ?_
  refine lv_bipush (v := 12) hx hb (show decode cX2_init 70 = .ok (.bipush 12, 2) by decide +kernel) (by decide) ?_
  refine zb_newa (atype := .int) (ty := .int) (N' := 12) (a0 := (12, .inl (fun _ => 0))) hx hb (hts _ (ab_in 79 (by decide +kernel) rfl)) rfl 0 rfl hK hP hD hS hA (fun _ => rfl) (by decide) (by decide) (by decide) (Nat.le_of_ble_eq_true rfl) (Nat.le_of_ble_eq_true rfl) (show decode cX2_init 72 = .ok (.newarray .int, 2) by decide +kernel) (fun q72 H hP hD hS => ?_)
  have hP : va_P D vwCl [(h0, .inr (2, [.ref q7, .ref q15, .ref q23, .ref q31, .int 0, .ref q43, .null, .int 0])), (q7, .inl (cy .int, 8, .inl (fun _ => 0))), (q15, .inl (cy .int, 8, .inl (fun _ => 0))), (q23, .inl (cy .int, 8, .inl (fun _ => 0))), (q31, .inl (cy .int, 8, .inl (fun _ => 0))), (q43, .inl (cy .int, 5, .inl (upd (upd (upd (upd (upd (fun _ => 0) 0 8) 1 4) 2 0) 3 4) 4 2))), (q72, .inl (cy .int, 12, .inl (fun _ => 0)))] H := hP
  have hD : va_D A [(h0, .inr (2, [.ref q7, .ref q15, .ref q23, .ref q31, .int 0, .ref q43, .null, .int 0])), (q7, .inl (cy .int, 8, .inl (fun _ => 0))), (q15, .inl (cy .int, 8, .inl (fun _ => 0))), (q23, .inl (cy .int, 8, .inl (fun _ => 0))), (q31, .inl (cy .int, 8, .inl (fun _ => 0))), (q43, .inl (cy .int, 5, .inl (upd (upd (upd (upd (upd (fun _ => 0) 0 8) 1 4) 2 0) 3 4) 4 2))), (q72, .inl (cy .int, 12, .inl (fun _ => 0)))] := hD
  refine va_putF (D := D) (ci := 2) (v := .ref q72) (ty := (.array .int)) (C := RX2) (T := TX2) (N := 8) hx hb hts (zl_of zl_X2) tyX2 tyX2_ok nmX2 hown hK hP hD hS 0 rfl rfl 6 (by decide) (hts _ (ab_in 57 (by decide +kernel) rfl)) (fun _ h9 => h9) rfl hin rfl (by decide +kernel) rfl rfl (Nat.le_of_ble_eq_true rfl) (show decode cX2_init 74 = .ok (.putfield 31, 3) by decide +kernel) (fun H locs hP hD hS => ?_)
  have hP : va_P D vwCl [(h0, .inr (2, [.ref q7, .ref q15, .ref q23, .ref q31, .int 0, .ref q43, .ref q72, .int 0])), (q7, .inl (cy .int, 8, .inl (fun _ => 0))), (q15, .inl (cy .int, 8, .inl (fun _ => 0))), (q23, .inl (cy .int, 8, .inl (fun _ => 0))), (q31, .inl (cy .int, 8, .inl (fun _ => 0))), (q43, .inl (cy .int, 5, .inl (upd (upd (upd (upd (upd (fun _ => 0) 0 8) 1 4) 2 0) 3 4) 4 2))), (q72, .inl (cy .int, 12, .inl (fun _ => 0)))] H := hP
  have hD : va_D A [(h0, .inr (2, [.ref q7, .ref q15, .ref q23, .ref q31, .int 0, .ref q43, .ref q72, .int 0])), (q7, .inl (cy .int, 8, .inl (fun _ => 0))), (q15, .inl (cy .int, 8, .inl (fun _ => 0))), (q23, .inl (cy .int, 8, .inl (fun _ => 0))), (q31, .inl (cy .int, 8, .inl (fun _ => 0))), (q43, .inl (cy .int, 5, .inl (upd (upd (upd (upd (upd (fun _ => 0) 0 8) 1 4) 2 0) 3 4) 4 2))), (q72, .inl (cy .int, 12, .inl (fun _ => 0)))] := hD
  refine lv_aload_n (k := 0) hx hb (show decode cX2_init 77 = .ok (.aload_n 0, 1) by decide +kernel) rfl (lv_at hl 0 rfl) ?_
  refine lv_iconst (v := -1) hx hb (show decode cX2_init 78 = .ok (.iconst (-1), 1) by decide +kernel) (by decide) ?_
  refine va_put (D := D) (ci := 2) (v := .int (-1)) (ty := .int) (C := RX2) (T := TX2) (N := 8) hx hb hts (zl_of zl_X2) tyX2 tyX2_ok nmX2 hown hK hP hD hS 0 rfl rfl 7 (by decide) (hts _ (ab_in 60 (by decide +kernel) rfl)) (fun _ h9 => h9) rfl (by decide +kernel) rfl rfl (Nat.le_of_ble_eq_true rfl) (show decode cX2_init 79 = .ok (.putfield 34, 3) by decide +kernel) (fun H locs hP hD hS => ?_)
  have hP : va_P D vwCl [(h0, .inr (2, [.ref q7, .ref q15, .ref q23, .ref q31, .int 0, .ref q43, .ref q72, .int (-1)])), (q7, .inl (cy .int, 8, .inl (fun _ => 0))), (q15, .inl (cy .int, 8, .inl (fun _ => 0))), (q23, .inl (cy .int, 8, .inl (fun _ => 0))), (q31, .inl (cy .int, 8, .inl (fun _ => 0))), (q43, .inl (cy .int, 5, .inl (upd (upd (upd (upd (upd (fun _ => 0) 0 8) 1 4) 2 0) 3 4) 4 2))), (q72, .inl (cy .int, 12, .inl (fun _ => 0)))] H := hP
  have hD : va_D A [(h0, .inr (2, [.ref q7, .ref q15, .ref q23, .ref q31, .int 0, .ref q43, .ref q72, .int (-1)])), (q7, .inl (cy .int, 8, .inl (fun _ => 0))), (q15, .inl (cy .int, 8, .inl (fun _ => 0))), (q23, .inl (cy .int, 8, .inl (fun _ => 0))), (q31, .inl (cy .int, 8, .inl (fun _ => 0))), (q43, .inl (cy .int, 5, .inl (upd (upd (upd (upd (upd (fun _ => 0) 0 8) 1 4) 2 0) 3 4) 4 2))), (q72, .inl (cy .int, 12, .inl (fun _ => 0)))] := hD
  refine W.widen (k := 6) (n := 49) (Nat.le_of_ble_eq_true rfl) (Nat.le_of_ble_eq_true rfl) ?_
  exact W.vret hx hb hr (fun t ht hW => ⟨⟨fun j => ([q7, q15, q23, q31, q43, q72] : List Nat).getD j 0, rfl, trivial, by rw [ht]; exact hP, va_K.moved hW.alike hK, hD⟩, hS.F ht⟩) hS.2.2 (by decide +kernel) hlocks
