/-! constructors *)
-/
set_option maxHeartbeats 4000000 in
set_option maxRecDepth 100000 in
theorem zK_X1 (l : Launch) (D : va_G) (cy : FieldType → ClassId) (h0 a1 a2 sz : Nat) : Met l yX1_init (Cond.code yX1_init cX1_init 3 none :: ab_B) { frames := 1, cells := 2, slots := 8742, locals := 12 } (va_Pc [.ref h0, .ref a1, .ref a2] (zKp D cy [(h0, .inr (1, [.null, .null, .null, .null, .int 0]))] sz)) (va_Qv (fun _ : Nat → Nat => True) (zKq D cy (va_A [(h0, .inr (1, [.null, .null, .null, .null, .int 0]))] sz) (fun u => [(h0, .inr (1, [.ref a1, .ref a2, .ref (u 0), .ref (u 1), .int 1])), ((u 0), .inl (cy .int, 6, .inl (fun _ => 0))), ((u 1), .inl (cy .int, 8736, .inl (fun _ => 0)))])) (va_A [(h0, .inr (1, [.null, .null, .null, .null, .int 0]))] sz)) 2 8742 (va_A [(h0, .inr (1, [.null, .null, .null, .null, .int 0]))] sz) := by
  refine Met.ofW (cc := cX1_init) (maxL := 3) (ret := none) (by decide) rfl ?_
  intro p e s m args below meth c s₁ B hml hv
  obtain ⟨rfl, hsz, hP, hK, hD0, hNw⟩ := hv
  have hx := B.exec
  have hb := B.bytes
  have hr := B.returns
  have hts0 := atoms_spec (ws := Cond.code yX1_init cX1_init 3 none :: ab_B) B.pre
  have hts : ∀ w ∈ ab_B, w.before _ s = true := fun w hw => hts0 w (List.mem_cons_of_mem _ hw)
  have hown : s.vm.findClass RX1 = some m.cls := findClass_of_methodNamed B.named
  have hlocks := B.notSynchronized
  have hin : meth.name = "<init>" := (name_of_methodNamed B.named B.method).1
  subst hsz
  have hD := hD0.self (sz := s.heap.size)
  generalize hAe : va_A [(h0, .inr (1, [.null, .null, .null, .null, .int 0]))] s.heap.size = A at hD ⊢
  have hA : ∀ q : Nat, s.heap.size ≤ q → A q := fun q h => by rw [← hAe]; exact Or.inr h
  have hS : va_S A s.heap s.heap [] := va_S.rf
  have hP : va_P D vwCl [(h0, .inr (1, [.null, .null, .null, .null, .int 0]))] s.heap := hP
  have hl := lv_entry ([.ref h0, .ref a1, .ref a2]) (n := 3) (Nat.le_of_ble_eq_true rfl)
  rw [lg_entry_eq]
  generalize (lg_sl ([.ref h0, .ref a1, .ref a2]) ++ List.replicate (3 - (lg_sl ([.ref h0, .ref a1, .ref a2])).length) Slot.unset).toArray = ls at hl ⊢
  have hl : lv_has ls 3 [(0, .ref h0), (1, .ref a1), (2, .ref a2)] := hl
  refine lv_aload_n (k := 0) hx hb (show decode cX1_init 0 = .ok (.aload_n 0, 1) by decide +kernel) rfl (lv_at hl 0 rfl) ?_
  refine W.objInit hx hb hown (hts (.methodLink RX1 3 objectInit) (ab_in 185 (by decide +kernel) rfl)) (hts (.instanceMethod objectInit) (ab_in 27 (by decide +kernel) rfl)) (hts _ (ab_in 28 (by decide +kernel) rfl)) rfl (by rw [hml]; exact hl.1) rfl (show decode cX1_init 1 = .ok (.invokespecial 3, 3) by decide +kernel) (Nat.le_of_ble_eq_true rfl) (Nat.le_of_ble_eq_true rfl) ?_
  refine W.eq (g2 := F0 m 4 ls []) rfl ?_
  refine lv_aload_n (k := 0) hx hb (show decode cX1_init 4 = .ok (.aload_n 0, 1) by decide +kernel) rfl (lv_at hl 0 rfl) ?_
  refine lv_bipush (v := 6) hx hb (show decode cX1_init 5 = .ok (.bipush 6, 2) by decide +kernel) (by decide) ?_
  refine zb_newa (atype := .int) (ty := .int) (N' := 6) (a0 := (6, .inl (fun _ => 0))) hx hb (hts _ (ab_in 79 (by decide +kernel) rfl)) rfl 0 rfl hK hP hD hS hA (fun _ => rfl) (by decide) (by decide) (by decide) (Nat.le_of_ble_eq_true rfl) (Nat.le_of_ble_eq_true rfl) (show decode cX1_init 7 = .ok (.newarray .int, 2) by decide +kernel) (fun q7 H hP hD hS => ?_)
  have hP : va_P D vwCl [(h0, .inr (1, [.null, .null, .null, .null, .int 0])), (q7, .inl (cy .int, 6, .inl (fun _ => 0)))] H := hP
  have hD : va_D A [(h0, .inr (1, [.null, .null, .null, .null, .int 0])), (q7, .inl (cy .int, 6, .inl (fun _ => 0)))] := hD
  refine va_putF (D := D) (ci := 1) (v := .ref q7) (ty := (.array .int)) (C := RX1) (T := TX1) (N := 5) hx hb hts (zl_of zl_X1) tyX1 tyX1_ok nmX1 hown hK hP hD hS 0 rfl rfl 2 (by decide) (hts _ (ab_in 188 (by decide +kernel) rfl)) (fun _ h9 => h9) rfl hin rfl (by decide +kernel) rfl rfl (Nat.le_of_ble_eq_true rfl) (show decode cX1_init 9 = .ok (.putfield 9, 3) by decide +kernel) (fun H locs hP hD hS => ?_)
  have hP : va_P D vwCl [(h0, .inr (1, [.null, .null, .ref q7, .null, .int 0])), (q7, .inl (cy .int, 6, .inl (fun _ => 0)))] H := hP
  have hD : va_D A [(h0, .inr (1, [.null, .null, .ref q7, .null, .int 0])), (q7, .inl (cy .int, 6, .inl (fun _ => 0)))] := hD
  refine lv_aload_n (k := 0) hx hb (show decode cX1_init 12 = .ok (.aload_n 0, 1) by decide +kernel) rfl (lv_at hl 0 rfl) ?_
  refine lv_sipush (v := 8736) hx hb (show decode cX1_init 13 = .ok (.sipush 8736, 3) by decide +kernel) (by decide) ?_
  refine zb_newa (atype := .int) (ty := .int) (N' := 8736) (a0 := (8736, .inl (fun _ => 0))) hx hb (hts _ (ab_in 79 (by decide +kernel) rfl)) rfl 0 rfl hK hP hD hS hA (fun _ => rfl) (by decide) (by decide) (by decide) (Nat.le_of_ble_eq_true rfl) (Nat.le_of_ble_eq_true rfl) (show decode cX1_init 16 = .ok (.newarray .int, 2) by decide +kernel) (fun q16 H hP hD hS => ?_)
  have hP : va_P D vwCl [(h0, .inr (1, [.null, .null, .ref q7, .null, .int 0])), (q7, .inl (cy .int, 6, .inl (fun _ => 0))), (q16, .inl (cy .int, 8736, .inl (fun _ => 0)))] H := hP
  have hD : va_D A [(h0, .inr (1, [.null, .null, .ref q7, .null, .int 0])), (q7, .inl (cy .int, 6, .inl (fun _ => 0))), (q16, .inl (cy .int, 8736, .inl (fun _ => 0)))] := hD
  refine va_putF (D := D) (ci := 1) (v := .ref q16) (ty := (.array .int)) (C := RX1) (T := TX1) (N := 5) hx hb hts (zl_of zl_X1) tyX1 tyX1_ok nmX1 hown hK hP hD hS 0 rfl rfl 3 (by decide) (hts _ (ab_in 189 (by decide +kernel) rfl)) (fun _ h9 => h9) rfl hin rfl (by decide +kernel) rfl rfl (Nat.le_of_ble_eq_true rfl) (show decode cX1_init 18 = .ok (.putfield 15, 3) by decide +kernel) (fun H locs hP hD hS => ?_)
  have hP : va_P D vwCl [(h0, .inr (1, [.null, .null, .ref q7, .ref q16, .int 0])), (q7, .inl (cy .int, 6, .inl (fun _ => 0))), (q16, .inl (cy .int, 8736, .inl (fun _ => 0)))] H := hP
  have hD : va_D A [(h0, .inr (1, [.null, .null, .ref q7, .ref q16, .int 0])), (q7, .inl (cy .int, 6, .inl (fun _ => 0))), (q16, .inl (cy .int, 8736, .inl (fun _ => 0)))] := hD
  refine lv_aload_n (k := 0) hx hb (show decode cX1_init 21 = .ok (.aload_n 0, 1) by decide +kernel) rfl (lv_at hl 0 rfl) ?_
  refine lv_iconst (v := 1) hx hb (show decode cX1_init 22 = .ok (.iconst 1, 1) by decide +kernel) (by decide) ?_
  refine va_put (D := D) (ci := 1) (v := .int 1) (ty := .int) (C := RX1) (T := TX1) (N := 5) hx hb hts (zl_of zl_X1) tyX1 tyX1_ok nmX1 hown hK hP hD hS 0 rfl rfl 4 (by decide) (hts _ (ab_in 190 (by decide +kernel) rfl)) (fun _ h9 => h9) rfl (by decide +kernel) rfl rfl (Nat.le_of_ble_eq_true rfl) (show decode cX1_init 23 = .ok (.putfield 18, 3) by decide +kernel) (fun H locs hP hD hS => ?_)
  have hP : va_P D vwCl [(h0, .inr (1, [.null, .null, .ref q7, .ref q16, .int 1])), (q7, .inl (cy .int, 6, .inl (fun _ => 0))), (q16, .inl (cy .int, 8736, .inl (fun _ => 0)))] H := hP
  have hD : va_D A [(h0, .inr (1, [.null, .null, .ref q7, .ref q16, .int 1])), (q7, .inl (cy .int, 6, .inl (fun _ => 0))), (q16, .inl (cy .int, 8736, .inl (fun _ => 0)))] := hD
  refine lv_aload_n (k := 0) hx hb (show decode cX1_init 26 = .ok (.aload_n 0, 1) by decide +kernel) rfl (lv_at hl 0 rfl) ?_
  refine lv_aload_n (k := 1) hx hb (show decode cX1_init 27 = .ok (.aload_n 1, 1) by decide +kernel) rfl (lv_at hl 1 rfl) ?_
  refine va_putF (D := D) (ci := 1) (v := .ref a1) (ty := (.object "WalkTheDike$Dike")) (C := RX1) (T := TX1) (N := 5) hx hb hts (zl_of zl_X1) tyX1 tyX1_ok nmX1 hown hK hP hD hS 0 rfl rfl 0 (by decide) (hts _ (ab_in 186 (by decide +kernel) rfl)) (fun _ h9 => h9) rfl hin rfl (by decide +kernel) rfl rfl (Nat.le_of_ble_eq_true rfl) (show decode cX1_init 28 = .ok (.putfield 22, 3) by decide +kernel) (fun H locs hP hD hS => ?_)
  have hP : va_P D vwCl [(h0, .inr (1, [.ref a1, .null, .ref q7, .ref q16, .int 1])), (q7, .inl (cy .int, 6, .inl (fun _ => 0))), (q16, .inl (cy .int, 8736, .inl (fun _ => 0)))] H := hP
  have hD : va_D A [(h0, .inr (1, [.ref a1, .null, .ref q7, .ref q16, .int 1])), (q7, .inl (cy .int, 6, .inl (fun _ => 0))), (q16, .inl (cy .int, 8736, .inl (fun _ => 0)))] := hD
  refine lv_aload_n (k := 0) hx hb (show decode cX1_init 31 = .ok (.aload_n 0, 1) by decide +kernel) rfl (lv_at hl 0 rfl) ?_
  refine lv_aload_n (k := 2) hx hb (show decode cX1_init 32 = .ok (.aload_n 2, 1) by decide +kernel) rfl (lv_at hl 2 rfl) ?_
  refine va_putF (D := D) (ci := 1) (v := .ref a2) (ty := (.object "WalkTheDike$Texts")) (C := RX1) (T := TX1) (N := 5) hx hb hts (zl_of zl_X1) tyX1 tyX1_ok nmX1 hown hK hP hD hS 0 rfl rfl 1 (by decide) (hts _ (ab_in 187 (by decide +kernel) rfl)) (fun _ h9 => h9) rfl hin rfl (by decide +kernel) rfl rfl (Nat.le_of_ble_eq_true rfl) (show decode cX1_init 33 = .ok (.putfield 26, 3) by decide +kernel) (fun H locs hP hD hS => ?_)
  have hP : va_P D vwCl [(h0, .inr (1, [.ref a1, .ref a2, .ref q7, .ref q16, .int 1])), (q7, .inl (cy .int, 6, .inl (fun _ => 0))), (q16, .inl (cy .int, 8736, .inl (fun _ => 0)))] H := hP
  have hD : va_D A [(h0, .inr (1, [.ref a1, .ref a2, .ref q7, .ref q16, .int 1])), (q7, .inl (cy .int, 6, .inl (fun _ => 0))), (q16, .inl (cy .int, 8736, .inl (fun _ => 0)))] := hD
  refine W.widen (k := 2) (n := 8742) (Nat.le_of_ble_eq_true rfl) (Nat.le_of_ble_eq_true rfl) ?_
  exact W.vret hx hb hr (fun t ht hW => ⟨⟨fun j => ([q7, q16] : List Nat).getD j 0, rfl, trivial, by rw [ht]; exact hP, va_K.moved hW.alike hK, hD⟩, hS.F ht⟩) hS.2.2 (by decide +kernel) hlocks
set_option maxHeartbeats 4000000 in
set_option maxRecDepth 100000 in
theorem zK_X3 (l : Launch) (D : va_G) (cy : FieldType → ClassId) (h0 a1 a2 a3 sz : Nat) : Met l yX3_init (Cond.code yX3_init cX3_init 4 none :: ab_B) { frames := 1, cells := 1, slots := 8, locals := 12 } (va_Pc [.ref h0, .ref a1, .ref a2, .ref a3] (zKp D cy [(h0, .inr (3, [.null, .null, .null, .null, .long 0, .long 0, .int 0, .int 0]))] sz)) (va_Qv (fun _ : Nat → Nat => True) (zKq D cy (va_A [(h0, .inr (3, [.null, .null, .null, .null, .long 0, .long 0, .int 0, .int 0]))] sz) (fun u => [(h0, .inr (3, [.ref a1, .ref a2, .ref a3, .ref (u 0), .long 0, .long 0, .int 0, .int 0])), ((u 0), .inl (cy .int, 8, .inl (fun _ => 0)))])) (va_A [(h0, .inr (3, [.null, .null, .null, .null, .long 0, .long 0, .int 0, .int 0]))] sz)) 1 8 (va_A [(h0, .inr (3, [.null, .null, .null, .null, .long 0, .long 0, .int 0, .int 0]))] sz) := by
  refine Met.ofW (cc := cX3_init) (maxL := 4) (ret := none) (by decide) rfl ?_
  intro p e s m args below meth c s₁ B hml hv
  obtain ⟨rfl, hsz, hP, hK, hD0, hNw⟩ := hv
  have hx := B.exec
  have hb := B.bytes
  have hr := B.returns
  have hts0 := atoms_spec (ws := Cond.code yX3_init cX3_init 4 none :: ab_B) B.pre
  have hts : ∀ w ∈ ab_B, w.before _ s = true := fun w hw => hts0 w (List.mem_cons_of_mem _ hw)
  have hown : s.vm.findClass RX3 = some m.cls := findClass_of_methodNamed B.named
  have hlocks := B.notSynchronized
  have hin : meth.name = "<init>" := (name_of_methodNamed B.named B.method).1
  subst hsz
  have hD := hD0.self (sz := s.heap.size)
  generalize hAe : va_A [(h0, .inr (3, [.null, .null, .null, .null, .long 0, .long 0, .int 0, .int 0]))] s.heap.size = A at hD ⊢
  have hA : ∀ q : Nat, s.heap.size ≤ q → A q := fun q h => by rw [← hAe]; exact Or.inr h
  have hS : va_S A s.heap s.heap [] := va_S.rf
  have hP : va_P D vwCl [(h0, .inr (3, [.null, .null, .null, .null, .long 0, .long 0, .int 0, .int 0]))] s.heap := hP
  have hl := lv_entry ([.ref h0, .ref a1, .ref a2, .ref a3]) (n := 4) (Nat.le_of_ble_eq_true rfl)
  rw [lg_entry_eq]
  generalize (lg_sl ([.ref h0, .ref a1, .ref a2, .ref a3]) ++ List.replicate (4 - (lg_sl ([.ref h0, .ref a1, .ref a2, .ref a3])).length) Slot.unset).toArray = ls at hl ⊢
  have hl : lv_has ls 4 [(0, .ref h0), (1, .ref a1), (2, .ref a2), (3, .ref a3)] := hl
  refine lv_aload_n (k := 0) hx hb (show decode cX3_init 0 = .ok (.aload_n 0, 1) by decide +kernel) rfl (lv_at hl 0 rfl) ?_
  refine W.objInit hx hb hown (hts (.methodLink RX3 3 objectInit) (ab_in 288 (by decide +kernel) rfl)) (hts (.instanceMethod objectInit) (ab_in 27 (by decide +kernel) rfl)) (hts _ (ab_in 28 (by decide +kernel) rfl)) rfl (by rw [hml]; exact hl.1) rfl (show decode cX3_init 1 = .ok (.invokespecial 3, 3) by decide +kernel) (Nat.le_of_ble_eq_true rfl) (Nat.le_of_ble_eq_true rfl) ?_
  refine W.eq (g2 := F0 m 4 ls []) rfl ?_
  refine lv_aload_n (k := 0) hx hb (show decode cX3_init 4 = .ok (.aload_n 0, 1) by decide +kernel) rfl (lv_at hl 0 rfl) ?_
  refine lv_bipush (v := 8) hx hb (show decode cX3_init 5 = .ok (.bipush 8, 2) by decide +kernel) (by decide) ?_
  refine zb_newa (atype := .int) (ty := .int) (N' := 8) (a0 := (8, .inl (fun _ => 0))) hx hb (hts _ (ab_in 79 (by decide +kernel) rfl)) rfl 0 rfl hK hP hD hS hA (fun _ => rfl) (by decide) (by decide) (by decide) (Nat.le_of_ble_eq_true rfl) (Nat.le_of_ble_eq_true rfl) (show decode cX3_init 7 = .ok (.newarray .int, 2) by decide +kernel) (fun q7 H hP hD hS => ?_)
  have hP : va_P D vwCl [(h0, .inr (3, [.null, .null, .null, .null, .long 0, .long 0, .int 0, .int 0])), (q7, .inl (cy .int, 8, .inl (fun _ => 0)))] H := hP
  have hD : va_D A [(h0, .inr (3, [.null, .null, .null, .null, .long 0, .long 0, .int 0, .int 0])), (q7, .inl (cy .int, 8, .inl (fun _ => 0)))] := hD
  refine va_putF (D := D) (ci := 3) (v := .ref q7) (ty := (.array .int)) (C := RX3) (T := TX3) (N := 8) hx hb hts (zl_of zl_X3) tyX3 tyX3_ok nmX3 hown hK hP hD hS 0 rfl rfl 3 (by decide) (hts _ (ab_in 292 (by decide +kernel) rfl)) (fun _ h9 => h9) rfl hin rfl (by decide +kernel) rfl rfl (Nat.le_of_ble_eq_true rfl) (show decode cX3_init 9 = .ok (.putfield 9, 3) by decide +kernel) (fun H locs hP hD hS => ?_)
  have hP : va_P D vwCl [(h0, .inr (3, [.null, .null, .null, .ref q7, .long 0, .long 0, .int 0, .int 0])), (q7, .inl (cy .int, 8, .inl (fun _ => 0)))] H := hP
  have hD : va_D A [(h0, .inr (3, [.null, .null, .null, .ref q7, .long 0, .long 0, .int 0, .int 0])), (q7, .inl (cy .int, 8, .inl (fun _ => 0)))] := hD
  refine lv_aload_n (k := 0) hx hb (show decode cX3_init 12 = .ok (.aload_n 0, 1) by decide +kernel) rfl (lv_at hl 0 rfl) ?_
  refine lv_aload_n (k := 1) hx hb (show decode cX3_init 13 = .ok (.aload_n 1, 1) by decide +kernel) rfl (lv_at hl 1 rfl) ?_
  refine va_putF (D := D) (ci := 3) (v := .ref a1) (ty := (.object "WalkTheDike$Dike")) (C := RX3) (T := TX3) (N := 8) hx hb hts (zl_of zl_X3) tyX3 tyX3_ok nmX3 hown hK hP hD hS 0 rfl rfl 0 (by decide) (hts _ (ab_in 289 (by decide +kernel) rfl)) (fun _ h9 => h9) rfl hin rfl (by decide +kernel) rfl rfl (Nat.le_of_ble_eq_true rfl) (show decode cX3_init 14 = .ok (.putfield 15, 3) by decide +kernel) (fun H locs hP hD hS => ?_)
  have hP : va_P D vwCl [(h0, .inr (3, [.ref a1, .null, .null, .ref q7, .long 0, .long 0, .int 0, .int 0])), (q7, .inl (cy .int, 8, .inl (fun _ => 0)))] H := hP
  have hD : va_D A [(h0, .inr (3, [.ref a1, .null, .null, .ref q7, .long 0, .long 0, .int 0, .int 0])), (q7, .inl (cy .int, 8, .inl (fun _ => 0)))] := hD
  refine lv_aload_n (k := 0) hx hb (show decode cX3_init 17 = .ok (.aload_n 0, 1) by decide +kernel) rfl (lv_at hl 0 rfl) ?_
  refine lv_aload_n (k := 2) hx hb (show decode cX3_init 18 = .ok (.aload_n 2, 1) by decide +kernel) rfl (lv_at hl 2 rfl) ?_
  refine va_putF (D := D) (ci := 3) (v := .ref a2) (ty := (.object "WalkTheDike$Walk")) (C := RX3) (T := TX3) (N := 8) hx hb hts (zl_of zl_X3) tyX3 tyX3_ok nmX3 hown hK hP hD hS 0 rfl rfl 1 (by decide) (hts _ (ab_in 290 (by decide +kernel) rfl)) (fun _ h9 => h9) rfl hin rfl (by decide +kernel) rfl rfl (Nat.le_of_ble_eq_true rfl) (show decode cX3_init 19 = .ok (.putfield 19, 3) by decide +kernel) (fun H locs hP hD hS => ?_)
  have hP : va_P D vwCl [(h0, .inr (3, [.ref a1, .ref a2, .null, .ref q7, .long 0, .long 0, .int 0, .int 0])), (q7, .inl (cy .int, 8, .inl (fun _ => 0)))] H := hP
  have hD : va_D A [(h0, .inr (3, [.ref a1, .ref a2, .null, .ref q7, .long 0, .long 0, .int 0, .int 0])), (q7, .inl (cy .int, 8, .inl (fun _ => 0)))] := hD
  refine lv_aload_n (k := 0) hx hb (show decode cX3_init 22 = .ok (.aload_n 0, 1) by decide +kernel) rfl (lv_at hl 0 rfl) ?_
  refine lv_aload_n (k := 3) hx hb (show decode cX3_init 23 = .ok (.aload_n 3, 1) by decide +kernel) rfl (lv_at hl 3 rfl) ?_
  refine va_putF (D := D) (ci := 3) (v := .ref a3) (ty := (.object "WalkTheDike$Chances")) (C := RX3) (T := TX3) (N := 8) hx hb hts (zl_of zl_X3) tyX3 tyX3_ok nmX3 hown hK hP hD hS 0 rfl rfl 2 (by decide) (hts _ (ab_in 291 (by decide +kernel) rfl)) (fun _ h9 => h9) rfl hin rfl (by decide +kernel) rfl rfl (Nat.le_of_ble_eq_true rfl) (show decode cX3_init 24 = .ok (.putfield 23, 3) by decide +kernel) (fun H locs hP hD hS => ?_)
  have hP : va_P D vwCl [(h0, .inr (3, [.ref a1, .ref a2, .ref a3, .ref q7, .long 0, .long 0, .int 0, .int 0])), (q7, .inl (cy .int, 8, .inl (fun _ => 0)))] H := hP
  have hD : va_D A [(h0, .inr (3, [.ref a1, .ref a2, .ref a3, .ref q7, .long 0, .long 0, .int 0, .int 0])), (q7, .inl (cy .int, 8, .inl (fun _ => 0)))] := hD
  refine W.widen (k := 1) (n := 8) (Nat.le_of_ble_eq_true rfl) (Nat.le_of_ble_eq_true rfl) ?_
  exact W.vret hx hb hr (fun t ht hW => ⟨⟨fun j => ([q7] : List Nat).getD j 0, rfl, trivial, by rw [ht]; exact hP, va_K.moved hW.alike hK, hD⟩, hS.F ht⟩) hS.2.2 (by decide +kernel) hlocks
set_option maxHeartbeats 4000000 in
set_option maxRecDepth 100000 in
theorem zK_X5 (l : Launch) (D : va_G) (cy : FieldType → ClassId) (h0 sz : Nat) : Met l yX5_init (Cond.code yX5_init cX5_init 1 none :: ab_B) { frames := 1, cells := 6, slots := 85, locals := 12 } (va_Pc [.ref h0] (zKp D cy [(h0, .inr (5, [.null, .null, .null, .null, .null, .null, .int 0]))] sz)) (va_Qv (fun _ : Nat → Nat => True) (zKq D cy (va_A [(h0, .inr (5, [.null, .null, .null, .null, .null, .null, .int 0]))] sz) (fun u => [(h0, .inr (5, [.ref (u 0), .ref (u 1), .ref (u 2), .ref (u 3), .ref (u 4), .ref (u 5), .int 0])), ((u 0), .inl (cy .int, 5, .inl (fun _ => 0))), ((u 1), .inl (cy .int, 5, .inl (fun _ => 0))), ((u 2), .inl (cy .int, 5, .inl (fun _ => 0))), ((u 3), .inl (cy .int, 5, .inl (fun _ => 0))), ((u 4), .inl (cy .int, 5, .inl (fun _ => 0))), ((u 5), .inl (cy .int, 60, .inl (fun _ => 0)))])) (va_A [(h0, .inr (5, [.null, .null, .null, .null, .null, .null, .int 0]))] sz)) 6 85 (va_A [(h0, .inr (5, [.null, .null, .null, .null, .null, .null, .int 0]))] sz) := by
  refine Met.ofW (cc := cX5_init) (maxL := 1) (ret := none) (by decide) rfl ?_
  intro p e s m args below meth c s₁ B hml hv
  obtain ⟨rfl, hsz, hP, hK, hD0, hNw⟩ := hv
  have hx := B.exec
  have hb := B.bytes
  have hr := B.returns
  have hts0 := atoms_spec (ws := Cond.code yX5_init cX5_init 1 none :: ab_B) B.pre
  have hts : ∀ w ∈ ab_B, w.before _ s = true := fun w hw => hts0 w (List.mem_cons_of_mem _ hw)
  have hown : s.vm.findClass RX5 = some m.cls := findClass_of_methodNamed B.named
  have hlocks := B.notSynchronized
  have hin : meth.name = "<init>" := (name_of_methodNamed B.named B.method).1
  subst hsz
  have hD := hD0.self (sz := s.heap.size)
  generalize hAe : va_A [(h0, .inr (5, [.null, .null, .null, .null, .null, .null, .int 0]))] s.heap.size = A at hD ⊢
  have hA : ∀ q : Nat, s.heap.size ≤ q → A q := fun q h => by rw [← hAe]; exact Or.inr h
  have hS : va_S A s.heap s.heap [] := va_S.rf
  have hP : va_P D vwCl [(h0, .inr (5, [.null, .null, .null, .null, .null, .null, .int 0]))] s.heap := hP
  have hl := lv_entry ([.ref h0]) (n := 1) (Nat.le_of_ble_eq_true rfl)
  rw [lg_entry_eq]
  generalize (lg_sl ([.ref h0]) ++ List.replicate (1 - (lg_sl ([.ref h0])).length) Slot.unset).toArray = ls at hl ⊢
  have hl : lv_has ls 1 [(0, .ref h0)] := hl
  refine lv_aload_n (k := 0) hx hb (show decode cX5_init 0 = .ok (.aload_n 0, 1) by decide +kernel) rfl (lv_at hl 0 rfl) ?_
  refine W.objInit hx hb hown (hts (.methodLink RX5 3 objectInit) (ab_in 85 (by decide +kernel) rfl)) (hts (.instanceMethod objectInit) (ab_in 27 (by decide +kernel) rfl)) (hts _ (ab_in 28 (by decide +kernel) rfl)) rfl (by rw [hml]; exact hl.1) rfl (show decode cX5_init 1 = .ok (.invokespecial 3, 3) by decide +kernel) (Nat.le_of_ble_eq_true rfl) (Nat.le_of_ble_eq_true rfl) ?_
  refine W.eq (g2 := F0 m 4 ls []) rfl ?_
  refine lv_aload_n (k := 0) hx hb (show decode cX5_init 4 = .ok (.aload_n 0, 1) by decide +kernel) rfl (lv_at hl 0 rfl) ?_
  refine lv_iconst (v := 5) hx hb (show decode cX5_init 5 = .ok (.iconst 5, 1) by decide +kernel) (by decide) ?_
  refine zb_newa (atype := .int) (ty := .int) (N' := 5) (a0 := (5, .inl (fun _ => 0))) hx hb (hts _ (ab_in 79 (by decide +kernel) rfl)) rfl 0 rfl hK hP hD hS hA (fun _ => rfl) (by decide) (by decide) (by decide) (Nat.le_of_ble_eq_true rfl) (Nat.le_of_ble_eq_true rfl) (show decode cX5_init 6 = .ok (.newarray .int, 2) by decide +kernel) (fun q6 H hP hD hS => ?_)
  have hP : va_P D vwCl [(h0, .inr (5, [.null, .null, .null, .null, .null, .null, .int 0])), (q6, .inl (cy .int, 5, .inl (fun _ => 0)))] H := hP
  have hD : va_D A [(h0, .inr (5, [.null, .null, .null, .null, .null, .null, .int 0])), (q6, .inl (cy .int, 5, .inl (fun _ => 0)))] := hD
  refine va_putF (D := D) (ci := 5) (v := .ref q6) (ty := (.array .int)) (C := RX5) (T := TX5) (N := 7) hx hb hts (zl_of zl_X5) tyX5 tyX5_ok nmX5 hown hK hP hD hS 0 rfl rfl 0 (by decide) (hts _ (ab_in 86 (by decide +kernel) rfl)) (fun _ h9 => h9) rfl hin rfl (by decide +kernel) rfl rfl (Nat.le_of_ble_eq_true rfl) (show decode cX5_init 8 = .ok (.putfield 9, 3) by decide +kernel) (fun H locs hP hD hS => ?_)
  have hP : va_P D vwCl [(h0, .inr (5, [.ref q6, .null, .null, .null, .null, .null, .int 0])), (q6, .inl (cy .int, 5, .inl (fun _ => 0)))] H := hP
  have hD : va_D A [(h0, .inr (5, [.ref q6, .null, .null, .null, .null, .null, .int 0])), (q6, .inl (cy .int, 5, .inl (fun _ => 0)))] := hD
  refine lv_aload_n (k := 0) hx hb (show decode cX5_init 11 = .ok (.aload_n 0, 1) by decide +kernel) rfl (lv_at hl 0 rfl) ?_
  refine lv_iconst (v := 5) hx hb (show decode cX5_init 12 = .ok (.iconst 5, 1) by decide +kernel) (by decide) ?_
  refine zb_newa (atype := .int) (ty := .int) (N' := 5) (a0 := (5, .inl (fun _ => 0))) hx hb (hts _ (ab_in 79 (by decide +kernel) rfl)) rfl 0 rfl hK hP hD hS hA (fun _ => rfl) (by decide) (by decide) (by decide) (Nat.le_of_ble_eq_true rfl) (Nat.le_of_ble_eq_true rfl) (show decode cX5_init 13 = .ok (.newarray .int, 2) by decide +kernel) (fun q13 H hP hD hS => ?_)
  have hP : va_P D vwCl [(h0, .inr (5, [.ref q6, .null, .null, .null, .null, .null, .int 0])), (q6, .inl (cy .int, 5, .inl (fun _ => 0))), (q13, .inl (cy .int, 5, .inl (fun _ => 0)))] H := hP
  have hD : va_D A [(h0, .inr (5, [.ref q6, .null, .null, .null, .null, .null, .int 0])), (q6, .inl (cy .int, 5, .inl (fun _ => 0))), (q13, .inl (cy .int, 5, .inl (fun _ => 0)))] := hD
  refine va_putF (D := D) (ci := 5) (v := .ref q13) (ty := (.array .int)) (C := RX5) (T := TX5) (N := 7) hx hb hts (zl_of zl_X5) tyX5 tyX5_ok nmX5 hown hK hP hD hS 0 rfl rfl 1 (by decide) (hts _ (ab_in 89 (by decide +kernel) rfl)) (fun _ h9 => h9) rfl hin rfl (by decide +kernel) rfl rfl (Nat.le_of_ble_eq_true rfl) (show decode cX5_init 15 = .ok (.putfield 15, 3) by decide +kernel) (fun H locs hP hD hS => ?_)
  have hP : va_P D vwCl [(h0, .inr (5, [.ref q6, .ref q13, .null, .null, .null, .null, .int 0])), (q6, .inl (cy .int, 5, .inl (fun _ => 0))), (q13, .inl (cy .int, 5, .inl (fun _ => 0)))] H := hP
  have hD : va_D A [(h0, .inr (5, [.ref q6, .ref q13, .null, .null, .null, .null, .int 0])), (q6, .inl (cy .int, 5, .inl (fun _ => 0))), (q13, .inl (cy .int, 5, .inl (fun _ => 0)))] := hD
  refine lv_aload_n (k := 0) hx hb (show decode cX5_init 18 = .ok (.aload_n 0, 1) by decide +kernel) rfl (lv_at hl 0 rfl) ?_
  refine lv_iconst (v := 5) hx hb (show decode cX5_init 19 = .ok (.iconst 5, 1) by decide +kernel) (by decide) ?_
  refine zb_newa (atype := .int) (ty := .int) (N' := 5) (a0 := (5, .inl (fun _ => 0))) hx hb (hts _ (ab_in 79 (by decide +kernel) rfl)) rfl 0 rfl hK hP hD hS hA (fun _ => rfl) (by decide) (by decide) (by decide) (Nat.le_of_ble_eq_true rfl) (Nat.le_of_ble_eq_true rfl) (show decode cX5_init 20 = .ok (.newarray .int, 2) by decide +kernel) (fun q20 H hP hD hS => ?_)
  have hP : va_P D vwCl [(h0, .inr (5, [.ref q6, .ref q13, .null, .null, .null, .null, .int 0])), (q6, .inl (cy .int, 5, .inl (fun _ => 0))), (q13, .inl (cy .int, 5, .inl (fun _ => 0))), (q20, .inl (cy .int, 5, .inl (fun _ => 0)))] H := hP
  have hD : va_D A [(h0, .inr (5, [.ref q6, .ref q13, .null, .null, .null, .null, .int 0])), (q6, .inl (cy .int, 5, .inl (fun _ => 0))), (q13, .inl (cy .int, 5, .inl (fun _ => 0))), (q20, .inl (cy .int, 5, .inl (fun _ => 0)))] := hD
  refine va_putF (D := D) (ci := 5) (v := .ref q20) (ty := (.array .int)) (C := RX5) (T := TX5) (N := 7) hx hb hts (zl_of zl_X5) tyX5 tyX5_ok nmX5 hown hK hP hD hS 0 rfl rfl 2 (by decide) (hts _ (ab_in 92 (by decide +kernel) rfl)) (fun _ h9 => h9) rfl hin rfl (by decide +kernel) rfl rfl (Nat.le_of_ble_eq_true rfl) (show decode cX5_init 22 = .ok (.putfield 18, 3) by decide +kernel) (fun H locs hP hD hS => ?_)
  have hP : va_P D vwCl [(h0, .inr (5, [.ref q6, .ref q13, .ref q20, .null, .null, .null, .int 0])), (q6, .inl (cy .int, 5, .inl (fun _ => 0))), (q13, .inl (cy .int, 5, .inl (fun _ => 0))), (q20, .inl (cy .int, 5, .inl (fun _ => 0)))] H := hP
  have hD : va_D A [(h0, .inr (5, [.ref q6, .ref q13, .ref q20, .null, .null, .null, .int 0])), (q6, .inl (cy .int, 5, .inl (fun _ => 0))), (q13, .inl (cy .int, 5, .inl (fun _ => 0))), (q20, .inl (cy .int, 5, .inl (fun _ => 0)))] := hD
  refine lv_aload_n (k := 0) hx hb (show decode cX5_init 25 = .ok (.aload_n 0, 1) by decide +kernel) rfl (lv_at hl 0 rfl) ?_
  refine lv_iconst (v := 5) hx hb (show decode cX5_init 26 = .ok (.iconst 5, 1) by decide +kernel) (by decide) ?_
  refine zb_newa (atype := .int) (ty := .int) (N' := 5) (a0 := (5, .inl (fun _ => 0))) hx hb (hts _ (ab_in 79 (by decide +kernel) rfl)) rfl 0 rfl hK hP hD hS hA (fun _ => rfl) (by decide) (by decide) (by decide) (Nat.le_of_ble_eq_true rfl) (Nat.le_of_ble_eq_true rfl) (show decode cX5_init 27 = .ok (.newarray .int, 2) by decide +kernel) (fun q27 H hP hD hS => ?_)
  have hP : va_P D vwCl [(h0, .inr (5, [.ref q6, .ref q13, .ref q20, .null, .null, .null, .int 0])), (q6, .inl (cy .int, 5, .inl (fun _ => 0))), (q13, .inl (cy .int, 5, .inl (fun _ => 0))), (q20, .inl (cy .int, 5, .inl (fun _ => 0))), (q27, .inl (cy .int, 5, .inl (fun _ => 0)))] H := hP
  have hD : va_D A [(h0, .inr (5, [.ref q6, .ref q13, .ref q20, .null, .null, .null, .int 0])), (q6, .inl (cy .int, 5, .inl (fun _ => 0))), (q13, .inl (cy .int, 5, .inl (fun _ => 0))), (q20, .inl (cy .int, 5, .inl (fun _ => 0))), (q27, .inl (cy .int, 5, .inl (fun _ => 0)))] := hD
  refine va_putF (D := D) (ci := 5) (v := .ref q27) (ty := (.array .int)) (C := RX5) (T := TX5) (N := 7) hx hb hts (zl_of zl_X5) tyX5 tyX5_ok nmX5 hown hK hP hD hS 0 rfl rfl 3 (by decide) (hts _ (ab_in 95 (by decide +kernel) rfl)) (fun _ h9 => h9) rfl hin rfl (by decide +kernel) rfl rfl (Nat.le_of_ble_eq_true rfl) (show decode cX5_init 29 = .ok (.putfield 21, 3) by decide +kernel) (fun H locs hP hD hS => ?_)
  have hP : va_P D vwCl [(h0, .inr (5, [.ref q6, .ref q13, .ref q20, .ref q27, .null, .null, .int 0])), (q6, .inl (cy .int, 5, .inl (fun _ => 0))), (q13, .inl (cy .int, 5, .inl (fun _ => 0))), (q20, .inl (cy .int, 5, .inl (fun _ => 0))), (q27, .inl (cy .int, 5, .inl (fun _ => 0)))] H := hP
  have hD : va_D A [(h0, .inr (5, [.ref q6, .ref q13, .ref q20, .ref q27, .null, .null, .int 0])), (q6, .inl (cy .int, 5, .inl (fun _ => 0))), (q13, .inl (cy .int, 5, .inl (fun _ => 0))), (q20, .inl (cy .int, 5, .inl (fun _ => 0))), (q27, .inl (cy .int, 5, .inl (fun _ => 0)))] := hD
  refine lv_aload_n (k := 0) hx hb (show decode cX5_init 32 = .ok (.aload_n 0, 1) by decide +kernel) rfl (lv_at hl 0 rfl) ?_
  refine lv_iconst (v := 5) hx hb (show decode cX5_init 33 = .ok (.iconst 5, 1) by decide +kernel) (by decide) ?_
  refine zb_newa (atype := .int) (ty := .int) (N' := 5) (a0 := (5, .inl (fun _ => 0))) hx hb (hts _ (ab_in 79 (by decide +kernel) rfl)) rfl 0 rfl hK hP hD hS hA (fun _ => rfl) (by decide) (by decide) (by decide) (Nat.le_of_ble_eq_true rfl) (Nat.le_of_ble_eq_true rfl) (show decode cX5_init 34 = .ok (.newarray .int, 2) by decide +kernel) (fun q34 H hP hD hS => ?_)
  have hP : va_P D vwCl [(h0, .inr (5, [.ref q6, .ref q13, .ref q20, .ref q27, .null, .null, .int 0])), (q6, .inl (cy .int, 5, .inl (fun _ => 0))), (q13, .inl (cy .int, 5, .inl (fun _ => 0))), (q20, .inl (cy .int, 5, .inl (fun _ => 0))), (q27, .inl (cy .int, 5, .inl (fun _ => 0))), (q34, .inl (cy .int, 5, .inl (fun _ => 0)))] H := hP
  have hD : va_D A [(h0, .inr (5, [.ref q6, .ref q13, .ref q20, .ref q27, .null, .null, .int 0])), (q6, .inl (cy .int, 5, .inl (fun _ => 0))), (q13, .inl (cy .int, 5, .inl (fun _ => 0))), (q20, .inl (cy .int, 5, .inl (fun _ => 0))), (q27, .inl (cy .int, 5, .inl (fun _ => 0))), (q34, .inl (cy .int, 5, .inl (fun _ => 0)))] := hD
  refine va_putF (D := D) (ci := 5) (v := .ref q34) (ty := (.array .int)) (C := RX5) (T := TX5) (N := 7) hx hb hts (zl_of zl_X5) tyX5 tyX5_ok nmX5 hown hK hP hD hS 0 rfl rfl 4 (by decide) (hts _ (ab_in 98 (by decide +kernel) rfl)) (fun _ h9 => h9) rfl hin rfl (by decide +kernel) rfl rfl (Nat.le_of_ble_eq_true rfl) (show decode cX5_init 36 = .ok (.putfield 24, 3) by decide +kernel) (fun H locs hP hD hS => ?_)
  have hP : va_P D vwCl [(h0, .inr (5, [.ref q6, .ref q13, .ref q20, .ref q27, .ref q34, .null, .int 0])), (q6, .inl (cy .int, 5, .inl (fun _ => 0))), (q13, .inl (cy .int, 5, .inl (fun _ => 0))), (q20, .inl (cy .int, 5, .inl (fun _ => 0))), (q27, .inl (cy .int, 5, .inl (fun _ => 0))), (q34, .inl (cy .int, 5, .inl (fun _ => 0)))] H := hP
  have hD : va_D A [(h0, .inr (5, [.ref q6, .ref q13, .ref q20, .ref q27, .ref q34, .null, .int 0])), (q6, .inl (cy .int, 5, .inl (fun _ => 0))), (q13, .inl (cy .int, 5, .inl (fun _ => 0))), (q20, .inl (cy .int, 5, .inl (fun _ => 0))), (q27, .inl (cy .int, 5, .inl (fun _ => 0))), (q34, .inl (cy .int, 5, .inl (fun _ => 0)))] := hD
  refine lv_aload_n (k := 0) hx hb (show decode cX5_init 39 = .ok (.aload_n 0, 1) by decide +kernel) rfl (lv_at hl 0 rfl) ?_
  refine lv_bipush (v := 60) hx hb (show decode cX5_init 40 = .ok (.bipush 60, 2) by decide +kernel) (by decide) ?_
  refine zb_newa (atype := .int) (ty := .int) (N' := 60) (a0 := (60, .inl (fun _ => 0))) hx hb (hts _ (ab_in 79 (by decide +kernel) rfl)) rfl 0 rfl hK hP hD hS hA (fun _ => rfl) (by decide) (by decide) (by decide) (Nat.le_of_ble_eq_true rfl) (Nat.le_of_ble_eq_true rfl) (show decode cX5_init 42 = .ok (.newarray .int, 2) by decide +kernel) (fun q42 H hP hD hS => ?_)
  have hP : va_P D vwCl [(h0, .inr (5, [.ref q6, .ref q13, .ref q20, .ref q27, .ref q34, .null, .int 0])), (q6, .inl (cy .int, 5, .inl (fun _ => 0))), (q13, .inl (cy .int, 5, .inl (fun _ => 0))), (q20, .inl (cy .int, 5, .inl (fun _ => 0))), (q27, .inl (cy .int, 5, .inl (fun _ => 0))), (q34, .inl (cy .int, 5, .inl (fun _ => 0))), (q42, .inl (cy .int, 60, .inl (fun _ => 0)))] H := hP
  have hD : va_D A [(h0, .inr (5, [.ref q6, .ref q13, .ref q20, .ref q27, .ref q34, .null, .int 0])), (q6, .inl (cy .int, 5, .inl (fun _ => 0))), (q13, .inl (cy .int, 5, .inl (fun _ => 0))), (q20, .inl (cy .int, 5, .inl (fun _ => 0))), (q27, .inl (cy .int, 5, .inl (fun _ => 0))), (q34, .inl (cy .int, 5, .inl (fun _ => 0))), (q42, .inl (cy .int, 60, .inl (fun _ => 0)))] := hD
  refine va_putF (D := D) (ci := 5) (v := .ref q42) (ty := (.array .int)) (C := RX5) (T := TX5) (N := 7) hx hb hts (zl_of zl_X5) tyX5 tyX5_ok nmX5 hown hK hP hD hS 0 rfl rfl 5 (by decide) (hts _ (ab_in 100 (by decide +kernel) rfl)) (fun _ h9 => h9) rfl hin rfl (by decide +kernel) rfl rfl (Nat.le_of_ble_eq_true rfl) (show decode cX5_init 44 = .ok (.putfield 27, 3) by decide +kernel) (fun H locs hP hD hS => ?_)
  have hP : va_P D vwCl [(h0, .inr (5, [.ref q6, .ref q13, .ref q20, .ref q27, .ref q34, .ref q42, .int 0])), (q6, .inl (cy .int, 5, .inl (fun _ => 0))), (q13, .inl (cy .int, 5, .inl (fun _ => 0))), (q20, .inl (cy .int, 5, .inl (fun _ => 0))), (q27, .inl (cy .int, 5, .inl (fun _ => 0))), (q34, .inl (cy .int, 5, .inl (fun _ => 0))), (q42, .inl (cy .int, 60, .inl (fun _ => 0)))] H := hP
  have hD : va_D A [(h0, .inr (5, [.ref q6, .ref q13, .ref q20, .ref q27, .ref q34, .ref q42, .int 0])), (q6, .inl (cy .int, 5, .inl (fun _ => 0))), (q13, .inl (cy .int, 5, .inl (fun _ => 0))), (q20, .inl (cy .int, 5, .inl (fun _ => 0))), (q27, .inl (cy .int, 5, .inl (fun _ => 0))), (q34, .inl (cy .int, 5, .inl (fun _ => 0))), (q42, .inl (cy .int, 60, .inl (fun _ => 0)))] := hD
  refine lv_aload_n (k := 0) hx hb (show decode cX5_init 47 = .ok (.aload_n 0, 1) by decide +kernel) rfl (lv_at hl 0 rfl) ?_
  refine lv_iconst (v := 0) hx hb (show decode cX5_init 48 = .ok (.iconst 0, 1) by decide +kernel) (by decide) ?_
  refine va_put (D := D) (ci := 5) (v := .int 0) (ty := .int) (C := RX5) (T := TX5) (N := 7) hx hb hts (zl_of zl_X5) tyX5 tyX5_ok nmX5 hown hK hP hD hS 0 rfl rfl 6 (by decide) (hts _ (ab_in 103 (by decide +kernel) rfl)) (fun _ h9 => h9) rfl (by decide +kernel) rfl rfl (Nat.le_of_ble_eq_true rfl) (show decode cX5_init 49 = .ok (.putfield 30, 3) by decide +kernel) (fun H locs hP hD hS => ?_)
  have hP : va_P D vwCl [(h0, .inr (5, [.ref q6, .ref q13, .ref q20, .ref q27, .ref q34, .ref q42, .int 0])), (q6, .inl (cy .int, 5, .inl (fun _ => 0))), (q13, .inl (cy .int, 5, .inl (fun _ => 0))), (q20, .inl (cy .int, 5, .inl (fun _ => 0))), (q27, .inl (cy .int, 5, .inl (fun _ => 0))), (q34, .inl (cy .int, 5, .inl (fun _ => 0))), (q42, .inl (cy .int, 60, .inl (fun _ => 0)))] H := hP
  have hD : va_D A [(h0, .inr (5, [.ref q6, .ref q13, .ref q20, .ref q27, .ref q34, .ref q42, .int 0])), (q6, .inl (cy .int, 5, .inl (fun _ => 0))), (q13, .inl (cy .int, 5, .inl (fun _ => 0))), (q20, .inl (cy .int, 5, .inl (fun _ => 0))), (q27, .inl (cy .int, 5, .inl (fun _ => 0))), (q34, .inl (cy .int, 5, .inl (fun _ => 0))), (q42, .inl (cy .int, 60, .inl (fun _ => 0)))] := hD
  refine W.widen (k := 6) (n := 85) (Nat.le_of_ble_eq_true rfl) (Nat.le_of_ble_eq_true rfl) ?_
  exact W.vret hx hb hr (fun t ht hW => ⟨⟨fun j => ([q6, q13, q20, q27, q34, q42] : List Nat).getD j 0, rfl, trivial, by rw [ht]; exact hP, va_K.moved hW.alike hK, hD⟩, hS.F ht⟩) hS.2.2 (by decide +kernel) hlocks
set_option maxHeartbeats 4000000 in
set_option maxRecDepth 100000 in
theorem zK_X6 (l : Launch) (D : va_G) (cy : FieldType → ClassId) (h0 a1 a2 a3 sz : Nat) : Met l yX6_init (Cond.code yX6_init cX6_init 4 none :: ab_B) { frames := 1, cells := 1, slots := 7, locals := 12 } (va_Pc [.ref h0, .ref a1, .ref a2, .ref a3] (zKp D cy [(h0, .inr (6, [.null, .null, .null, .null, .long 0, .long 0]))] sz)) (va_Qv (fun _ : Nat → Nat => True) (zKq D cy (va_A [(h0, .inr (6, [.null, .null, .null, .null, .long 0, .long 0]))] sz) (fun u => [(h0, .inr (6, [.ref a1, .ref a2, .ref a3, .ref (u 0), .long 0, .long 0])), ((u 0), .inl (cy .long, 7, .inr (.inl (fun _ => 0))))])) (va_A [(h0, .inr (6, [.null, .null, .null, .null, .long 0, .long 0]))] sz)) 1 7 (va_A [(h0, .inr (6, [.null, .null, .null, .null, .long 0, .long 0]))] sz) := by
  refine Met.ofW (cc := cX6_init) (maxL := 4) (ret := none) (by decide) rfl ?_
  intro p e s m args below meth c s₁ B hml hv
  obtain ⟨rfl, hsz, hP, hK, hD0, hNw⟩ := hv
  have hx := B.exec
  have hb := B.bytes
  have hr := B.returns
  have hts0 := atoms_spec (ws := Cond.code yX6_init cX6_init 4 none :: ab_B) B.pre
  have hts : ∀ w ∈ ab_B, w.before _ s = true := fun w hw => hts0 w (List.mem_cons_of_mem _ hw)
  have hown : s.vm.findClass RX6 = some m.cls := findClass_of_methodNamed B.named
  have hlocks := B.notSynchronized
  have hin : meth.name = "<init>" := (name_of_methodNamed B.named B.method).1
  subst hsz
  have hD := hD0.self (sz := s.heap.size)
  generalize hAe : va_A [(h0, .inr (6, [.null, .null, .null, .null, .long 0, .long 0]))] s.heap.size = A at hD ⊢
  have hA : ∀ q : Nat, s.heap.size ≤ q → A q := fun q h => by rw [← hAe]; exact Or.inr h
  have hS : va_S A s.heap s.heap [] := va_S.rf
  have hP : va_P D vwCl [(h0, .inr (6, [.null, .null, .null, .null, .long 0, .long 0]))] s.heap := hP
  have hl := lv_entry ([.ref h0, .ref a1, .ref a2, .ref a3]) (n := 4) (Nat.le_of_ble_eq_true rfl)
  rw [lg_entry_eq]
  generalize (lg_sl ([.ref h0, .ref a1, .ref a2, .ref a3]) ++ List.replicate (4 - (lg_sl ([.ref h0, .ref a1, .ref a2, .ref a3])).length) Slot.unset).toArray = ls at hl ⊢
  have hl : lv_has ls 4 [(0, .ref h0), (1, .ref a1), (2, .ref a2), (3, .ref a3)] := hl
  refine lv_aload_n (k := 0) hx hb (show decode cX6_init 0 = .ok (.aload_n 0, 1) by decide +kernel) rfl (lv_at hl 0 rfl) ?_
  refine W.objInit hx hb hown (hts (.methodLink RX6 3 objectInit) (ab_in 260 (by decide +kernel) rfl)) (hts (.instanceMethod objectInit) (ab_in 27 (by decide +kernel) rfl)) (hts _ (ab_in 28 (by decide +kernel) rfl)) rfl (by rw [hml]; exact hl.1) rfl (show decode cX6_init 1 = .ok (.invokespecial 3, 3) by decide +kernel) (Nat.le_of_ble_eq_true rfl) (Nat.le_of_ble_eq_true rfl) ?_
  refine W.eq (g2 := F0 m 4 ls []) rfl ?_
  refine lv_aload_n (k := 0) hx hb (show decode cX6_init 4 = .ok (.aload_n 0, 1) by decide +kernel) rfl (lv_at hl 0 rfl) ?_
  refine lv_bipush (v := 7) hx hb (show decode cX6_init 5 = .ok (.bipush 7, 2) by decide +kernel) (by decide) ?_
  refine zb_newa (atype := .long) (ty := .long) (N' := 7) (a0 := (7, .inr (.inl (fun _ => 0)))) hx hb (hts _ (ab_in 282 (by decide +kernel) rfl)) rfl 1 rfl hK hP hD hS hA (fun _ => rfl) (by decide) (by decide) (by decide) (Nat.le_of_ble_eq_true rfl) (Nat.le_of_ble_eq_true rfl) (show decode cX6_init 7 = .ok (.newarray .long, 2) by decide +kernel) (fun q7 H hP hD hS => ?_)
  have hP : va_P D vwCl [(h0, .inr (6, [.null, .null, .null, .null, .long 0, .long 0])), (q7, .inl (cy .long, 7, .inr (.inl (fun _ => 0))))] H := hP
  have hD : va_D A [(h0, .inr (6, [.null, .null, .null, .null, .long 0, .long 0])), (q7, .inl (cy .long, 7, .inr (.inl (fun _ => 0))))] := hD
  refine va_putF (D := D) (ci := 6) (v := .ref q7) (ty := (.array .long)) (C := RX6) (T := TX6) (N := 6) hx hb hts (zl_of zl_X6) tyX6 tyX6_ok nmX6 hown hK hP hD hS 0 rfl rfl 3 (by decide) (hts _ (ab_in 264 (by decide +kernel) rfl)) (fun _ h9 => h9) rfl hin rfl (by decide +kernel) rfl rfl (Nat.le_of_ble_eq_true rfl) (show decode cX6_init 9 = .ok (.putfield 9, 3) by decide +kernel) (fun H locs hP hD hS => ?_)
  have hP : va_P D vwCl [(h0, .inr (6, [.null, .null, .null, .ref q7, .long 0, .long 0])), (q7, .inl (cy .long, 7, .inr (.inl (fun _ => 0))))] H := hP
  have hD : va_D A [(h0, .inr (6, [.null, .null, .null, .ref q7, .long 0, .long 0])), (q7, .inl (cy .long, 7, .inr (.inl (fun _ => 0))))] := hD
  refine lv_aload_n (k := 0) hx hb (show decode cX6_init 12 = .ok (.aload_n 0, 1) by decide +kernel) rfl (lv_at hl 0 rfl) ?_
  refine lv_aload_n (k := 1) hx hb (show decode cX6_init 13 = .ok (.aload_n 1, 1) by decide +kernel) rfl (lv_at hl 1 rfl) ?_
  refine va_putF (D := D) (ci := 6) (v := .ref a1) (ty := (.object "WalkTheDike$Dike")) (C := RX6) (T := TX6) (N := 6) hx hb hts (zl_of zl_X6) tyX6 tyX6_ok nmX6 hown hK hP hD hS 0 rfl rfl 0 (by decide) (hts _ (ab_in 261 (by decide +kernel) rfl)) (fun _ h9 => h9) rfl hin rfl (by decide +kernel) rfl rfl (Nat.le_of_ble_eq_true rfl) (show decode cX6_init 14 = .ok (.putfield 15, 3) by decide +kernel) (fun H locs hP hD hS => ?_)
  have hP : va_P D vwCl [(h0, .inr (6, [.ref a1, .null, .null, .ref q7, .long 0, .long 0])), (q7, .inl (cy .long, 7, .inr (.inl (fun _ => 0))))] H := hP
  have hD : va_D A [(h0, .inr (6, [.ref a1, .null, .null, .ref q7, .long 0, .long 0])), (q7, .inl (cy .long, 7, .inr (.inl (fun _ => 0))))] := hD
  refine lv_aload_n (k := 0) hx hb (show decode cX6_init 17 = .ok (.aload_n 0, 1) by decide +kernel) rfl (lv_at hl 0 rfl) ?_
  refine lv_aload_n (k := 2) hx hb (show decode cX6_init 18 = .ok (.aload_n 2, 1) by decide +kernel) rfl (lv_at hl 2 rfl) ?_
  refine va_putF (D := D) (ci := 6) (v := .ref a2) (ty := (.object "WalkTheDike$Walk")) (C := RX6) (T := TX6) (N := 6) hx hb hts (zl_of zl_X6) tyX6 tyX6_ok nmX6 hown hK hP hD hS 0 rfl rfl 1 (by decide) (hts _ (ab_in 262 (by decide +kernel) rfl)) (fun _ h9 => h9) rfl hin rfl (by decide +kernel) rfl rfl (Nat.le_of_ble_eq_true rfl) (show decode cX6_init 19 = .ok (.putfield 19, 3) by decide +kernel) (fun H locs hP hD hS => ?_)
  have hP : va_P D vwCl [(h0, .inr (6, [.ref a1, .ref a2, .null, .ref q7, .long 0, .long 0])), (q7, .inl (cy .long, 7, .inr (.inl (fun _ => 0))))] H := hP
  have hD : va_D A [(h0, .inr (6, [.ref a1, .ref a2, .null, .ref q7, .long 0, .long 0])), (q7, .inl (cy .long, 7, .inr (.inl (fun _ => 0))))] := hD
  refine lv_aload_n (k := 0) hx hb (show decode cX6_init 22 = .ok (.aload_n 0, 1) by decide +kernel) rfl (lv_at hl 0 rfl) ?_
  refine lv_aload_n (k := 3) hx hb (show decode cX6_init 23 = .ok (.aload_n 3, 1) by decide +kernel) rfl (lv_at hl 3 rfl) ?_
  refine va_putF (D := D) (ci := 6) (v := .ref a3) (ty := (.object "WalkTheDike$Chances")) (C := RX6) (T := TX6) (N := 6) hx hb hts (zl_of zl_X6) tyX6 tyX6_ok nmX6 hown hK hP hD hS 0 rfl rfl 2 (by decide) (hts _ (ab_in 263 (by decide +kernel) rfl)) (fun _ h9 => h9) rfl hin rfl (by decide +kernel) rfl rfl (Nat.le_of_ble_eq_true rfl) (show decode cX6_init 24 = .ok (.putfield 23, 3) by decide +kernel) (fun H locs hP hD hS => ?_)
  have hP : va_P D vwCl [(h0, .inr (6, [.ref a1, .ref a2, .ref a3, .ref q7, .long 0, .long 0])), (q7, .inl (cy .long, 7, .inr (.inl (fun _ => 0))))] H := hP
  have hD : va_D A [(h0, .inr (6, [.ref a1, .ref a2, .ref a3, .ref q7, .long 0, .long 0])), (q7, .inl (cy .long, 7, .inr (.inl (fun _ => 0))))] := hD
  refine W.widen (k := 1) (n := 7) (Nat.le_of_ble_eq_true rfl) (Nat.le_of_ble_eq_true rfl) ?_
  exact W.vret hx hb hr (fun t ht hW => ⟨⟨fun j => ([q7] : List Nat).getD j 0, rfl, trivial, by rw [ht]; exact hP, va_K.moved hW.alike hK, hD⟩, hS.F ht⟩) hS.2.2 (by decide +kernel) hlocks
set_option maxHeartbeats 4000000 in
set_option maxRecDepth 100000 in
theorem zK_X7 (l : Launch) (D : va_G) (cy : FieldType → ClassId) (h0 sz : Nat) : Met l yX7_init (Cond.code yX7_init cX7_init 1 none :: ab_B) { frames := 1, cells := 3, slots := 168, locals := 12 } (va_Pc [.ref h0] (zKp D cy [(h0, .inr (7, [.null, .null, .null]))] sz)) (va_Qv (fun _ : Nat → Nat => True) (zKq D cy (va_A [(h0, .inr (7, [.null, .null, .null]))] sz) (fun u => [(h0, .inr (7, [.ref (u 0), .ref (u 1), .ref (u 2)])), ((u 0), .inl (cy .int, 4, .inl (upd (upd (upd (upd (fun _ => 0) 0 (-1)) 1 (-1)) 2 (-1)) 3 (-1)))), ((u 1), .inl (cy .int, 4, .inl (fun _ => 0))), ((u 2), .inl (cy .int, 160, .inl (fun _ => 0)))])) (va_A [(h0, .inr (7, [.null, .null, .null]))] sz)) 3 168 (va_A [(h0, .inr (7, [.null, .null, .null]))] sz) := by
  refine Met.ofW (cc := cX7_init) (maxL := 1) (ret := none) (by decide) rfl ?_
  intro p e s m args below meth c s₁ B hml hv
  obtain ⟨rfl, hsz, hP, hK, hD0, hNw⟩ := hv
  have hx := B.exec
  have hb := B.bytes
  have hr := B.returns
  have hts0 := atoms_spec (ws := Cond.code yX7_init cX7_init 1 none :: ab_B) B.pre
  have hts : ∀ w ∈ ab_B, w.before _ s = true := fun w hw => hts0 w (List.mem_cons_of_mem _ hw)
  have hown : s.vm.findClass RX7 = some m.cls := findClass_of_methodNamed B.named
  have hlocks := B.notSynchronized
  have hin : meth.name = "<init>" := (name_of_methodNamed B.named B.method).1
  subst hsz
  have hD := hD0.self (sz := s.heap.size)
  generalize hAe : va_A [(h0, .inr (7, [.null, .null, .null]))] s.heap.size = A at hD ⊢
  have hA : ∀ q : Nat, s.heap.size ≤ q → A q := fun q h => by rw [← hAe]; exact Or.inr h
  have hS : va_S A s.heap s.heap [] := va_S.rf
  have hP : va_P D vwCl [(h0, .inr (7, [.null, .null, .null]))] s.heap := hP
  have hl := lv_entry ([.ref h0]) (n := 1) (Nat.le_of_ble_eq_true rfl)
  rw [lg_entry_eq]
  generalize (lg_sl ([.ref h0]) ++ List.replicate (1 - (lg_sl ([.ref h0])).length) Slot.unset).toArray = ls at hl ⊢
  have hl : lv_has ls 1 [(0, .ref h0)] := hl
  refine lv_aload_n (k := 0) hx hb (show decode cX7_init 0 = .ok (.aload_n 0, 1) by decide +kernel) rfl (lv_at hl 0 rfl) ?_
  refine W.objInit hx hb hown (hts (.methodLink RX7 3 objectInit) (ab_in 322 (by decide +kernel) rfl)) (hts (.instanceMethod objectInit) (ab_in 27 (by decide +kernel) rfl)) (hts _ (ab_in 28 (by decide +kernel) rfl)) rfl (by rw [hml]; exact hl.1) rfl (show decode cX7_init 1 = .ok (.invokespecial 3, 3) by decide +kernel) (Nat.le_of_ble_eq_true rfl) (Nat.le_of_ble_eq_true rfl) ?_
  refine W.eq (g2 := F0 m 4 ls []) rfl ?_
  refine lv_aload_n (k := 0) hx hb (show decode cX7_init 4 = .ok (.aload_n 0, 1) by decide +kernel) rfl (lv_at hl 0 rfl) ?_
  refine lv_iconst (v := 4) hx hb (show decode cX7_init 5 = .ok (.iconst 4, 1) by decide +kernel) (by decide) ?_
  refine zb_newa (atype := .int) (ty := .int) (N' := 4) (a0 := (4, .inl (fun _ => 0))) hx hb (hts _ (ab_in 79 (by decide +kernel) rfl)) rfl 0 rfl hK hP hD hS hA (fun _ => rfl) (by decide) (by decide) (by decide) (Nat.le_of_ble_eq_true rfl) (Nat.le_of_ble_eq_true rfl) (show decode cX7_init 6 = .ok (.newarray .int, 2) by decide +kernel) (fun q6 H hP hD hS => ?_)
  have hP : va_P D vwCl [(h0, .inr (7, [.null, .null, .null])), (q6, .inl (cy .int, 4, .inl (fun _ => 0)))] H := hP
  have hD : va_D A [(h0, .inr (7, [.null, .null, .null])), (q6, .inl (cy .int, 4, .inl (fun _ => 0)))] := hD
  refine lv_dup hx hb (show decode cX7_init 8 = .ok (.dup, 1) by decide +kernel) rfl ?_
  refine lv_iconst (v := 0) hx hb (show decode cX7_init 9 = .ok (.iconst 0, 1) by decide +kernel) (by decide) ?_
  refine lv_iconst (v := -1) hx hb (show decode cX7_init 10 = .ok (.iconst (-1), 1) by decide +kernel) (by decide) ?_
  refine va_iast hx hb hK hP hD hS 1 0 rfl rfl (zIn (by decide)) (show decode cX7_init 11 = .ok (.iastore, 1) by decide +kernel) (fun H locs hP hD hS => ?_)
  have hP : va_P D vwCl [(h0, .inr (7, [.null, .null, .null])), (q6, .inl (cy .int, 4, .inl (upd (fun _ => 0) 0 (-1))))] H := hP
  have hD : va_D A [(h0, .inr (7, [.null, .null, .null])), (q6, .inl (cy .int, 4, .inl (upd (fun _ => 0) 0 (-1))))] := hD
  refine lv_dup hx hb (show decode cX7_init 12 = .ok (.dup, 1) by decide +kernel) rfl ?_
  refine lv_iconst (v := 1) hx hb (show decode cX7_init 13 = .ok (.iconst 1, 1) by decide +kernel) (by decide) ?_
  refine lv_iconst (v := -1) hx hb (show decode cX7_init 14 = .ok (.iconst (-1), 1) by decide +kernel) (by decide) ?_
  refine va_iast hx hb hK hP hD hS 1 0 rfl rfl (zIn (by decide)) (show decode cX7_init 15 = .ok (.iastore, 1) by decide +kernel) (fun H locs hP hD hS => ?_)
  have hP : va_P D vwCl [(h0, .inr (7, [.null, .null, .null])), (q6, .inl (cy .int, 4, .inl (upd (upd (fun _ => 0) 0 (-1)) 1 (-1))))] H := hP
  have hD : va_D A [(h0, .inr (7, [.null, .null, .null])), (q6, .inl (cy .int, 4, .inl (upd (upd (fun _ => 0) 0 (-1)) 1 (-1))))] := hD
  refine lv_dup hx hb (show decode cX7_init 16 = .ok (.dup, 1) by decide +kernel) rfl ?_
  refine lv_iconst (v := 2) hx hb (show decode cX7_init 17 = .ok (.iconst 2, 1) by decide +kernel) (by decide) ?_
  refine lv_iconst (v := -1) hx hb (show decode cX7_init 18 = .ok (.iconst (-1), 1) by decide +kernel) (by decide) ?_
  refine va_iast hx hb hK hP hD hS 1 0 rfl rfl (zIn (by decide)) (show decode cX7_init 19 = .ok (.iastore, 1) by decide +kernel) (fun H locs hP hD hS => ?_)
  have hP : va_P D vwCl [(h0, .inr (7, [.null, .null, .null])), (q6, .inl (cy .int, 4, .inl (upd (upd (upd (fun _ => 0) 0 (-1)) 1 (-1)) 2 (-1))))] H := hP
  have hD : va_D A [(h0, .inr (7, [.null, .null, .null])), (q6, .inl (cy .int, 4, .inl (upd (upd (upd (fun _ => 0) 0 (-1)) 1 (-1)) 2 (-1))))] := hD
  refine lv_dup hx hb (show decode cX7_init 20 = .ok (.dup, 1) by decide +kernel) rfl ?_
  refine lv_iconst (v := 3) hx hb (show decode cX7_init 21 = .ok (.iconst 3, 1) by decide +kernel) (by decide) ?_
  refine lv_iconst (v := -1) hx hb (show decode cX7_init 22 = .ok (.iconst (-1), 1) by decide +kernel) (by decide) ?_
  refine va_iast hx hb hK hP hD hS 1 0 rfl rfl (zIn (by decide)) (show decode cX7_init 23 = .ok (.iastore, 1) by decide +kernel) (fun H locs hP hD hS => ?_)
  have hP : va_P D vwCl [(h0, .inr (7, [.null, .null, .null])), (q6, .inl (cy .int, 4, .inl (upd (upd (upd (upd (fun _ => 0) 0 (-1)) 1 (-1)) 2 (-1)) 3 (-1))))] H := hP
  have hD : va_D A [(h0, .inr (7, [.null, .null, .null])), (q6, .inl (cy .int, 4, .inl (upd (upd (upd (upd (fun _ => 0) 0 (-1)) 1 (-1)) 2 (-1)) 3 (-1))))] := hD
  refine va_putF (D := D) (ci := 7) (v := .ref q6) (ty := (.array .int)) (C := RX7) (T := TX7) (N := 3) hx hb hts (zl_of zl_X7) tyX7 tyX7_ok nmX7 hown hK hP hD hS 0 rfl rfl 0 (by decide) (hts _ (ab_in 323 (by decide +kernel) rfl)) (fun _ h9 => h9) rfl hin rfl (by decide +kernel) rfl rfl (Nat.le_of_ble_eq_true rfl) (show decode cX7_init 24 = .ok (.putfield 9, 3) by decide +kernel) (fun H locs hP hD hS => ?_)
  have hP : va_P D vwCl [(h0, .inr (7, [.ref q6, .null, .null])), (q6, .inl (cy .int, 4, .inl (upd (upd (upd (upd (fun _ => 0) 0 (-1)) 1 (-1)) 2 (-1)) 3 (-1))))] H := hP
  have hD : va_D A [(h0, .inr (7, [.ref q6, .null, .null])), (q6, .inl (cy .int, 4, .inl (upd (upd (upd (upd (fun _ => 0) 0 (-1)) 1 (-1)) 2 (-1)) 3 (-1))))] := hD
  refine lv_aload_n (k := 0) hx hb (show decode cX7_init 27 = .ok (.aload_n 0, 1) by decide +kernel) rfl (lv_at hl 0 rfl) ?_
  refine lv_iconst (v := 4) hx hb (show decode cX7_init 28 = .ok (.iconst 4, 1) by decide +kernel) (by decide) ?_
  refine zb_newa (atype := .int) (ty := .int) (N' := 4) (a0 := (4, .inl (fun _ => 0))) hx hb (hts _ (ab_in 79 (by decide +kernel) rfl)) rfl 0 rfl hK hP hD hS hA (fun _ => rfl) (by decide) (by decide) (by decide) (Nat.le_of_ble_eq_true rfl) (Nat.le_of_ble_eq_true rfl) (show decode cX7_init 29 = .ok (.newarray .int, 2) by decide +kernel) (fun q29 H hP hD hS => ?_)
  have hP : va_P D vwCl [(h0, .inr (7, [.ref q6, .null, .null])), (q6, .inl (cy .int, 4, .inl (upd (upd (upd (upd (fun _ => 0) 0 (-1)) 1 (-1)) 2 (-1)) 3 (-1)))), (q29, .inl (cy .int, 4, .inl (fun _ => 0)))] H := hP
  have hD : va_D A [(h0, .inr (7, [.ref q6, .null, .null])), (q6, .inl (cy .int, 4, .inl (upd (upd (upd (upd (fun _ => 0) 0 (-1)) 1 (-1)) 2 (-1)) 3 (-1)))), (q29, .inl (cy .int, 4, .inl (fun _ => 0)))] := hD
  refine va_putF (D := D) (ci := 7) (v := .ref q29) (ty := (.array .int)) (C := RX7) (T := TX7) (N := 3) hx hb hts (zl_of zl_X7) tyX7 tyX7_ok nmX7 hown hK hP hD hS 0 rfl rfl 1 (by decide) (hts _ (ab_in 325 (by decide +kernel) rfl)) (fun _ h9 => h9) rfl hin rfl (by decide +kernel) rfl rfl (Nat.le_of_ble_eq_true rfl) (show decode cX7_init 31 = .ok (.putfield 15, 3) by decide +kernel) (fun H locs hP hD hS => ?_)
  have hP : va_P D vwCl [(h0, .inr (7, [.ref q6, .ref q29, .null])), (q6, .inl (cy .int, 4, .inl (upd (upd (upd (upd (fun _ => 0) 0 (-1)) 1 (-1)) 2 (-1)) 3 (-1)))), (q29, .inl (cy .int, 4, .inl (fun _ => 0)))] H := hP
  have hD : va_D A [(h0, .inr (7, [.ref q6, .ref q29, .null])), (q6, .inl (cy .int, 4, .inl (upd (upd (upd (upd (fun _ => 0) 0 (-1)) 1 (-1)) 2 (-1)) 3 (-1)))), (q29, .inl (cy .int, 4, .inl (fun _ => 0)))] := hD
  refine lv_aload_n (k := 0) hx hb (show decode cX7_init 34 = .ok (.aload_n 0, 1) by decide +kernel) rfl (lv_at hl 0 rfl) ?_
  refine lv_sipush (v := 160) hx hb (show decode cX7_init 35 = .ok (.sipush 160, 3) by decide +kernel) (by decide) ?_
  refine zb_newa (atype := .int) (ty := .int) (N' := 160) (a0 := (160, .inl (fun _ => 0))) hx hb (hts _ (ab_in 79 (by decide +kernel) rfl)) rfl 0 rfl hK hP hD hS hA (fun _ => rfl) (by decide) (by decide) (by decide) (Nat.le_of_ble_eq_true rfl) (Nat.le_of_ble_eq_true rfl) (show decode cX7_init 38 = .ok (.newarray .int, 2) by decide +kernel) (fun q38 H hP hD hS => ?_)
  have hP : va_P D vwCl [(h0, .inr (7, [.ref q6, .ref q29, .null])), (q6, .inl (cy .int, 4, .inl (upd (upd (upd (upd (fun _ => 0) 0 (-1)) 1 (-1)) 2 (-1)) 3 (-1)))), (q29, .inl (cy .int, 4, .inl (fun _ => 0))), (q38, .inl (cy .int, 160, .inl (fun _ => 0)))] H := hP
  have hD : va_D A [(h0, .inr (7, [.ref q6, .ref q29, .null])), (q6, .inl (cy .int, 4, .inl (upd (upd (upd (upd (fun _ => 0) 0 (-1)) 1 (-1)) 2 (-1)) 3 (-1)))), (q29, .inl (cy .int, 4, .inl (fun _ => 0))), (q38, .inl (cy .int, 160, .inl (fun _ => 0)))] := hD
  refine va_putF (D := D) (ci := 7) (v := .ref q38) (ty := (.array .int)) (C := RX7) (T := TX7) (N := 3) hx hb hts (zl_of zl_X7) tyX7 tyX7_ok nmX7 hown hK hP hD hS 0 rfl rfl 2 (by decide) (hts _ (ab_in 327 (by decide +kernel) rfl)) (fun _ h9 => h9) rfl hin rfl (by decide +kernel) rfl rfl (Nat.le_of_ble_eq_true rfl) (show decode cX7_init 40 = .ok (.putfield 18, 3) by decide +kernel) (fun H locs hP hD hS => ?_)
  have hP : va_P D vwCl [(h0, .inr (7, [.ref q6, .ref q29, .ref q38])), (q6, .inl (cy .int, 4, .inl (upd (upd (upd (upd (fun _ => 0) 0 (-1)) 1 (-1)) 2 (-1)) 3 (-1)))), (q29, .inl (cy .int, 4, .inl (fun _ => 0))), (q38, .inl (cy .int, 160, .inl (fun _ => 0)))] H := hP
  have hD : va_D A [(h0, .inr (7, [.ref q6, .ref q29, .ref q38])), (q6, .inl (cy .int, 4, .inl (upd (upd (upd (upd (fun _ => 0) 0 (-1)) 1 (-1)) 2 (-1)) 3 (-1)))), (q29, .inl (cy .int, 4, .inl (fun _ => 0))), (q38, .inl (cy .int, 160, .inl (fun _ => 0)))] := hD
  refine W.widen (k := 3) (n := 168) (Nat.le_of_ble_eq_true rfl) (Nat.le_of_ble_eq_true rfl) ?_
  exact W.vret hx hb hr (fun t ht hW => ⟨⟨fun j => ([q6, q29, q38] : List Nat).getD j 0, rfl, trivial, by rw [ht]; exact hP, va_K.moved hW.alike hK, hD⟩, hS.F ht⟩) hS.2.2 (by decide +kernel) hlocks
set_option maxHeartbeats 4000000 in
set_option maxRecDepth 100000 in
theorem zK_X8 (l : Launch) (D : va_G) (cy : FieldType → ClassId) (h0 a1 sz : Nat) : Met l yX8_init (Cond.code yX8_init cX8_init 2 none :: ab_B) { frames := 1, cells := 1, slots := 160, locals := 12 } (va_Pc [.ref h0, .ref a1] (zKp D cy [(h0, .inr (8, [.null, .null, .int 0, .int 0, .int 0, .int 0, .int 0, .int 0]))] sz)) (va_Qv (fun _ : Nat → Nat => True) (zKq D cy (va_A [(h0, .inr (8, [.null, .null, .int 0, .int 0, .int 0, .int 0, .int 0, .int 0]))] sz) (fun u => [(h0, .inr (8, [.ref a1, .ref (u 0), .int 0, .int 0, .int 0, .int 0, .int 0, .int 0])), ((u 0), .inl (cy .int, 160, .inl (fun _ => 0)))])) (va_A [(h0, .inr (8, [.null, .null, .int 0, .int 0, .int 0, .int 0, .int 0, .int 0]))] sz)) 1 160 (va_A [(h0, .inr (8, [.null, .null, .int 0, .int 0, .int 0, .int 0, .int 0, .int 0]))] sz) := by
  refine Met.ofW (cc := cX8_init) (maxL := 2) (ret := none) (by decide) rfl ?_
  intro p e s m args below meth c s₁ B hml hv
  obtain ⟨rfl, hsz, hP, hK, hD0, hNw⟩ := hv
  have hx := B.exec
  have hb := B.bytes
  have hr := B.returns
  have hts0 := atoms_spec (ws := Cond.code yX8_init cX8_init 2 none :: ab_B) B.pre
  have hts : ∀ w ∈ ab_B, w.before _ s = true := fun w hw => hts0 w (List.mem_cons_of_mem _ hw)
  have hown : s.vm.findClass RX8 = some m.cls := findClass_of_methodNamed B.named
  have hlocks := B.notSynchronized
  have hin : meth.name = "<init>" := (name_of_methodNamed B.named B.method).1
  subst hsz
  have hD := hD0.self (sz := s.heap.size)
  generalize hAe : va_A [(h0, .inr (8, [.null, .null, .int 0, .int 0, .int 0, .int 0, .int 0, .int 0]))] s.heap.size = A at hD ⊢
  have hA : ∀ q : Nat, s.heap.size ≤ q → A q := fun q h => by rw [← hAe]; exact Or.inr h
  have hS : va_S A s.heap s.heap [] := va_S.rf
  have hP : va_P D vwCl [(h0, .inr (8, [.null, .null, .int 0, .int 0, .int 0, .int 0, .int 0, .int 0]))] s.heap := hP
  have hl := lv_entry ([.ref h0, .ref a1]) (n := 2) (Nat.le_of_ble_eq_true rfl)
  rw [lg_entry_eq]
  generalize (lg_sl ([.ref h0, .ref a1]) ++ List.replicate (2 - (lg_sl ([.ref h0, .ref a1])).length) Slot.unset).toArray = ls at hl ⊢
  have hl : lv_has ls 2 [(0, .ref h0), (1, .ref a1)] := hl
  refine lv_aload_n (k := 0) hx hb (show decode cX8_init 0 = .ok (.aload_n 0, 1) by decide +kernel) rfl (lv_at hl 0 rfl) ?_
  refine W.objInit hx hb hown (hts (.methodLink RX8 3 objectInit) (ab_in 153 (by decide +kernel) rfl)) (hts (.instanceMethod objectInit) (ab_in 27 (by decide +kernel) rfl)) (hts _ (ab_in 28 (by decide +kernel) rfl)) rfl (by rw [hml]; exact hl.1) rfl (show decode cX8_init 1 = .ok (.invokespecial 3, 3) by decide +kernel) (Nat.le_of_ble_eq_true rfl) (Nat.le_of_ble_eq_true rfl) ?_
  refine W.eq (g2 := F0 m 4 ls []) rfl ?_
  refine lv_aload_n (k := 0) hx hb (show decode cX8_init 4 = .ok (.aload_n 0, 1) by decide +kernel) rfl (lv_at hl 0 rfl) ?_
  refine lv_sipush (v := 160) hx hb (show decode cX8_init 5 = .ok (.sipush 160, 3) by decide +kernel) (by decide) ?_
  refine zb_newa (atype := .int) (ty := .int) (N' := 160) (a0 := (160, .inl (fun _ => 0))) hx hb (hts _ (ab_in 79 (by decide +kernel) rfl)) rfl 0 rfl hK hP hD hS hA (fun _ => rfl) (by decide) (by decide) (by decide) (Nat.le_of_ble_eq_true rfl) (Nat.le_of_ble_eq_true rfl) (show decode cX8_init 8 = .ok (.newarray .int, 2) by decide +kernel) (fun q8 H hP hD hS => ?_)
  have hP : va_P D vwCl [(h0, .inr (8, [.null, .null, .int 0, .int 0, .int 0, .int 0, .int 0, .int 0])), (q8, .inl (cy .int, 160, .inl (fun _ => 0)))] H := hP
  have hD : va_D A [(h0, .inr (8, [.null, .null, .int 0, .int 0, .int 0, .int 0, .int 0, .int 0])), (q8, .inl (cy .int, 160, .inl (fun _ => 0)))] := hD
  refine va_putF (D := D) (ci := 8) (v := .ref q8) (ty := (.array .int)) (C := RX8) (T := TX8) (N := 8) hx hb hts (zl_of zl_X8) tyX8 tyX8_ok nmX8 hown hK hP hD hS 0 rfl rfl 1 (by decide) (hts _ (ab_in 155 (by decide +kernel) rfl)) (fun _ h9 => h9) rfl hin rfl (by decide +kernel) rfl rfl (Nat.le_of_ble_eq_true rfl) (show decode cX8_init 10 = .ok (.putfield 9, 3) by decide +kernel) (fun H locs hP hD hS => ?_)
  have hP : va_P D vwCl [(h0, .inr (8, [.null, .ref q8, .int 0, .int 0, .int 0, .int 0, .int 0, .int 0])), (q8, .inl (cy .int, 160, .inl (fun _ => 0)))] H := hP
  have hD : va_D A [(h0, .inr (8, [.null, .ref q8, .int 0, .int 0, .int 0, .int 0, .int 0, .int 0])), (q8, .inl (cy .int, 160, .inl (fun _ => 0)))] := hD
  refine lv_aload_n (k := 0) hx hb (show decode cX8_init 13 = .ok (.aload_n 0, 1) by decide +kernel) rfl (lv_at hl 0 rfl) ?_
  refine lv_iconst (v := 0) hx hb (show decode cX8_init 14 = .ok (.iconst 0, 1) by decide +kernel) (by decide) ?_
  refine va_put (D := D) (ci := 8) (v := .int 0) (ty := .int) (C := RX8) (T := TX8) (N := 8) hx hb hts (zl_of zl_X8) tyX8 tyX8_ok nmX8 hown hK hP hD hS 0 rfl rfl 2 (by decide) (hts _ (ab_in 156 (by decide +kernel) rfl)) (fun _ h9 => h9) rfl (by decide +kernel) rfl rfl (Nat.le_of_ble_eq_true rfl) (show decode cX8_init 15 = .ok (.putfield 15, 3) by decide +kernel) (fun H locs hP hD hS => ?_)
  have hP : va_P D vwCl [(h0, .inr (8, [.null, .ref q8, .int 0, .int 0, .int 0, .int 0, .int 0, .int 0])), (q8, .inl (cy .int, 160, .inl (fun _ => 0)))] H := hP
  have hD : va_D A [(h0, .inr (8, [.null, .ref q8, .int 0, .int 0, .int 0, .int 0, .int 0, .int 0])), (q8, .inl (cy .int, 160, .inl (fun _ => 0)))] := hD
  refine lv_aload_n (k := 0) hx hb (show decode cX8_init 18 = .ok (.aload_n 0, 1) by decide +kernel) rfl (lv_at hl 0 rfl) ?_
  refine lv_aload_n (k := 1) hx hb (show decode cX8_init 19 = .ok (.aload_n 1, 1) by decide +kernel) rfl (lv_at hl 1 rfl) ?_
  refine va_putF (D := D) (ci := 8) (v := .ref a1) (ty := (.object "WalkTheDike$Texts")) (C := RX8) (T := TX8) (N := 8) hx hb hts (zl_of zl_X8) tyX8 tyX8_ok nmX8 hown hK hP hD hS 0 rfl rfl 0 (by decide) (hts _ (ab_in 154 (by decide +kernel) rfl)) (fun _ h9 => h9) rfl hin rfl (by decide +kernel) rfl rfl (Nat.le_of_ble_eq_true rfl) (show decode cX8_init 20 = .ok (.putfield 19, 3) by decide +kernel) (fun H locs hP hD hS => ?_)
  have hP : va_P D vwCl [(h0, .inr (8, [.ref a1, .ref q8, .int 0, .int 0, .int 0, .int 0, .int 0, .int 0])), (q8, .inl (cy .int, 160, .inl (fun _ => 0)))] H := hP
  have hD : va_D A [(h0, .inr (8, [.ref a1, .ref q8, .int 0, .int 0, .int 0, .int 0, .int 0, .int 0])), (q8, .inl (cy .int, 160, .inl (fun _ => 0)))] := hD
  refine W.widen (k := 1) (n := 160) (Nat.le_of_ble_eq_true rfl) (Nat.le_of_ble_eq_true rfl) ?_
  exact W.vret hx hb hr (fun t ht hW => ⟨⟨fun j => ([q8] : List Nat).getD j 0, rfl, trivial, by rw [ht]; exact hP, va_K.moved hW.alike hK, hD⟩, hS.F ht⟩) hS.2.2 (by decide +kernel) hlocks
set_option maxHeartbeats 4000000 in
set_option maxRecDepth 100000 in
theorem zK_X9 (l : Launch) (D : va_G) (cy : FieldType → ClassId) (h0 sz : Nat) : Met l yX9_init (Cond.code yX9_init cX9_init 1 none :: ab_B) { frames := 1, cells := 3, slots := 1138, locals := 12 } (va_Pc [.ref h0] (zKp D cy [(h0, .inr (9, [.null, .null, .int 0, .int 0, .null]))] sz)) (va_Qv (fun _ : Nat → Nat => True) (zKq D cy (va_A [(h0, .inr (9, [.null, .null, .int 0, .int 0, .null]))] sz) (fun u => [(h0, .inr (9, [.ref (u 0), .ref (u 1), .int 0, .int 0, .ref (u 2)])), ((u 0), .inl (cy .int, 960, .inl (fun _ => 0))), ((u 1), .inl (cy .int, 18, .inl (fun _ => 0))), ((u 2), .inl (cy .int, 160, .inl (fun _ => 0)))])) (va_A [(h0, .inr (9, [.null, .null, .int 0, .int 0, .null]))] sz)) 3 1138 (va_A [(h0, .inr (9, [.null, .null, .int 0, .int 0, .null]))] sz) := by
  refine Met.ofW (cc := cX9_init) (maxL := 1) (ret := none) (by decide) rfl ?_
  intro p e s m args below meth c s₁ B hml hv
  obtain ⟨rfl, hsz, hP, hK, hD0, hNw⟩ := hv
  have hx := B.exec
  have hb := B.bytes
  have hr := B.returns
  have hts0 := atoms_spec (ws := Cond.code yX9_init cX9_init 1 none :: ab_B) B.pre
  have hts : ∀ w ∈ ab_B, w.before _ s = true := fun w hw => hts0 w (List.mem_cons_of_mem _ hw)
  have hown : s.vm.findClass RX9 = some m.cls := findClass_of_methodNamed B.named
  have hlocks := B.notSynchronized
  have hin : meth.name = "<init>" := (name_of_methodNamed B.named B.method).1
  subst hsz
  have hD := hD0.self (sz := s.heap.size)
  generalize hAe : va_A [(h0, .inr (9, [.null, .null, .int 0, .int 0, .null]))] s.heap.size = A at hD ⊢
  have hA : ∀ q : Nat, s.heap.size ≤ q → A q := fun q h => by rw [← hAe]; exact Or.inr h
  have hS : va_S A s.heap s.heap [] := va_S.rf
  have hP : va_P D vwCl [(h0, .inr (9, [.null, .null, .int 0, .int 0, .null]))] s.heap := hP
  have hl := lv_entry ([.ref h0]) (n := 1) (Nat.le_of_ble_eq_true rfl)
  rw [lg_entry_eq]
  generalize (lg_sl ([.ref h0]) ++ List.replicate (1 - (lg_sl ([.ref h0])).length) Slot.unset).toArray = ls at hl ⊢
  have hl : lv_has ls 1 [(0, .ref h0)] := hl
  refine lv_aload_n (k := 0) hx hb (show decode cX9_init 0 = .ok (.aload_n 0, 1) by decide +kernel) rfl (lv_at hl 0 rfl) ?_
  refine W.objInit hx hb hown (hts (.methodLink RX9 3 objectInit) (ab_in 126 (by decide +kernel) rfl)) (hts (.instanceMethod objectInit) (ab_in 27 (by decide +kernel) rfl)) (hts _ (ab_in 28 (by decide +kernel) rfl)) rfl (by rw [hml]; exact hl.1) rfl (show decode cX9_init 1 = .ok (.invokespecial 3, 3) by decide +kernel) (Nat.le_of_ble_eq_true rfl) (Nat.le_of_ble_eq_true rfl) ?_
  refine W.eq (g2 := F0 m 4 ls []) rfl ?_
  refine lv_aload_n (k := 0) hx hb (show decode cX9_init 4 = .ok (.aload_n 0, 1) by decide +kernel) rfl (lv_at hl 0 rfl) ?_
  refine lv_sipush (v := 960) hx hb (show decode cX9_init 5 = .ok (.sipush 960, 3) by decide +kernel) (by decide) ?_
  refine zb_newa (atype := .int) (ty := .int) (N' := 960) (a0 := (960, .inl (fun _ => 0))) hx hb (hts _ (ab_in 79 (by decide +kernel) rfl)) rfl 0 rfl hK hP hD hS hA (fun _ => rfl) (by decide) (by decide) (by decide) (Nat.le_of_ble_eq_true rfl) (Nat.le_of_ble_eq_true rfl) (show decode cX9_init 8 = .ok (.newarray .int, 2) by decide +kernel) (fun q8 H hP hD hS => ?_)
  have hP : va_P D vwCl [(h0, .inr (9, [.null, .null, .int 0, .int 0, .null])), (q8, .inl (cy .int, 960, .inl (fun _ => 0)))] H := hP
  have hD : va_D A [(h0, .inr (9, [.null, .null, .int 0, .int 0, .null])), (q8, .inl (cy .int, 960, .inl (fun _ => 0)))] := hD
  refine va_putF (D := D) (ci := 9) (v := .ref q8) (ty := (.array .int)) (C := RX9) (T := TX9) (N := 5) hx hb hts (zl_of zl_X9) tyX9 tyX9_ok nmX9 hown hK hP hD hS 0 rfl rfl 0 (by decide) (hts _ (ab_in 127 (by decide +kernel) rfl)) (fun _ h9 => h9) rfl hin rfl (by decide +kernel) rfl rfl (Nat.le_of_ble_eq_true rfl) (show decode cX9_init 10 = .ok (.putfield 9, 3) by decide +kernel) (fun H locs hP hD hS => ?_)
  have hP : va_P D vwCl [(h0, .inr (9, [.ref q8, .null, .int 0, .int 0, .null])), (q8, .inl (cy .int, 960, .inl (fun _ => 0)))] H := hP
  have hD : va_D A [(h0, .inr (9, [.ref q8, .null, .int 0, .int 0, .null])), (q8, .inl (cy .int, 960, .inl (fun _ => 0)))] := hD
  refine lv_aload_n (k := 0) hx hb (show decode cX9_init 13 = .ok (.aload_n 0, 1) by decide +kernel) rfl (lv_at hl 0 rfl) ?_
  refine lv_bipush (v := 18) hx hb (show decode cX9_init 14 = .ok (.bipush 18, 2) by decide +kernel) (by decide) ?_
  refine zb_newa (atype := .int) (ty := .int) (N' := 18) (a0 := (18, .inl (fun _ => 0))) hx hb (hts _ (ab_in 79 (by decide +kernel) rfl)) rfl 0 rfl hK hP hD hS hA (fun _ => rfl) (by decide) (by decide) (by decide) (Nat.le_of_ble_eq_true rfl) (Nat.le_of_ble_eq_true rfl) (show decode cX9_init 16 = .ok (.newarray .int, 2) by decide +kernel) (fun q16 H hP hD hS => ?_)
  have hP : va_P D vwCl [(h0, .inr (9, [.ref q8, .null, .int 0, .int 0, .null])), (q8, .inl (cy .int, 960, .inl (fun _ => 0))), (q16, .inl (cy .int, 18, .inl (fun _ => 0)))] H := hP
  have hD : va_D A [(h0, .inr (9, [.ref q8, .null, .int 0, .int 0, .null])), (q8, .inl (cy .int, 960, .inl (fun _ => 0))), (q16, .inl (cy .int, 18, .inl (fun _ => 0)))] := hD
  refine va_putF (D := D) (ci := 9) (v := .ref q16) (ty := (.array .int)) (C := RX9) (T := TX9) (N := 5) hx hb hts (zl_of zl_X9) tyX9 tyX9_ok nmX9 hown hK hP hD hS 0 rfl rfl 1 (by decide) (hts _ (ab_in 129 (by decide +kernel) rfl)) (fun _ h9 => h9) rfl hin rfl (by decide +kernel) rfl rfl (Nat.le_of_ble_eq_true rfl) (show decode cX9_init 18 = .ok (.putfield 15, 3) by decide +kernel) (fun H locs hP hD hS => ?_)
  have hP : va_P D vwCl [(h0, .inr (9, [.ref q8, .ref q16, .int 0, .int 0, .null])), (q8, .inl (cy .int, 960, .inl (fun _ => 0))), (q16, .inl (cy .int, 18, .inl (fun _ => 0)))] H := hP
  have hD : va_D A [(h0, .inr (9, [.ref q8, .ref q16, .int 0, .int 0, .null])), (q8, .inl (cy .int, 960, .inl (fun _ => 0))), (q16, .inl (cy .int, 18, .inl (fun _ => 0)))] := hD
  refine lv_aload_n (k := 0) hx hb (show decode cX9_init 21 = .ok (.aload_n 0, 1) by decide +kernel) rfl (lv_at hl 0 rfl) ?_
  refine lv_iconst (v := 0) hx hb (show decode cX9_init 22 = .ok (.iconst 0, 1) by decide +kernel) (by decide) ?_
  refine va_put (D := D) (ci := 9) (v := .int 0) (ty := .int) (C := RX9) (T := TX9) (N := 5) hx hb hts (zl_of zl_X9) tyX9 tyX9_ok nmX9 hown hK hP hD hS 0 rfl rfl 2 (by decide) (hts _ (ab_in 131 (by decide +kernel) rfl)) (fun _ h9 => h9) rfl (by decide +kernel) rfl rfl (Nat.le_of_ble_eq_true rfl) (show decode cX9_init 23 = .ok (.putfield 18, 3) by decide +kernel) (fun H locs hP hD hS => ?_)
  have hP : va_P D vwCl [(h0, .inr (9, [.ref q8, .ref q16, .int 0, .int 0, .null])), (q8, .inl (cy .int, 960, .inl (fun _ => 0))), (q16, .inl (cy .int, 18, .inl (fun _ => 0)))] H := hP
  have hD : va_D A [(h0, .inr (9, [.ref q8, .ref q16, .int 0, .int 0, .null])), (q8, .inl (cy .int, 960, .inl (fun _ => 0))), (q16, .inl (cy .int, 18, .inl (fun _ => 0)))] := hD
  refine lv_aload_n (k := 0) hx hb (show decode cX9_init 26 = .ok (.aload_n 0, 1) by decide +kernel) rfl (lv_at hl 0 rfl) ?_
  refine lv_iconst (v := 0) hx hb (show decode cX9_init 27 = .ok (.iconst 0, 1) by decide +kernel) (by decide) ?_
  refine va_put (D := D) (ci := 9) (v := .int 0) (ty := .int) (C := RX9) (T := TX9) (N := 5) hx hb hts (zl_of zl_X9) tyX9 tyX9_ok nmX9 hown hK hP hD hS 0 rfl rfl 3 (by decide) (hts _ (ab_in 134 (by decide +kernel) rfl)) (fun _ h9 => h9) rfl (by decide +kernel) rfl rfl (Nat.le_of_ble_eq_true rfl) (show decode cX9_init 28 = .ok (.putfield 22, 3) by decide +kernel) (fun H locs hP hD hS => ?_)
  have hP : va_P D vwCl [(h0, .inr (9, [.ref q8, .ref q16, .int 0, .int 0, .null])), (q8, .inl (cy .int, 960, .inl (fun _ => 0))), (q16, .inl (cy .int, 18, .inl (fun _ => 0)))] H := hP
  have hD : va_D A [(h0, .inr (9, [.ref q8, .ref q16, .int 0, .int 0, .null])), (q8, .inl (cy .int, 960, .inl (fun _ => 0))), (q16, .inl (cy .int, 18, .inl (fun _ => 0)))] := hD
  refine lv_aload_n (k := 0) hx hb (show decode cX9_init 31 = .ok (.aload_n 0, 1) by decide +kernel) rfl (lv_at hl 0 rfl) ?_
  refine lv_sipush (v := 160) hx hb (show decode cX9_init 32 = .ok (.sipush 160, 3) by decide +kernel) (by decide) ?_
  refine zb_newa (atype := .int) (ty := .int) (N' := 160) (a0 := (160, .inl (fun _ => 0))) hx hb (hts _ (ab_in 79 (by decide +kernel) rfl)) rfl 0 rfl hK hP hD hS hA (fun _ => rfl) (by decide) (by decide) (by decide) (Nat.le_of_ble_eq_true rfl) (Nat.le_of_ble_eq_true rfl) (show decode cX9_init 35 = .ok (.newarray .int, 2) by decide +kernel) (fun q35 H hP hD hS => ?_)
  have hP : va_P D vwCl [(h0, .inr (9, [.ref q8, .ref q16, .int 0, .int 0, .null])), (q8, .inl (cy .int, 960, .inl (fun _ => 0))), (q16, .inl (cy .int, 18, .inl (fun _ => 0))), (q35, .inl (cy .int, 160, .inl (fun _ => 0)))] H := hP
  have hD : va_D A [(h0, .inr (9, [.ref q8, .ref q16, .int 0, .int 0, .null])), (q8, .inl (cy .int, 960, .inl (fun _ => 0))), (q16, .inl (cy .int, 18, .inl (fun _ => 0))), (q35, .inl (cy .int, 160, .inl (fun _ => 0)))] := hD
  refine va_putF (D := D) (ci := 9) (v := .ref q35) (ty := (.array .int)) (C := RX9) (T := TX9) (N := 5) hx hb hts (zl_of zl_X9) tyX9 tyX9_ok nmX9 hown hK hP hD hS 0 rfl rfl 4 (by decide) (hts _ (ab_in 136 (by decide +kernel) rfl)) (fun _ h9 => h9) rfl hin rfl (by decide +kernel) rfl rfl (Nat.le_of_ble_eq_true rfl) (show decode cX9_init 37 = .ok (.putfield 25, 3) by decide +kernel) (fun H locs hP hD hS => ?_)
  have hP : va_P D vwCl [(h0, .inr (9, [.ref q8, .ref q16, .int 0, .int 0, .ref q35])), (q8, .inl (cy .int, 960, .inl (fun _ => 0))), (q16, .inl (cy .int, 18, .inl (fun _ => 0))), (q35, .inl (cy .int, 160, .inl (fun _ => 0)))] H := hP
  have hD : va_D A [(h0, .inr (9, [.ref q8, .ref q16, .int 0, .int 0, .ref q35])), (q8, .inl (cy .int, 960, .inl (fun _ => 0))), (q16, .inl (cy .int, 18, .inl (fun _ => 0))), (q35, .inl (cy .int, 160, .inl (fun _ => 0)))] := hD
  refine W.widen (k := 3) (n := 1138) (Nat.le_of_ble_eq_true rfl) (Nat.le_of_ble_eq_true rfl) ?_
  exact W.vret hx hb hr (fun t ht hW => ⟨⟨fun j => ([q8, q16, q35] : List Nat).getD j 0, rfl, trivial, by rw [ht]; exact hP, va_K.moved hW.alike hK, hD⟩, hS.F ht⟩) hS.2.2 (by decide +kernel) hlocks
set_option maxHeartbeats 4000000 in
set_option maxRecDepth 100000 in
theorem zK_X10 (l : Launch) (D : va_G) (cy : FieldType → ClassId) (h0 a1 a2 a3 sz : Nat) : Met l yX10_init (Cond.code yX10_init cX10_init 4 none :: ab_B) { frames := 1, cells := 4, slots := 257, locals := 12 } (va_Pc [.ref h0, .ref a1, .ref a2, .ref a3] (zKp D cy [(h0, .inr (10, [.null, .null, .null, .null, .null, .null, .null, .int 0, .int 0, .int 0, .int 0, .int 0, .int 0]))] sz)) (va_Qv (fun _ : Nat → Nat => True) (zKq D cy (va_A [(h0, .inr (10, [.null, .null, .null, .null, .null, .null, .null, .int 0, .int 0, .int 0, .int 0, .int 0, .int 0]))] sz) (fun u => [(h0, .inr (10, [.ref a1, .ref a2, .ref a3, .ref (u 0), .ref (u 1), .ref (u 2), .ref (u 3), .int (-1), .int (-1), .int (-1), .int (-1), .int (-1), .int (-1)])), ((u 0), .inl (cy .int, 60, .inl (fun _ => 0))), ((u 1), .inl (cy .int, 96, .inl (fun _ => 0))), ((u 2), .inl (cy .int, 96, .inl (fun _ => 0))), ((u 3), .inl (cy .boolean, 5, .inl (fun _ => 0)))])) (va_A [(h0, .inr (10, [.null, .null, .null, .null, .null, .null, .null, .int 0, .int 0, .int 0, .int 0, .int 0, .int 0]))] sz)) 4 257 (va_A [(h0, .inr (10, [.null, .null, .null, .null, .null, .null, .null, .int 0, .int 0, .int 0, .int 0, .int 0, .int 0]))] sz) := by
  refine Met.ofW (cc := cX10_init) (maxL := 4) (ret := none) (by decide) rfl ?_
  intro p e s m args below meth c s₁ B hml hv
  obtain ⟨rfl, hsz, hP, hK, hD0, hNw⟩ := hv
  have hx := B.exec
  have hb := B.bytes
  have hr := B.returns
  have hts0 := atoms_spec (ws := Cond.code yX10_init cX10_init 4 none :: ab_B) B.pre
  have hts : ∀ w ∈ ab_B, w.before _ s = true := fun w hw => hts0 w (List.mem_cons_of_mem _ hw)
  have hown : s.vm.findClass RX10 = some m.cls := findClass_of_methodNamed B.named
  have hlocks := B.notSynchronized
  have hin : meth.name = "<init>" := (name_of_methodNamed B.named B.method).1
  subst hsz
  have hD := hD0.self (sz := s.heap.size)
  generalize hAe : va_A [(h0, .inr (10, [.null, .null, .null, .null, .null, .null, .null, .int 0, .int 0, .int 0, .int 0, .int 0, .int 0]))] s.heap.size = A at hD ⊢
  have hA : ∀ q : Nat, s.heap.size ≤ q → A q := fun q h => by rw [← hAe]; exact Or.inr h
  have hS : va_S A s.heap s.heap [] := va_S.rf
  have hP : va_P D vwCl [(h0, .inr (10, [.null, .null, .null, .null, .null, .null, .null, .int 0, .int 0, .int 0, .int 0, .int 0, .int 0]))] s.heap := hP
  have hl := lv_entry ([.ref h0, .ref a1, .ref a2, .ref a3]) (n := 4) (Nat.le_of_ble_eq_true rfl)
  rw [lg_entry_eq]
  generalize (lg_sl ([.ref h0, .ref a1, .ref a2, .ref a3]) ++ List.replicate (4 - (lg_sl ([.ref h0, .ref a1, .ref a2, .ref a3])).length) Slot.unset).toArray = ls at hl ⊢
  have hl : lv_has ls 4 [(0, .ref h0), (1, .ref a1), (2, .ref a2), (3, .ref a3)] := hl
  refine lv_aload_n (k := 0) hx hb (show decode cX10_init 0 = .ok (.aload_n 0, 1) by decide +kernel) rfl (lv_at hl 0 rfl) ?_
  refine W.objInit hx hb hown (hts (.methodLink RX10 3 objectInit) (ab_in 207 (by decide +kernel) rfl)) (hts (.instanceMethod objectInit) (ab_in 27 (by decide +kernel) rfl)) (hts _ (ab_in 28 (by decide +kernel) rfl)) rfl (by rw [hml]; exact hl.1) rfl (show decode cX10_init 1 = .ok (.invokespecial 3, 3) by decide +kernel) (Nat.le_of_ble_eq_true rfl) (Nat.le_of_ble_eq_true rfl) ?_
  refine W.eq (g2 := F0 m 4 ls []) rfl ?_
  refine lv_aload_n (k := 0) hx hb (show decode cX10_init 4 = .ok (.aload_n 0, 1) by decide +kernel) rfl (lv_at hl 0 rfl) ?_
  refine lv_bipush (v := 60) hx hb (show decode cX10_init 5 = .ok (.bipush 60, 2) by decide +kernel) (by decide) ?_
  refine zb_newa (atype := .int) (ty := .int) (N' := 60) (a0 := (60, .inl (fun _ => 0))) hx hb (hts _ (ab_in 79 (by decide +kernel) rfl)) rfl 0 rfl hK hP hD hS hA (fun _ => rfl) (by decide) (by decide) (by decide) (Nat.le_of_ble_eq_true rfl) (Nat.le_of_ble_eq_true rfl) (show decode cX10_init 7 = .ok (.newarray .int, 2) by decide +kernel) (fun q7 H hP hD hS => ?_)
  have hP : va_P D vwCl [(h0, .inr (10, [.null, .null, .null, .null, .null, .null, .null, .int 0, .int 0, .int 0, .int 0, .int 0, .int 0])), (q7, .inl (cy .int, 60, .inl (fun _ => 0)))] H := hP
  have hD : va_D A [(h0, .inr (10, [.null, .null, .null, .null, .null, .null, .null, .int 0, .int 0, .int 0, .int 0, .int 0, .int 0])), (q7, .inl (cy .int, 60, .inl (fun _ => 0)))] := hD
  refine va_putF (D := D) (ci := 10) (v := .ref q7) (ty := (.array .int)) (C := RX10) (T := TX10) (N := 13) hx hb hts (zl_of zl_X10) tyX10 tyX10_ok nmX10 hown hK hP hD hS 0 rfl rfl 3 (by decide) (hts _ (ab_in 211 (by decide +kernel) rfl)) (fun _ h9 => h9) rfl hin rfl (by decide +kernel) rfl rfl (Nat.le_of_ble_eq_true rfl) (show decode cX10_init 9 = .ok (.putfield 9, 3) by decide +kernel) (fun H locs hP hD hS => ?_)
  have hP : va_P D vwCl [(h0, .inr (10, [.null, .null, .null, .ref q7, .null, .null, .null, .int 0, .int 0, .int 0, .int 0, .int 0, .int 0])), (q7, .inl (cy .int, 60, .inl (fun _ => 0)))] H := hP
  have hD : va_D A [(h0, .inr (10, [.null, .null, .null, .ref q7, .null, .null, .null, .int 0, .int 0, .int 0, .int 0, .int 0, .int 0])), (q7, .inl (cy .int, 60, .inl (fun _ => 0)))] := hD
  refine lv_aload_n (k := 0) hx hb (show decode cX10_init 12 = .ok (.aload_n 0, 1) by decide +kernel) rfl (lv_at hl 0 rfl) ?_
  refine lv_bipush (v := 96) hx hb (show decode cX10_init 13 = .ok (.bipush 96, 2) by decide +kernel) (by decide) ?_
  refine zb_newa (atype := .int) (ty := .int) (N' := 96) (a0 := (96, .inl (fun _ => 0))) hx hb (hts _ (ab_in 79 (by decide +kernel) rfl)) rfl 0 rfl hK hP hD hS hA (fun _ => rfl) (by decide) (by decide) (by decide) (Nat.le_of_ble_eq_true rfl) (Nat.le_of_ble_eq_true rfl) (show decode cX10_init 15 = .ok (.newarray .int, 2) by decide +kernel) (fun q15 H hP hD hS => ?_)
  have hP : va_P D vwCl [(h0, .inr (10, [.null, .null, .null, .ref q7, .null, .null, .null, .int 0, .int 0, .int 0, .int 0, .int 0, .int 0])), (q7, .inl (cy .int, 60, .inl (fun _ => 0))), (q15, .inl (cy .int, 96, .inl (fun _ => 0)))] H := hP
  have hD : va_D A [(h0, .inr (10, [.null, .null, .null, .ref q7, .null, .null, .null, .int 0, .int 0, .int 0, .int 0, .int 0, .int 0])), (q7, .inl (cy .int, 60, .inl (fun _ => 0))), (q15, .inl (cy .int, 96, .inl (fun _ => 0)))] := hD
  refine va_putF (D := D) (ci := 10) (v := .ref q15) (ty := (.array .int)) (C := RX10) (T := TX10) (N := 13) hx hb hts (zl_of zl_X10) tyX10 tyX10_ok nmX10 hown hK hP hD hS 0 rfl rfl 4 (by decide) (hts _ (ab_in 212 (by decide +kernel) rfl)) (fun _ h9 => h9) rfl hin rfl (by decide +kernel) rfl rfl (Nat.le_of_ble_eq_true rfl) (show decode cX10_init 17 = .ok (.putfield 15, 3) by decide +kernel) (fun H locs hP hD hS => ?_)
  have hP : va_P D vwCl [(h0, .inr (10, [.null, .null, .null, .ref q7, .ref q15, .null, .null, .int 0, .int 0, .int 0, .int 0, .int 0, .int 0])), (q7, .inl (cy .int, 60, .inl (fun _ => 0))), (q15, .inl (cy .int, 96, .inl (fun _ => 0)))] H := hP
  have hD : va_D A [(h0, .inr (10, [.null, .null, .null, .ref q7, .ref q15, .null, .null, .int 0, .int 0, .int 0, .int 0, .int 0, .int 0])), (q7, .inl (cy .int, 60, .inl (fun _ => 0))), (q15, .inl (cy .int, 96, .inl (fun _ => 0)))] := hD
  refine lv_aload_n (k := 0) hx hb (show decode cX10_init 20 = .ok (.aload_n 0, 1) by decide +kernel) rfl (lv_at hl 0 rfl) ?_
  refine lv_bipush (v := 96) hx hb (show decode cX10_init 21 = .ok (.bipush 96, 2) by decide +kernel) (by decide) ?_
  refine zb_newa (atype := .int) (ty := .int) (N' := 96) (a0 := (96, .inl (fun _ => 0))) hx hb (hts _ (ab_in 79 (by decide +kernel) rfl)) rfl 0 rfl hK hP hD hS hA (fun _ => rfl) (by decide) (by decide) (by decide) (Nat.le_of_ble_eq_true rfl) (Nat.le_of_ble_eq_true rfl) (show decode cX10_init 23 = .ok (.newarray .int, 2) by decide +kernel) (fun q23 H hP hD hS => ?_)
  have hP : va_P D vwCl [(h0, .inr (10, [.null, .null, .null, .ref q7, .ref q15, .null, .null, .int 0, .int 0, .int 0, .int 0, .int 0, .int 0])), (q7, .inl (cy .int, 60, .inl (fun _ => 0))), (q15, .inl (cy .int, 96, .inl (fun _ => 0))), (q23, .inl (cy .int, 96, .inl (fun _ => 0)))] H := hP
  have hD : va_D A [(h0, .inr (10, [.null, .null, .null, .ref q7, .ref q15, .null, .null, .int 0, .int 0, .int 0, .int 0, .int 0, .int 0])), (q7, .inl (cy .int, 60, .inl (fun _ => 0))), (q15, .inl (cy .int, 96, .inl (fun _ => 0))), (q23, .inl (cy .int, 96, .inl (fun _ => 0)))] := hD
  refine va_putF (D := D) (ci := 10) (v := .ref q23) (ty := (.array .int)) (C := RX10) (T := TX10) (N := 13) hx hb hts (zl_of zl_X10) tyX10 tyX10_ok nmX10 hown hK hP hD hS 0 rfl rfl 5 (by decide) (hts _ (ab_in 213 (by decide +kernel) rfl)) (fun _ h9 => h9) rfl hin rfl (by decide +kernel) rfl rfl (Nat.le_of_ble_eq_true rfl) (show decode cX10_init 25 = .ok (.putfield 18, 3) by decide +kernel) (fun H locs hP hD hS => ?_)
  have hP : va_P D vwCl [(h0, .inr (10, [.null, .null, .null, .ref q7, .ref q15, .ref q23, .null, .int 0, .int 0, .int 0, .int 0, .int 0, .int 0])), (q7, .inl (cy .int, 60, .inl (fun _ => 0))), (q15, .inl (cy .int, 96, .inl (fun _ => 0))), (q23, .inl (cy .int, 96, .inl (fun _ => 0)))] H := hP
  have hD : va_D A [(h0, .inr (10, [.null, .null, .null, .ref q7, .ref q15, .ref q23, .null, .int 0, .int 0, .int 0, .int 0, .int 0, .int 0])), (q7, .inl (cy .int, 60, .inl (fun _ => 0))), (q15, .inl (cy .int, 96, .inl (fun _ => 0))), (q23, .inl (cy .int, 96, .inl (fun _ => 0)))] := hD
  refine lv_aload_n (k := 0) hx hb (show decode cX10_init 28 = .ok (.aload_n 0, 1) by decide +kernel) rfl (lv_at hl 0 rfl) ?_
  refine lv_iconst (v := 5) hx hb (show decode cX10_init 29 = .ok (.iconst 5, 1) by decide +kernel) (by decide) ?_
  refine zb_newa (atype := .boolean) (ty := .boolean) (N' := 5) (a0 := (5, .inl (fun _ => 0))) hx hb (hts _ (ab_in 254 (by decide +kernel) rfl)) rfl 2 rfl hK hP hD hS hA (fun _ => rfl) (by decide) (by decide) (by decide) (Nat.le_of_ble_eq_true rfl) (Nat.le_of_ble_eq_true rfl) (show decode cX10_init 30 = .ok (.newarray .boolean, 2) by decide +kernel) (fun q30 H hP hD hS => ?_)
  have hP : va_P D vwCl [(h0, .inr (10, [.null, .null, .null, .ref q7, .ref q15, .ref q23, .null, .int 0, .int 0, .int 0, .int 0, .int 0, .int 0])), (q7, .inl (cy .int, 60, .inl (fun _ => 0))), (q15, .inl (cy .int, 96, .inl (fun _ => 0))), (q23, .inl (cy .int, 96, .inl (fun _ => 0))), (q30, .inl (cy .boolean, 5, .inl (fun _ => 0)))] H := hP
  have hD : va_D A [(h0, .inr (10, [.null, .null, .null, .ref q7, .ref q15, .ref q23, .null, .int 0, .int 0, .int 0, .int 0, .int 0, .int 0])), (q7, .inl (cy .int, 60, .inl (fun _ => 0))), (q15, .inl (cy .int, 96, .inl (fun _ => 0))), (q23, .inl (cy .int, 96, .inl (fun _ => 0))), (q30, .inl (cy .boolean, 5, .inl (fun _ => 0)))] := hD
  refine va_putF (D := D) (ci := 10) (v := .ref q30) (ty := (.array .boolean)) (C := RX10) (T := TX10) (N := 13) hx hb hts (zl_of zl_X10) tyX10 tyX10_ok nmX10 hown hK hP hD hS 0 rfl rfl 6 (by decide) (hts _ (ab_in 214 (by decide +kernel) rfl)) (fun _ h9 => h9) rfl hin rfl (by decide +kernel) rfl rfl (Nat.le_of_ble_eq_true rfl) (show decode cX10_init 32 = .ok (.putfield 21, 3) by decide +kernel) (fun H locs hP hD hS => ?_)
  have hP : va_P D vwCl [(h0, .inr (10, [.null, .null, .null, .ref q7, .ref q15, .ref q23, .ref q30, .int 0, .int 0, .int 0, .int 0, .int 0, .int 0])), (q7, .inl (cy .int, 60, .inl (fun _ => 0))), (q15, .inl (cy .int, 96, .inl (fun _ => 0))), (q23, .inl (cy .int, 96, .inl (fun _ => 0))), (q30, .inl (cy .boolean, 5, .inl (fun _ => 0)))] H := hP
  have hD : va_D A [(h0, .inr (10, [.null, .null, .null, .ref q7, .ref q15, .ref q23, .ref q30, .int 0, .int 0, .int 0, .int 0, .int 0, .int 0])), (q7, .inl (cy .int, 60, .inl (fun _ => 0))), (q15, .inl (cy .int, 96, .inl (fun _ => 0))), (q23, .inl (cy .int, 96, .inl (fun _ => 0))), (q30, .inl (cy .boolean, 5, .inl (fun _ => 0)))] := hD
  refine lv_aload_n (k := 0) hx hb (show decode cX10_init 35 = .ok (.aload_n 0, 1) by decide +kernel) rfl (lv_at hl 0 rfl) ?_
  refine lv_iconst (v := -1) hx hb (show decode cX10_init 36 = .ok (.iconst (-1), 1) by decide +kernel) (by decide) ?_
  refine va_put (D := D) (ci := 10) (v := .int (-1)) (ty := .int) (C := RX10) (T := TX10) (N := 13) hx hb hts (zl_of zl_X10) tyX10 tyX10_ok nmX10 hown hK hP hD hS 0 rfl rfl 7 (by decide) (hts _ (ab_in 215 (by decide +kernel) rfl)) (fun _ h9 => h9) rfl (by decide +kernel) rfl rfl (Nat.le_of_ble_eq_true rfl) (show decode cX10_init 37 = .ok (.putfield 25, 3) by decide +kernel) (fun H locs hP hD hS => ?_)
  have hP : va_P D vwCl [(h0, .inr (10, [.null, .null, .null, .ref q7, .ref q15, .ref q23, .ref q30, .int (-1), .int 0, .int 0, .int 0, .int 0, .int 0])), (q7, .inl (cy .int, 60, .inl (fun _ => 0))), (q15, .inl (cy .int, 96, .inl (fun _ => 0))), (q23, .inl (cy .int, 96, .inl (fun _ => 0))), (q30, .inl (cy .boolean, 5, .inl (fun _ => 0)))] H := hP
  have hD : va_D A [(h0, .inr (10, [.null, .null, .null, .ref q7, .ref q15, .ref q23, .ref q30, .int (-1), .int 0, .int 0, .int 0, .int 0, .int 0])), (q7, .inl (cy .int, 60, .inl (fun _ => 0))), (q15, .inl (cy .int, 96, .inl (fun _ => 0))), (q23, .inl (cy .int, 96, .inl (fun _ => 0))), (q30, .inl (cy .boolean, 5, .inl (fun _ => 0)))] := hD
  refine lv_aload_n (k := 0) hx hb (show decode cX10_init 40 = .ok (.aload_n 0, 1) by decide +kernel) rfl (lv_at hl 0 rfl) ?_
  refine lv_iconst (v := -1) hx hb (show decode cX10_init 41 = .ok (.iconst (-1), 1) by decide +kernel) (by decide) ?_
  refine va_put (D := D) (ci := 10) (v := .int (-1)) (ty := .int) (C := RX10) (T := TX10) (N := 13) hx hb hts (zl_of zl_X10) tyX10 tyX10_ok nmX10 hown hK hP hD hS 0 rfl rfl 8 (by decide) (hts _ (ab_in 217 (by decide +kernel) rfl)) (fun _ h9 => h9) rfl (by decide +kernel) rfl rfl (Nat.le_of_ble_eq_true rfl) (show decode cX10_init 42 = .ok (.putfield 29, 3) by decide +kernel) (fun H locs hP hD hS => ?_)
  have hP : va_P D vwCl [(h0, .inr (10, [.null, .null, .null, .ref q7, .ref q15, .ref q23, .ref q30, .int (-1), .int (-1), .int 0, .int 0, .int 0, .int 0])), (q7, .inl (cy .int, 60, .inl (fun _ => 0))), (q15, .inl (cy .int, 96, .inl (fun _ => 0))), (q23, .inl (cy .int, 96, .inl (fun _ => 0))), (q30, .inl (cy .boolean, 5, .inl (fun _ => 0)))] H := hP
  have hD : va_D A [(h0, .inr (10, [.null, .null, .null, .ref q7, .ref q15, .ref q23, .ref q30, .int (-1), .int (-1), .int 0, .int 0, .int 0, .int 0])), (q7, .inl (cy .int, 60, .inl (fun _ => 0))), (q15, .inl (cy .int, 96, .inl (fun _ => 0))), (q23, .inl (cy .int, 96, .inl (fun _ => 0))), (q30, .inl (cy .boolean, 5, .inl (fun _ => 0)))] := hD
  refine lv_aload_n (k := 0) hx hb (show decode cX10_init 45 = .ok (.aload_n 0, 1) by decide +kernel) rfl (lv_at hl 0 rfl) ?_
  refine lv_iconst (v := -1) hx hb (show decode cX10_init 46 = .ok (.iconst (-1), 1) by decide +kernel) (by decide) ?_
  refine va_put (D := D) (ci := 10) (v := .int (-1)) (ty := .int) (C := RX10) (T := TX10) (N := 13) hx hb hts (zl_of zl_X10) tyX10 tyX10_ok nmX10 hown hK hP hD hS 0 rfl rfl 9 (by decide) (hts _ (ab_in 219 (by decide +kernel) rfl)) (fun _ h9 => h9) rfl (by decide +kernel) rfl rfl (Nat.le_of_ble_eq_true rfl) (show decode cX10_init 47 = .ok (.putfield 32, 3) by decide +kernel) (fun H locs hP hD hS => ?_)
  have hP : va_P D vwCl [(h0, .inr (10, [.null, .null, .null, .ref q7, .ref q15, .ref q23, .ref q30, .int (-1), .int (-1), .int (-1), .int 0, .int 0, .int 0])), (q7, .inl (cy .int, 60, .inl (fun _ => 0))), (q15, .inl (cy .int, 96, .inl (fun _ => 0))), (q23, .inl (cy .int, 96, .inl (fun _ => 0))), (q30, .inl (cy .boolean, 5, .inl (fun _ => 0)))] H := hP
  have hD : va_D A [(h0, .inr (10, [.null, .null, .null, .ref q7, .ref q15, .ref q23, .ref q30, .int (-1), .int (-1), .int (-1), .int 0, .int 0, .int 0])), (q7, .inl (cy .int, 60, .inl (fun _ => 0))), (q15, .inl (cy .int, 96, .inl (fun _ => 0))), (q23, .inl (cy .int, 96, .inl (fun _ => 0))), (q30, .inl (cy .boolean, 5, .inl (fun _ => 0)))] := hD
  refine lv_aload_n (k := 0) hx hb (show decode cX10_init 50 = .ok (.aload_n 0, 1) by decide +kernel) rfl (lv_at hl 0 rfl) ?_
  refine lv_iconst (v := -1) hx hb (show decode cX10_init 51 = .ok (.iconst (-1), 1) by decide +kernel) (by decide) ?_
  refine va_put (D := D) (ci := 10) (v := .int (-1)) (ty := .int) (C := RX10) (T := TX10) (N := 13) hx hb hts (zl_of zl_X10) tyX10 tyX10_ok nmX10 hown hK hP hD hS 0 rfl rfl 10 (by decide) (hts _ (ab_in 221 (by decide +kernel) rfl)) (fun _ h9 => h9) rfl (by decide +kernel) rfl rfl (Nat.le_of_ble_eq_true rfl) (show decode cX10_init 52 = .ok (.putfield 35, 3) by decide +kernel) (fun H locs hP hD hS => ?_)
  have hP : va_P D vwCl [(h0, .inr (10, [.null, .null, .null, .ref q7, .ref q15, .ref q23, .ref q30, .int (-1), .int (-1), .int (-1), .int (-1), .int 0, .int 0])), (q7, .inl (cy .int, 60, .inl (fun _ => 0))), (q15, .inl (cy .int, 96, .inl (fun _ => 0))), (q23, .inl (cy .int, 96, .inl (fun _ => 0))), (q30, .inl (cy .boolean, 5, .inl (fun _ => 0)))] H := hP
  have hD : va_D A [(h0, .inr (10, [.null, .null, .null, .ref q7, .ref q15, .ref q23, .ref q30, .int (-1), .int (-1), .int (-1), .int (-1), .int 0, .int 0])), (q7, .inl (cy .int, 60, .inl (fun _ => 0))), (q15, .inl (cy .int, 96, .inl (fun _ => 0))), (q23, .inl (cy .int, 96, .inl (fun _ => 0))), (q30, .inl (cy .boolean, 5, .inl (fun _ => 0)))] := hD
  refine lv_aload_n (k := 0) hx hb (show decode cX10_init 55 = .ok (.aload_n 0, 1) by decide +kernel) rfl (lv_at hl 0 rfl) ?_
  refine lv_iconst (v := -1) hx hb (show decode cX10_init 56 = .ok (.iconst (-1), 1) by decide +kernel) (by decide) ?_
  refine va_put (D := D) (ci := 10) (v := .int (-1)) (ty := .int) (C := RX10) (T := TX10) (N := 13) hx hb hts (zl_of zl_X10) tyX10 tyX10_ok nmX10 hown hK hP hD hS 0 rfl rfl 11 (by decide) (hts _ (ab_in 223 (by decide +kernel) rfl)) (fun _ h9 => h9) rfl (by decide +kernel) rfl rfl (Nat.le_of_ble_eq_true rfl) (show decode cX10_init 57 = .ok (.putfield 38, 3) by decide +kernel) (fun H locs hP hD hS => ?_)
  have hP : va_P D vwCl [(h0, .inr (10, [.null, .null, .null, .ref q7, .ref q15, .ref q23, .ref q30, .int (-1), .int (-1), .int (-1), .int (-1), .int (-1), .int 0])), (q7, .inl (cy .int, 60, .inl (fun _ => 0))), (q15, .inl (cy .int, 96, .inl (fun _ => 0))), (q23, .inl (cy .int, 96, .inl (fun _ => 0))), (q30, .inl (cy .boolean, 5, .inl (fun _ => 0)))] H := hP
  have hD : va_D A [(h0, .inr (10, [.null, .null, .null, .ref q7, .ref q15, .ref q23, .ref q30, .int (-1), .int (-1), .int (-1), .int (-1), .int (-1), .int 0])), (q7, .inl (cy .int, 60, .inl (fun _ => 0))), (q15, .inl (cy .int, 96, .inl (fun _ => 0))), (q23, .inl (cy .int, 96, .inl (fun _ => 0))), (q30, .inl (cy .boolean, 5, .inl (fun _ => 0)))] := hD
  refine lv_aload_n (k := 0) hx hb (show decode cX10_init 60 = .ok (.aload_n 0, 1) by decide +kernel) rfl (lv_at hl 0 rfl) ?_
  refine lv_iconst (v := -1) hx hb (show decode cX10_init 61 = .ok (.iconst (-1), 1) by decide +kernel) (by decide) ?_
  refine va_put (D := D) (ci := 10) (v := .int (-1)) (ty := .int) (C := RX10) (T := TX10) (N := 13) hx hb hts (zl_of zl_X10) tyX10 tyX10_ok nmX10 hown hK hP hD hS 0 rfl rfl 12 (by decide) (hts _ (ab_in 225 (by decide +kernel) rfl)) (fun _ h9 => h9) rfl (by decide +kernel) rfl rfl (Nat.le_of_ble_eq_true rfl) (show decode cX10_init 62 = .ok (.putfield 41, 3) by decide +kernel) (fun H locs hP hD hS => ?_)
  have hP : va_P D vwCl [(h0, .inr (10, [.null, .null, .null, .ref q7, .ref q15, .ref q23, .ref q30, .int (-1), .int (-1), .int (-1), .int (-1), .int (-1), .int (-1)])), (q7, .inl (cy .int, 60, .inl (fun _ => 0))), (q15, .inl (cy .int, 96, .inl (fun _ => 0))), (q23, .inl (cy .int, 96, .inl (fun _ => 0))), (q30, .inl (cy .boolean, 5, .inl (fun _ => 0)))] H := hP
  have hD : va_D A [(h0, .inr (10, [.null, .null, .null, .ref q7, .ref q15, .ref q23, .ref q30, .int (-1), .int (-1), .int (-1), .int (-1), .int (-1), .int (-1)])), (q7, .inl (cy .int, 60, .inl (fun _ => 0))), (q15, .inl (cy .int, 96, .inl (fun _ => 0))), (q23, .inl (cy .int, 96, .inl (fun _ => 0))), (q30, .inl (cy .boolean, 5, .inl (fun _ => 0)))] := hD
  refine lv_aload_n (k := 0) hx hb (show decode cX10_init 65 = .ok (.aload_n 0, 1) by decide +kernel) rfl (lv_at hl 0 rfl) ?_
  refine lv_aload_n (k := 1) hx hb (show decode cX10_init 66 = .ok (.aload_n 1, 1) by decide +kernel) rfl (lv_at hl 1 rfl) ?_
  refine va_putF (D := D) (ci := 10) (v := .ref a1) (ty := (.object "WalkTheDike$Dike")) (C := RX10) (T := TX10) (N := 13) hx hb hts (zl_of zl_X10) tyX10 tyX10_ok nmX10 hown hK hP hD hS 0 rfl rfl 0 (by decide) (hts _ (ab_in 208 (by decide +kernel) rfl)) (fun _ h9 => h9) rfl hin rfl (by decide +kernel) rfl rfl (Nat.le_of_ble_eq_true rfl) (show decode cX10_init 67 = .ok (.putfield 44, 3) by decide +kernel) (fun H locs hP hD hS => ?_)
  have hP : va_P D vwCl [(h0, .inr (10, [.ref a1, .null, .null, .ref q7, .ref q15, .ref q23, .ref q30, .int (-1), .int (-1), .int (-1), .int (-1), .int (-1), .int (-1)])), (q7, .inl (cy .int, 60, .inl (fun _ => 0))), (q15, .inl (cy .int, 96, .inl (fun _ => 0))), (q23, .inl (cy .int, 96, .inl (fun _ => 0))), (q30, .inl (cy .boolean, 5, .inl (fun _ => 0)))] H := hP
  have hD : va_D A [(h0, .inr (10, [.ref a1, .null, .null, .ref q7, .ref q15, .ref q23, .ref q30, .int (-1), .int (-1), .int (-1), .int (-1), .int (-1), .int (-1)])), (q7, .inl (cy .int, 60, .inl (fun _ => 0))), (q15, .inl (cy .int, 96, .inl (fun _ => 0))), (q23, .inl (cy .int, 96, .inl (fun _ => 0))), (q30, .inl (cy .boolean, 5, .inl (fun _ => 0)))] := hD
  refine lv_aload_n (k := 0) hx hb (show decode cX10_init 70 = .ok (.aload_n 0, 1) by decide +kernel) rfl (lv_at hl 0 rfl) ?_
  refine lv_aload_n (k := 2) hx hb (show decode cX10_init 71 = .ok (.aload_n 2, 1) by decide +kernel) rfl (lv_at hl 2 rfl) ?_
  refine va_putF (D := D) (ci := 10) (v := .ref a2) (ty := (.object "WalkTheDike$Men")) (C := RX10) (T := TX10) (N := 13) hx hb hts (zl_of zl_X10) tyX10 tyX10_ok nmX10 hown hK hP hD hS 0 rfl rfl 1 (by decide) (hts _ (ab_in 209 (by decide +kernel) rfl)) (fun _ h9 => h9) rfl hin rfl (by decide +kernel) rfl rfl (Nat.le_of_ble_eq_true rfl) (show decode cX10_init 72 = .ok (.putfield 48, 3) by decide +kernel) (fun H locs hP hD hS => ?_)
  have hP : va_P D vwCl [(h0, .inr (10, [.ref a1, .ref a2, .null, .ref q7, .ref q15, .ref q23, .ref q30, .int (-1), .int (-1), .int (-1), .int (-1), .int (-1), .int (-1)])), (q7, .inl (cy .int, 60, .inl (fun _ => 0))), (q15, .inl (cy .int, 96, .inl (fun _ => 0))), (q23, .inl (cy .int, 96, .inl (fun _ => 0))), (q30, .inl (cy .boolean, 5, .inl (fun _ => 0)))] H := hP
  have hD : va_D A [(h0, .inr (10, [.ref a1, .ref a2, .null, .ref q7, .ref q15, .ref q23, .ref q30, .int (-1), .int (-1), .int (-1), .int (-1), .int (-1), .int (-1)])), (q7, .inl (cy .int, 60, .inl (fun _ => 0))), (q15, .inl (cy .int, 96, .inl (fun _ => 0))), (q23, .inl (cy .int, 96, .inl (fun _ => 0))), (q30, .inl (cy .boolean, 5, .inl (fun _ => 0)))] := hD
  refine lv_aload_n (k := 0) hx hb (show decode cX10_init 75 = .ok (.aload_n 0, 1) by decide +kernel) rfl (lv_at hl 0 rfl) ?_
  refine lv_aload_n (k := 3) hx hb (show decode cX10_init 76 = .ok (.aload_n 3, 1) by decide +kernel) rfl (lv_at hl 3 rfl) ?_
  refine va_putF (D := D) (ci := 10) (v := .ref a3) (ty := (.object "WalkTheDike$Chances")) (C := RX10) (T := TX10) (N := 13) hx hb hts (zl_of zl_X10) tyX10 tyX10_ok nmX10 hown hK hP hD hS 0 rfl rfl 2 (by decide) (hts _ (ab_in 210 (by decide +kernel) rfl)) (fun _ h9 => h9) rfl hin rfl (by decide +kernel) rfl rfl (Nat.le_of_ble_eq_true rfl) (show decode cX10_init 77 = .ok (.putfield 52, 3) by decide +kernel) (fun H locs hP hD hS => ?_)
  have hP : va_P D vwCl [(h0, .inr (10, [.ref a1, .ref a2, .ref a3, .ref q7, .ref q15, .ref q23, .ref q30, .int (-1), .int (-1), .int (-1), .int (-1), .int (-1), .int (-1)])), (q7, .inl (cy .int, 60, .inl (fun _ => 0))), (q15, .inl (cy .int, 96, .inl (fun _ => 0))), (q23, .inl (cy .int, 96, .inl (fun _ => 0))), (q30, .inl (cy .boolean, 5, .inl (fun _ => 0)))] H := hP
  have hD : va_D A [(h0, .inr (10, [.ref a1, .ref a2, .ref a3, .ref q7, .ref q15, .ref q23, .ref q30, .int (-1), .int (-1), .int (-1), .int (-1), .int (-1), .int (-1)])), (q7, .inl (cy .int, 60, .inl (fun _ => 0))), (q15, .inl (cy .int, 96, .inl (fun _ => 0))), (q23, .inl (cy .int, 96, .inl (fun _ => 0))), (q30, .inl (cy .boolean, 5, .inl (fun _ => 0)))] := hD
  refine W.widen (k := 4) (n := 257) (Nat.le_of_ble_eq_true rfl) (Nat.le_of_ble_eq_true rfl) ?_
  exact W.vret hx hb hr (fun t ht hW => ⟨⟨fun j => ([q7, q15, q23, q30] : List Nat).getD j 0, rfl, trivial, by rw [ht]; exact hP, va_K.moved hW.alike hK, hD⟩, hS.F ht⟩) hS.2.2 (by decide +kernel) hlocks
set_option maxHeartbeats 4000000 in
set_option maxRecDepth 100000 in
theorem zK_X4 (l : Launch) (D : va_G) (cy : FieldType → ClassId) (h0 sz : Nat) : Met l yX4_init (Cond.code yX4_init cX4_init 1 none :: ab_B) { frames := 2, cells := 8, slots := 62, locals := 32 } (va_Pc [.ref h0] (zKp D cy [(h0, .inr (4, [.null, .null, .int 0, .int 0, .int 0]))] sz)) (va_Qv (fun _ : Nat → Nat => True) (zKq D cy (va_A [(h0, .inr (4, [.null, .null, .int 0, .int 0, .int 0]))] sz) (fun u => [(h0, .inr (4, [.ref (u 0), .ref (u 7), .int 0, .int 0, .int 0])), ((u 0), .inr (2, [.ref (u 1), .ref (u 2), .ref (u 3), .ref (u 4), .int 0, .ref (u 5), .ref (u 6), .int (-1)])), ((u 1), .inl (cy .int, 8, .inl (fun _ => 0))), ((u 2), .inl (cy .int, 8, .inl (fun _ => 0))), ((u 3), .inl (cy .int, 8, .inl (fun _ => 0))), ((u 4), .inl (cy .int, 8, .inl (fun _ => 0))), ((u 5), .inl (cy .int, 5, .inl (upd (upd (upd (upd (upd (fun _ => 0) 0 8) 1 4) 2 0) 3 4) 4 2))), ((u 6), .inl (cy .int, 12, .inl (fun _ => 0))), ((u 7), .inl (cy .int, 5, .inl (fun _ => 0)))])) (va_A [(h0, .inr (4, [.null, .null, .int 0, .int 0, .int 0]))] sz)) 8 62 (va_A [(h0, .inr (4, [.null, .null, .int 0, .int 0, .int 0]))] sz) := by
  refine Met.ofW (cc := cX4_init) (maxL := 1) (ret := none) (by decide) rfl ?_
  intro p e s m args below meth c s₁ B hml hv
  obtain ⟨rfl, hsz, hP, hK, hD0, hNw⟩ := hv
  have hx := B.exec
  have hb := B.bytes
  have hr := B.returns
  have hts0 := atoms_spec (ws := Cond.code yX4_init cX4_init 1 none :: ab_B) B.pre
  have hts : ∀ w ∈ ab_B, w.before _ s = true := fun w hw => hts0 w (List.mem_cons_of_mem _ hw)
  have hown : s.vm.findClass RX4 = some m.cls := findClass_of_methodNamed B.named
  have hlocks := B.notSynchronized
  have hin : meth.name = "<init>" := (name_of_methodNamed B.named B.method).1
  subst hsz
  have hD := hD0.self (sz := s.heap.size)
  generalize hAe : va_A [(h0, .inr (4, [.null, .null, .int 0, .int 0, .int 0]))] s.heap.size = A at hD ⊢
  have hA : ∀ q : Nat, s.heap.size ≤ q → A q := fun q h => by rw [← hAe]; exact Or.inr h
  have hS : va_S A s.heap s.heap [] := va_S.rf
  have hP : va_P D vwCl [(h0, .inr (4, [.null, .null, .int 0, .int 0, .int 0]))] s.heap := hP
  have hl := lv_entry ([.ref h0]) (n := 1) (Nat.le_of_ble_eq_true rfl)
  rw [lg_entry_eq]
  generalize (lg_sl ([.ref h0]) ++ List.replicate (1 - (lg_sl ([.ref h0])).length) Slot.unset).toArray = ls at hl ⊢
  have hl : lv_has ls 1 [(0, .ref h0)] := hl
  refine lv_aload_n (k := 0) hx hb (show decode cX4_init 0 = .ok (.aload_n 0, 1) by decide +kernel) rfl (lv_at hl 0 rfl) ?_
  refine W.objInit hx hb hown (hts (.methodLink RX4 3 objectInit) (ab_in 341 (by decide +kernel) rfl)) (hts (.instanceMethod objectInit) (ab_in 27 (by decide +kernel) rfl)) (hts _ (ab_in 28 (by decide +kernel) rfl)) rfl (by rw [hml]; exact hl.1) rfl (show decode cX4_init 1 = .ok (.invokespecial 3, 3) by decide +kernel) (Nat.le_of_ble_eq_true rfl) (Nat.le_of_ble_eq_true rfl) ?_
  refine W.eq (g2 := F0 m 4 ls []) rfl ?_
  refine lv_aload_n (k := 0) hx hb (show decode cX4_init 4 = .ok (.aload_n 0, 1) by decide +kernel) rfl (lv_at hl 0 rfl) ?_
  refine va_new (ci := 2) (fs := [.null, .null, .null, .null, .int 0, .null, .null, .int 0]) (C := RX2) (T := TX2) (N := 8) hx hb hts (zl_of zl_X2) tyX2 tyX2_ok hown (hts _ (show Cond.classLink RX4 9 RX2 ∈ ab_B from (ab_in 342 (by decide +kernel) rfl))) (hts _ (show Cond.instantiable RX2 8 ∈ ab_B from (ab_in 30 (by decide +kernel) rfl))) (hts _ (show Cond.initialized RX2 ∈ ab_B from (ab_in 2 (by decide +kernel) rfl))) hK hP hD hS hA rfl (fun j hj => by rcases (show j = 0 ∨ j = 1 ∨ j = 2 ∨ j = 3 ∨ j = 4 ∨ j = 5 ∨ j = 6 ∨ j = 7 by omega) with rfl | rfl | rfl | rfl | rfl | rfl | rfl | rfl <;> rfl) (Nat.le_of_ble_eq_true rfl) (Nat.le_of_ble_eq_true rfl) (show decode cX4_init 5 = .ok (.new 9, 3) by decide +kernel) (fun q5 H hP hD hS => ?_)
  have hP : va_P D vwCl [(h0, .inr (4, [.null, .null, .int 0, .int 0, .int 0])), (q5, .inr (2, [.null, .null, .null, .null, .int 0, .null, .null, .int 0]))] H := hP
  have hD : va_D A [(h0, .inr (4, [.null, .null, .int 0, .int 0, .int 0])), (q5, .inr (2, [.null, .null, .null, .null, .int 0, .null, .null, .int 0]))] := hD
  refine lv_dup hx hb (show decode cX4_init 8 = .ok (.dup, 1) by decide +kernel) rfl ?_
  have hPc := hP.sub (ws' := [(q5, .inr (2, [.null, .null, .null, .null, .int 0, .null, .null, .int 0]))]) [1] rfl
  have hDc := hD.sub (ws' := [(q5, .inr (2, [.null, .null, .null, .null, .int 0, .null, .null, .int 0]))]) [1] (by decide) rfl
  have hFc := va_free (wc := [(q5, .inr (2, [.null, .null, .null, .null, .int 0, .null, .null, .int 0]))]) hD hS hA [1] rfl
  refine va_callv (va_runIN (As := []) (rest := [.ref q5, .ref h0]) ⟨hx, hb, hml, hown, hts⟩ (zK_X2 l D cy q5 H.size) ⟨va_cnB 0 hts (ab_goodC (ab_in 33 (by decide +kernel) rfl)) rfl rfl rfl (hNw (.methodLinkNest RX4 11 yX2_init RX11) (by decide +kernel)) (hts _ (show Cond.initialized RX2 ∈ ab_B from (ab_in 2 (by decide +kernel) rfl))) (by decide +kernel) ⟨Nat.le_of_ble_eq_true rfl, Nat.le_of_ble_eq_true rfl⟩, rfl, hts _ (show Cond.instanceMethod yX2_init ∈ ab_B from (ab_in 32 (by decide +kernel) rfl))⟩ (zKs hPc hK hDc hNw) rfl rfl hl.1 rfl (lv_room (Nat.le_of_ble_eq_true rfl)) (show decode cX4_init 9 = .ok (.invokespecial 11, 3) by decide +kernel) ⟨Nat.le_of_ble_eq_true rfl, Nat.le_of_ble_eq_true rfl⟩) hS (fun q _ h => hFc q h) hFc (fun u9 t H1 locs ht hvm hw hB hz1 hk1 hS => ?_)
  obtain ⟨hP1, -, hD1⟩ := hB
  rw [ht] at hP1
  obtain ⟨hP, hD⟩ := va_join (wr := [(h0, .inr (4, [.null, .null, .int 0, .int 0, .int 0]))]) (w1 := [(q5, .inr (2, [.ref (u9 0), .ref (u9 1), .ref (u9 2), .ref (u9 3), .int 0, .ref (u9 4), .ref (u9 5), .int (-1)])), ((u9 0), .inl (cy .int, 8, .inl (fun _ => 0))), ((u9 1), .inl (cy .int, 8, .inl (fun _ => 0))), ((u9 2), .inl (cy .int, 8, .inl (fun _ => 0))), ((u9 3), .inl (cy .int, 8, .inl (fun _ => 0))), ((u9 4), .inl (cy .int, 5, .inl (upd (upd (upd (upd (upd (fun _ => 0) 0 8) 1 4) 2 0) 3 4) 4 2))), ((u9 5), .inl (cy .int, 12, .inl (fun _ => 0)))]) hP hD [1] [0] rfl rfl (by decide) (by decide) hk1 hFc hP1 hD1
  generalize H1 = H at hP hS ⊢
  have hP : va_P D vwCl [(h0, .inr (4, [.null, .null, .int 0, .int 0, .int 0])), (q5, .inr (2, [.ref (u9 0), .ref (u9 1), .ref (u9 2), .ref (u9 3), .int 0, .ref (u9 4), .ref (u9 5), .int (-1)])), ((u9 0), .inl (cy .int, 8, .inl (fun _ => 0))), ((u9 1), .inl (cy .int, 8, .inl (fun _ => 0))), ((u9 2), .inl (cy .int, 8, .inl (fun _ => 0))), ((u9 3), .inl (cy .int, 8, .inl (fun _ => 0))), ((u9 4), .inl (cy .int, 5, .inl (upd (upd (upd (upd (upd (fun _ => 0) 0 8) 1 4) 2 0) 3 4) 4 2))), ((u9 5), .inl (cy .int, 12, .inl (fun _ => 0)))] H := hP
  have hD : va_D A [(h0, .inr (4, [.null, .null, .int 0, .int 0, .int 0])), (q5, .inr (2, [.ref (u9 0), .ref (u9 1), .ref (u9 2), .ref (u9 3), .int 0, .ref (u9 4), .ref (u9 5), .int (-1)])), ((u9 0), .inl (cy .int, 8, .inl (fun _ => 0))), ((u9 1), .inl (cy .int, 8, .inl (fun _ => 0))), ((u9 2), .inl (cy .int, 8, .inl (fun _ => 0))), ((u9 3), .inl (cy .int, 8, .inl (fun _ => 0))), ((u9 4), .inl (cy .int, 5, .inl (upd (upd (upd (upd (upd (fun _ => 0) 0 8) 1 4) 2 0) 3 4) 4 2))), ((u9 5), .inl (cy .int, 12, .inl (fun _ => 0)))] := hD
  refine va_putF (D := D) (ci := 4) (v := .ref q5) (ty := (.object "WalkTheDike$Dike")) (C := RX4) (T := TX4) (N := 5) hx hb hts (zl_of zl_X4) tyX4 tyX4_ok nmX4 hown hK hP hD hS 0 rfl rfl 0 (by decide) (hts _ (ab_in 344 (by decide +kernel) rfl)) (fun _ h9 => h9) rfl hin rfl (by decide +kernel) rfl rfl (Nat.le_of_ble_eq_true rfl) (show decode cX4_init 12 = .ok (.putfield 12, 3) by decide +kernel) (fun H locs hP hD hS => ?_)
  have hP : va_P D vwCl [(h0, .inr (4, [.ref q5, .null, .int 0, .int 0, .int 0])), (q5, .inr (2, [.ref (u9 0), .ref (u9 1), .ref (u9 2), .ref (u9 3), .int 0, .ref (u9 4), .ref (u9 5), .int (-1)])), ((u9 0), .inl (cy .int, 8, .inl (fun _ => 0))), ((u9 1), .inl (cy .int, 8, .inl (fun _ => 0))), ((u9 2), .inl (cy .int, 8, .inl (fun _ => 0))), ((u9 3), .inl (cy .int, 8, .inl (fun _ => 0))), ((u9 4), .inl (cy .int, 5, .inl (upd (upd (upd (upd (upd (fun _ => 0) 0 8) 1 4) 2 0) 3 4) 4 2))), ((u9 5), .inl (cy .int, 12, .inl (fun _ => 0)))] H := hP
  have hD : va_D A [(h0, .inr (4, [.ref q5, .null, .int 0, .int 0, .int 0])), (q5, .inr (2, [.ref (u9 0), .ref (u9 1), .ref (u9 2), .ref (u9 3), .int 0, .ref (u9 4), .ref (u9 5), .int (-1)])), ((u9 0), .inl (cy .int, 8, .inl (fun _ => 0))), ((u9 1), .inl (cy .int, 8, .inl (fun _ => 0))), ((u9 2), .inl (cy .int, 8, .inl (fun _ => 0))), ((u9 3), .inl (cy .int, 8, .inl (fun _ => 0))), ((u9 4), .inl (cy .int, 5, .inl (upd (upd (upd (upd (upd (fun _ => 0) 0 8) 1 4) 2 0) 3 4) 4 2))), ((u9 5), .inl (cy .int, 12, .inl (fun _ => 0)))] := hD
  refine lv_aload_n (k := 0) hx hb (show decode cX4_init 15 = .ok (.aload_n 0, 1) by decide +kernel) rfl (lv_at hl 0 rfl) ?_
  refine lv_iconst (v := 5) hx hb (show decode cX4_init 16 = .ok (.iconst 5, 1) by decide +kernel) (by decide) ?_
  refine zb_newa (atype := .int) (ty := .int) (N' := 5) (a0 := (5, .inl (fun _ => 0))) hx hb (hts _ (ab_in 79 (by decide +kernel) rfl)) rfl 0 rfl hK hP hD hS hA (fun _ => rfl) (by decide) (by decide) (by decide) (Nat.le_of_ble_eq_true rfl) (Nat.le_of_ble_eq_true rfl) (show decode cX4_init 17 = .ok (.newarray .int, 2) by decide +kernel) (fun q17 H hP hD hS => ?_)
  have hP : va_P D vwCl [(h0, .inr (4, [.ref q5, .null, .int 0, .int 0, .int 0])), (q5, .inr (2, [.ref (u9 0), .ref (u9 1), .ref (u9 2), .ref (u9 3), .int 0, .ref (u9 4), .ref (u9 5), .int (-1)])), ((u9 0), .inl (cy .int, 8, .inl (fun _ => 0))), ((u9 1), .inl (cy .int, 8, .inl (fun _ => 0))), ((u9 2), .inl (cy .int, 8, .inl (fun _ => 0))), ((u9 3), .inl (cy .int, 8, .inl (fun _ => 0))), ((u9 4), .inl (cy .int, 5, .inl (upd (upd (upd (upd (upd (fun _ => 0) 0 8) 1 4) 2 0) 3 4) 4 2))), ((u9 5), .inl (cy .int, 12, .inl (fun _ => 0))), (q17, .inl (cy .int, 5, .inl (fun _ => 0)))] H := hP
  have hD : va_D A [(h0, .inr (4, [.ref q5, .null, .int 0, .int 0, .int 0])), (q5, .inr (2, [.ref (u9 0), .ref (u9 1), .ref (u9 2), .ref (u9 3), .int 0, .ref (u9 4), .ref (u9 5), .int (-1)])), ((u9 0), .inl (cy .int, 8, .inl (fun _ => 0))), ((u9 1), .inl (cy .int, 8, .inl (fun _ => 0))), ((u9 2), .inl (cy .int, 8, .inl (fun _ => 0))), ((u9 3), .inl (cy .int, 8, .inl (fun _ => 0))), ((u9 4), .inl (cy .int, 5, .inl (upd (upd (upd (upd (upd (fun _ => 0) 0 8) 1 4) 2 0) 3 4) 4 2))), ((u9 5), .inl (cy .int, 12, .inl (fun _ => 0))), (q17, .inl (cy .int, 5, .inl (fun _ => 0)))] := hD
  refine va_putF (D := D) (ci := 4) (v := .ref q17) (ty := (.array .int)) (C := RX4) (T := TX4) (N := 5) hx hb hts (zl_of zl_X4) tyX4 tyX4_ok nmX4 hown hK hP hD hS 0 rfl rfl 1 (by decide) (hts _ (ab_in 346 (by decide +kernel) rfl)) (fun _ h9 => h9) rfl hin rfl (by decide +kernel) rfl rfl (Nat.le_of_ble_eq_true rfl) (show decode cX4_init 19 = .ok (.putfield 18, 3) by decide +kernel) (fun H locs hP hD hS => ?_)
  have hP : va_P D vwCl [(h0, .inr (4, [.ref q5, .ref q17, .int 0, .int 0, .int 0])), (q5, .inr (2, [.ref (u9 0), .ref (u9 1), .ref (u9 2), .ref (u9 3), .int 0, .ref (u9 4), .ref (u9 5), .int (-1)])), ((u9 0), .inl (cy .int, 8, .inl (fun _ => 0))), ((u9 1), .inl (cy .int, 8, .inl (fun _ => 0))), ((u9 2), .inl (cy .int, 8, .inl (fun _ => 0))), ((u9 3), .inl (cy .int, 8, .inl (fun _ => 0))), ((u9 4), .inl (cy .int, 5, .inl (upd (upd (upd (upd (upd (fun _ => 0) 0 8) 1 4) 2 0) 3 4) 4 2))), ((u9 5), .inl (cy .int, 12, .inl (fun _ => 0))), (q17, .inl (cy .int, 5, .inl (fun _ => 0)))] H := hP
  have hD : va_D A [(h0, .inr (4, [.ref q5, .ref q17, .int 0, .int 0, .int 0])), (q5, .inr (2, [.ref (u9 0), .ref (u9 1), .ref (u9 2), .ref (u9 3), .int 0, .ref (u9 4), .ref (u9 5), .int (-1)])), ((u9 0), .inl (cy .int, 8, .inl (fun _ => 0))), ((u9 1), .inl (cy .int, 8, .inl (fun _ => 0))), ((u9 2), .inl (cy .int, 8, .inl (fun _ => 0))), ((u9 3), .inl (cy .int, 8, .inl (fun _ => 0))), ((u9 4), .inl (cy .int, 5, .inl (upd (upd (upd (upd (upd (fun _ => 0) 0 8) 1 4) 2 0) 3 4) 4 2))), ((u9 5), .inl (cy .int, 12, .inl (fun _ => 0))), (q17, .inl (cy .int, 5, .inl (fun _ => 0)))] := hD
  refine lv_aload_n (k := 0) hx hb (show decode cX4_init 22 = .ok (.aload_n 0, 1) by decide +kernel) rfl (lv_at hl 0 rfl) ?_
  refine lv_iconst (v := 0) hx hb (show decode cX4_init 23 = .ok (.iconst 0, 1) by decide +kernel) (by decide) ?_
  refine va_put (D := D) (ci := 4) (v := .int 0) (ty := .int) (C := RX4) (T := TX4) (N := 5) hx hb hts (zl_of zl_X4) tyX4 tyX4_ok nmX4 hown hK hP hD hS 0 rfl rfl 2 (by decide) (hts _ (ab_in 348 (by decide +kernel) rfl)) (fun _ h9 => h9) rfl (by decide +kernel) rfl rfl (Nat.le_of_ble_eq_true rfl) (show decode cX4_init 24 = .ok (.putfield 22, 3) by decide +kernel) (fun H locs hP hD hS => ?_)
  have hP : va_P D vwCl [(h0, .inr (4, [.ref q5, .ref q17, .int 0, .int 0, .int 0])), (q5, .inr (2, [.ref (u9 0), .ref (u9 1), .ref (u9 2), .ref (u9 3), .int 0, .ref (u9 4), .ref (u9 5), .int (-1)])), ((u9 0), .inl (cy .int, 8, .inl (fun _ => 0))), ((u9 1), .inl (cy .int, 8, .inl (fun _ => 0))), ((u9 2), .inl (cy .int, 8, .inl (fun _ => 0))), ((u9 3), .inl (cy .int, 8, .inl (fun _ => 0))), ((u9 4), .inl (cy .int, 5, .inl (upd (upd (upd (upd (upd (fun _ => 0) 0 8) 1 4) 2 0) 3 4) 4 2))), ((u9 5), .inl (cy .int, 12, .inl (fun _ => 0))), (q17, .inl (cy .int, 5, .inl (fun _ => 0)))] H := hP
  have hD : va_D A [(h0, .inr (4, [.ref q5, .ref q17, .int 0, .int 0, .int 0])), (q5, .inr (2, [.ref (u9 0), .ref (u9 1), .ref (u9 2), .ref (u9 3), .int 0, .ref (u9 4), .ref (u9 5), .int (-1)])), ((u9 0), .inl (cy .int, 8, .inl (fun _ => 0))), ((u9 1), .inl (cy .int, 8, .inl (fun _ => 0))), ((u9 2), .inl (cy .int, 8, .inl (fun _ => 0))), ((u9 3), .inl (cy .int, 8, .inl (fun _ => 0))), ((u9 4), .inl (cy .int, 5, .inl (upd (upd (upd (upd (upd (fun _ => 0) 0 8) 1 4) 2 0) 3 4) 4 2))), ((u9 5), .inl (cy .int, 12, .inl (fun _ => 0))), (q17, .inl (cy .int, 5, .inl (fun _ => 0)))] := hD
  refine lv_aload_n (k := 0) hx hb (show decode cX4_init 27 = .ok (.aload_n 0, 1) by decide +kernel) rfl (lv_at hl 0 rfl) ?_
  refine lv_iconst (v := 0) hx hb (show decode cX4_init 28 = .ok (.iconst 0, 1) by decide +kernel) (by decide) ?_
  refine va_put (D := D) (ci := 4) (v := .int 0) (ty := .int) (C := RX4) (T := TX4) (N := 5) hx hb hts (zl_of zl_X4) tyX4 tyX4_ok nmX4 hown hK hP hD hS 0 rfl rfl 3 (by decide) (hts _ (ab_in 350 (by decide +kernel) rfl)) (fun _ h9 => h9) rfl (by decide +kernel) rfl rfl (Nat.le_of_ble_eq_true rfl) (show decode cX4_init 29 = .ok (.putfield 26, 3) by decide +kernel) (fun H locs hP hD hS => ?_)
  have hP : va_P D vwCl [(h0, .inr (4, [.ref q5, .ref q17, .int 0, .int 0, .int 0])), (q5, .inr (2, [.ref (u9 0), .ref (u9 1), .ref (u9 2), .ref (u9 3), .int 0, .ref (u9 4), .ref (u9 5), .int (-1)])), ((u9 0), .inl (cy .int, 8, .inl (fun _ => 0))), ((u9 1), .inl (cy .int, 8, .inl (fun _ => 0))), ((u9 2), .inl (cy .int, 8, .inl (fun _ => 0))), ((u9 3), .inl (cy .int, 8, .inl (fun _ => 0))), ((u9 4), .inl (cy .int, 5, .inl (upd (upd (upd (upd (upd (fun _ => 0) 0 8) 1 4) 2 0) 3 4) 4 2))), ((u9 5), .inl (cy .int, 12, .inl (fun _ => 0))), (q17, .inl (cy .int, 5, .inl (fun _ => 0)))] H := hP
  have hD : va_D A [(h0, .inr (4, [.ref q5, .ref q17, .int 0, .int 0, .int 0])), (q5, .inr (2, [.ref (u9 0), .ref (u9 1), .ref (u9 2), .ref (u9 3), .int 0, .ref (u9 4), .ref (u9 5), .int (-1)])), ((u9 0), .inl (cy .int, 8, .inl (fun _ => 0))), ((u9 1), .inl (cy .int, 8, .inl (fun _ => 0))), ((u9 2), .inl (cy .int, 8, .inl (fun _ => 0))), ((u9 3), .inl (cy .int, 8, .inl (fun _ => 0))), ((u9 4), .inl (cy .int, 5, .inl (upd (upd (upd (upd (upd (fun _ => 0) 0 8) 1 4) 2 0) 3 4) 4 2))), ((u9 5), .inl (cy .int, 12, .inl (fun _ => 0))), (q17, .inl (cy .int, 5, .inl (fun _ => 0)))] := hD
  refine lv_aload_n (k := 0) hx hb (show decode cX4_init 32 = .ok (.aload_n 0, 1) by decide +kernel) rfl (lv_at hl 0 rfl) ?_
  refine lv_iconst (v := 0) hx hb (show decode cX4_init 33 = .ok (.iconst 0, 1) by decide +kernel) (by decide) ?_
  refine va_put (D := D) (ci := 4) (v := .int 0) (ty := .boolean) (C := RX4) (T := TX4) (N := 5) hx hb hts (zl_of zl_X4) tyX4 tyX4_ok nmX4 hown hK hP hD hS 0 rfl rfl 4 (by decide) (hts _ (ab_in 352 (by decide +kernel) rfl)) (fun _ h9 => h9) rfl (by decide +kernel) rfl rfl (Nat.le_of_ble_eq_true rfl) (show decode cX4_init 34 = .ok (.putfield 29, 3) by decide +kernel) (fun H locs hP hD hS => ?_)
  have hP : va_P D vwCl [(h0, .inr (4, [.ref q5, .ref q17, .int 0, .int 0, .int 0])), (q5, .inr (2, [.ref (u9 0), .ref (u9 1), .ref (u9 2), .ref (u9 3), .int 0, .ref (u9 4), .ref (u9 5), .int (-1)])), ((u9 0), .inl (cy .int, 8, .inl (fun _ => 0))), ((u9 1), .inl (cy .int, 8, .inl (fun _ => 0))), ((u9 2), .inl (cy .int, 8, .inl (fun _ => 0))), ((u9 3), .inl (cy .int, 8, .inl (fun _ => 0))), ((u9 4), .inl (cy .int, 5, .inl (upd (upd (upd (upd (upd (fun _ => 0) 0 8) 1 4) 2 0) 3 4) 4 2))), ((u9 5), .inl (cy .int, 12, .inl (fun _ => 0))), (q17, .inl (cy .int, 5, .inl (fun _ => 0)))] H := hP
  have hD : va_D A [(h0, .inr (4, [.ref q5, .ref q17, .int 0, .int 0, .int 0])), (q5, .inr (2, [.ref (u9 0), .ref (u9 1), .ref (u9 2), .ref (u9 3), .int 0, .ref (u9 4), .ref (u9 5), .int (-1)])), ((u9 0), .inl (cy .int, 8, .inl (fun _ => 0))), ((u9 1), .inl (cy .int, 8, .inl (fun _ => 0))), ((u9 2), .inl (cy .int, 8, .inl (fun _ => 0))), ((u9 3), .inl (cy .int, 8, .inl (fun _ => 0))), ((u9 4), .inl (cy .int, 5, .inl (upd (upd (upd (upd (upd (fun _ => 0) 0 8) 1 4) 2 0) 3 4) 4 2))), ((u9 5), .inl (cy .int, 12, .inl (fun _ => 0))), (q17, .inl (cy .int, 5, .inl (fun _ => 0)))] := hD
  refine W.widen (k := 8) (n := 62) (Nat.le_of_ble_eq_true rfl) (Nat.le_of_ble_eq_true rfl) ?_
  exact W.vret hx hb hr (fun t ht hW => ⟨⟨fun j => ([q5, (u9 0), (u9 1), (u9 2), (u9 3), (u9 4), (u9 5), q17] : List Nat).getD j 0, rfl, trivial, by rw [ht]; exact hP, va_K.moved hW.alike hK, hD⟩, hS.F ht⟩) hS.2.2 (by decide +kernel) hlocks
