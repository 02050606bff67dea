/-! the two texts: their length, their letters *)
-/
set_option maxHeartbeats 4000000 in
/-- a contract of the abstract machine out of a walk of the kit's -/
theorem ab_ofW {l : Launch} {Λ : List ab_L} {cl : List vw_C} {Z : ab_Zt} {y : MethodName} {bytes : ByteArray} {nL : Nat} {ret : Option FieldType} {rm : Room} {T : ab_T} (hy : plainName y.cls = true)
    (h : ∀ (p : Program) (e : Env) (s : State) (m : MethodId) (args : Array Value) (below : List Frame) (meth : Method) (c : Code) (D : va_G) (cy : FieldType → ClassId) (ad : Nat → Nat) (as : List Value) (M : ab_M) (N : ab_N) (k : ab_R), T as M N k → ab_cs as ≤ nL ∧ ∀ (lsC : Array Slot), ab_Env p s m args meth c bytes y.cls nL ret cl Λ D cy ad (ab_A Λ ad s.heap.size) → Z ad (ab_A Λ ad s.heap.size) s s.heap → lv_has lsC nL (lv_args 0 (as.map (ab_c ad))) → va_P D cl (ab_w Λ ad cy M N) s.heap →
      W p l e rm s m args below meth c s.heap [] 0 0 (MQ below (ab_Fin cl Λ D cy ad (ab_A Λ ad s.heap.size) k) args s 0 0 (ab_A Λ ad s.heap.size)) (F0 m 0 lsC [])) : ab_Met l Λ cl Z y bytes nL ret rm T := by
  intro D cy ad sz as M N k hinj hT
  refine Met.ofW (cc := bytes) (maxL := nL) (ret := ret) hy rfl ?_
  intro p e s m args below meth c s₁ B hml hv
  obtain ⟨rfl, hsz, hP, hK, hZ⟩ := hv
  have hts := atoms_spec (ws := Cond.code y bytes nL ret :: ab_B) B.pre
  have hown : s.vm.findClass y.cls = some m.cls := findClass_of_methodNamed B.named
  have hlocks := B.notSynchronized
  subst hsz
  obtain ⟨hcs, hR⟩ := h p e s m (as.map (ab_c ad)).toArray below meth c D cy ad as M N k hT
  have htsB : ∀ w ∈ ab_B, w.before (as.map (ab_c ad)).toArray s = true := fun w hw => hts w (List.mem_cons_of_mem _ hw)
  have hE : ab_Env p s m (as.map (ab_c ad)).toArray meth c bytes y.cls nL ret cl Λ D cy ad (ab_A Λ ad s.heap.size) := ⟨⟨B.exec, B.bytes, hml, hown, htsB⟩, B.returns, hlocks, hK, hinj, fun j hj => Or.inl ⟨j, hj, rfl⟩, fun q h => Or.inr h⟩
  have hl := lv_entry (as.map (ab_c ad)) (n := nL) (by rw [ab_ls_cs]; exact hcs)
  rw [lg_entry_eq]
  exact hR _ hE hZ hl hP
/-- a receiver that is a text -/
def ab_recT (T : ab_T) : Prop := ∀ (as : List Value) (M : ab_M) (N : ab_N) (k : ab_R), T as M N k → ∃ (j : Nat) (as2 : List Value), j < 2 ∧ as = .ref (60 + j) :: as2
set_option maxHeartbeats 4000000 in
theorem ab_callT {l : Launch} {own : String} {rm rmC : Room} {Λ : List ab_L} {cl : List vw_C} {i n : Nat} {T : ab_T} {y : MethodName} {bytes : ByteArray} {nLC : Nat} {retC : Option FieldType} (hM : ab_Met l Λ cl zZ_C y bytes nLC retC rmC T) (hC : y.cls = "java/lang/String") (hcode : Cond.code y bytes nLC retC ∈ ab_B) (hlink : Cond.methodLink own i y ∈ ab_B) (hins : Cond.instanceMethod y ∈ ab_B) (hsel : Cond.selects y.cls y y ∈ ab_B) (hini : Cond.initialized y.cls ∈ ab_B) (hy : ab_yok y n) (hr0 : rmC.cells = 0 ∧ rmC.slots = 0) (hroom : rmC.frames + 1 ≤ rm.frames ∧ 8 + (nLC + 11) + rmC.locals ≤ rm.locals) (hrecv : ab_recT T) : ab_Call l own rm Λ cl zZ_C .invokevirtual i (n + 1) T := by
  intro p e s m args below meth c cc nL ret D cy ad Qm ck sk hck hsk hE hZs pc H locs lsC as rest M N k hdec hlen hcat hsz hP hS hT kk
  obtain ⟨⟨hx, hb, hml, hown, hts⟩, hr, hlocks, hK, hinj, hAad, hA⟩ := hE
  obtain ⟨j, as2, hj, rfl⟩ := hrecv as M N k hT
  have hst : ((Value.ref (60 + j) :: as2).map (ab_c ad)).reverse ++ rest = (as2.map (ab_c ad)).reverse ++ Value.ref (ad (60 + j)) :: rest := by simp [ab_c]
  rw [hst]
  have cw : CallW rm s args own y.cls i y bytes nLC retC (Cond.code y bytes nLC retC :: ab_B) rmC 0 0 n := ⟨callB_of n hts (ab_goodC hcode) rfl hr0.1 hr0.2 (hts _ hini) (hts _ hlink) hy hroom, hts _ hins, hts _ hsel⟩
  have hrun := va_runV (p := p) (e := e) (R := rm) (m := m) (args := args) (below := below) (meth := meth) (c := c) (locs := locs) (cells := ck) (slots := sk) (As := as2.map (ab_c ad)) (rest := rest) (g := F0 m pc lsC ((as2.map (ab_c ad)).reverse ++ Value.ref (ad (60 + j)) :: rest)) (b := ad (60 + j)) ⟨hx, hb, hml, hown, hts⟩ (hM D cy ad H.size (Value.ref (60 + j) :: as2) M N k hinj hT) cw
    ⟨ab_blind zZ_C_ok, by rw [hC]; exact vk_recv (adK := fun i => ad (60 + i)) hZs.2.2.2.1 hj hS, fun U hU hW => ⟨by simp [ab_c], by rw [hU], by rw [hU]; exact hP, va_K.moved hW.alike hK, by rw [hU]; exact ab_Z_at zZ_C_ok hZs hS hW⟩⟩ rfl (by simpa using hlen) hsz rfl (lv_room (m := m) (pc := pc) (ls := lsC) (rest := (as2.map (ab_c ad)).reverse ++ Value.ref (ad (60 + j)) :: rest) hcat) hdec ⟨hck, hsk⟩
  exact ab_goes hrun hS kk
/-- the letters -/
def zs_ch (j : Nat) : Nat → Int32 := fun i => (zs_byt.getD j []).getD i 0
def zs_ln (j : Nat) : Nat := zs_len.getD j 0
/-- transformers: a text's or a row's place, j -/
def zt_tx (b : Nat) (f : Nat → List Value → Option (Prop × Option Value)) : ab_T := fun as M N k => match as with
  | .ref a :: r => match Nat.beq a b with
    | true => (match f 0 r with
      | some q => q.1 ∧ k q.2 M N
      | none => False)
    | false => match Nat.beq a (b + 1) with
      | true => (match f 1 r with
        | some q => q.1 ∧ k q.2 M N
        | none => False)
      | false => False
  | _ => False
theorem zt_tx_e {b : Nat} {f : Nat → List Value → Option (Prop × Option Value)} {as : List Value} {M : ab_M} {N : ab_N} {k : ab_R} (h : zt_tx b f as M N k) : ∃ (j : Nat) (r : List Value) (P : Prop) (v : Option Value), j < 2 ∧ as = .ref (b + j) :: r ∧ f j r = some (P, v) ∧ P ∧ k v M N := by
  unfold zt_tx at h
  split at h
  case h_2 => exact h.elim
  split at h
  · rename_i hb
    split at h
    · rename_i q hq
      rw [Nat.eq_of_beq_eq_true hb]
      exact ⟨0, _, q.1, q.2, by omega, rfl, hq, h⟩
    · exact h.elim
  · split at h
    · rename_i hb
      split at h
      · rename_i q hq
        rw [Nat.eq_of_beq_eq_true hb]
        exact ⟨1, _, q.1, q.2, by omega, rfl, hq, h⟩
      · exact h.elim
    · exact h.elim
theorem zt_tx_i {b : Nat} {f : Nat → List Value → Option (Prop × Option Value)} {j : Nat} {r : List Value} {P : Prop} {v : Option Value} {M : ab_M} {N : ab_N} {k : ab_R} (hj : j < 2) (h1 : f j r = some (P, v)) (h2 : P) (h3 : k v M N) : zt_tx b f (.ref (b + j) :: r) M N k := by
  unfold zt_tx
  dsimp only
  split
  · rename_i hb
    have e : j = 0 := by have := Nat.eq_of_beq_eq_true hb; omega
    subst e
    rw [h1]
    exact ⟨h2, h3⟩
  · rename_i hb
    have e : j = 1 := by
      have h0 : ¬ j = 0 := fun z => by rw [z, Nat.add_zero, Nat.beq_refl] at hb; cases hb
      omega
    subst e
    rw [Nat.beq_refl, h1]
    exact ⟨h2, h3⟩
theorem zt_tx_mono (b : Nat) (f : Nat → List Value → Option (Prop × Option Value)) : ab_mono (zt_tx b f) := fun as M N k k2 hk h => by
  unfold zt_tx at h ⊢
  split at h
  · split at h
    · split at h
      · exact ⟨h.1, hk _ _ _ h.2⟩
      · exact h
    · split at h
      · split at h
        · exact ⟨h.1, hk _ _ _ h.2⟩
        · exact h
      · exact h
  · exact h
theorem zt_tx_r {f : Nat → List Value → Option (Prop × Option Value)} : ab_recT (zt_tx 60 f) := fun as M N k h => by
  obtain ⟨j, r, P, v, hj, rfl, -⟩ := zt_tx_e h
  exact ⟨j, r, hj, rfl⟩
def zt_J0_coder_7d493 : ab_T := zt_tx 60 (fun _ r => match r with
  | [] => some (True, some (.int 0))
  | _ => none)
def zt_J0_isLatin1_aae02 : ab_T := zt_tx 60 (fun _ r => match r with
  | [] => some (True, some (.int 1))
  | _ => none)
def zt_J0_length_8abf5 : ab_T := zt_tx 60 (fun j r => match r with
  | [] => some (True, some (.int (Int32.ofNat (zs_ln j))))
  | _ => none)
def zt_J0_charAt_5068e : ab_T := zt_tx 60 (fun j r => match r with
  | [.int k] => some (vp_in k (zs_ln j), some (.int (zs_ch j k.toNatClampNeg)))
  | _ => none)
def zt_J1_charAt_3b067 : ab_T := zt_tx 62 (fun j r => match r with
  | [.int k] => some (vp_in k (zs_ln j), some (.int (zs_ch j k.toNatClampNeg)))
  | _ => none)
def zt_J0_checkIndex_df160 : ab_T := fun as M N k => match as with
  | [.int i, .int n] => (0 ≤ i ∧ i < n) ∧ k none M N
  | _ => False
theorem zt_J0_checkIndex_df160_mono : ab_mono zt_J0_checkIndex_df160 := fun as M N k k2 hk h => by
  unfold zt_J0_checkIndex_df160 at h ⊢
  split at h
  · exact ⟨h.1, hk _ _ _ h.2⟩
  · exact h
theorem zt_J0_length_8abf5_mono : ab_mono zt_J0_length_8abf5 := zt_tx_mono _ _
theorem zt_J0_charAt_5068e_mono : ab_mono zt_J0_charAt_5068e := zt_tx_mono _ _
theorem zV_J0_length_8abf5 : ab_recT zt_J0_length_8abf5 := zt_tx_r
theorem zV_J0_charAt_5068e : ab_recT zt_J0_charAt_5068e := zt_tx_r
abbrev zR_J0_coder_7d493 : Room := { frames := 0, cells := 0, slots := 0, locals := 0 }
theorem zJ_s {ad : Nat → Nat} {A : Nat → Prop} {s : State} {j : Nat} (hj : j < 2) (hZ : zZ_C ad A s s.heap) : va_OF "java/lang/String" "coder" "B" (.int 0) (ad (60 + j)) A s s.heap ∧ va_OF "java/lang/String" "value" "[B" (.ref (ad (62 + j))) (ad (60 + j)) A s s.heap ∧ va_T .byte (ad (62 + j)) (zs_ln j) (fun i => .int (zs_ch j i)) A s s.heap := (hZ.2.2.2.1.1 j hj).2
set_option maxHeartbeats 4000000 in
theorem zM_J0_coder_7d493 (l : Launch) : ab_Met l zw_C vwCl zZ_C yJ0_coder_7d493 cJ0_coder_7d493 1 (some .byte) zR_J0_coder_7d493 zt_J0_coder_7d493 := by
  refine ab_ofW rfl ?_
  intro p e s m args below meth c D cy ad as M N k hT
  obtain ⟨j, r, P, v, hj, rfl, e1, -, hk⟩ := zt_tx_e hT
  match r, e1 with
  | [], e1 =>
    cases e1
    refine ⟨Nat.le_of_ble_eq_true rfl, fun lsC hE hZ hl hP => ?_⟩
    obtain ⟨⟨hx, hb, hml, hown, hts⟩, hr, hlocks, -⟩ := hE
    obtain ⟨g1, g2, g3⟩ := zJ_s hj hZ
    have hS0 : va_S (ab_A zw_C ad s.heap.size) s.heap s.heap [] := va_S.rf
    refine va_gets (index := 38) hx hb hZ.2.2.2.2.2.2.1 va_S.rf hown (hts _ (ab_in 389 (by decide +kernel) rfl)) (fun _ h => h) (by decide +kernel) ?_
    refine lv_if_eq hx hb (off := 10) (tgt := 13) (by decide +kernel) rfl (fun z => absurd z (by decide)) (fun _ => ?_)
    refine lv_aload_n (k := 0) hx hb (by decide +kernel) rfl (lv_at hl 0 rfl) ?_
    refine vk_getf (index := 15) hx hb g1 va_S.rf hown (hts _ (ab_in 1542 (by decide +kernel) rfl)) (fun _ h => h) (by decide +kernel) ?_
    refine lv_goto hx hb (off := 4) (tgt := 14) (by decide +kernel) rfl ?_
    exact W.zret hx hb hr rfl (fun t ht hW => ⟨⟨some (.int 0), M, N, rfl, hk, by rw [ht]; exact hP⟩, hS0.F ht⟩) hS0.2.2 (by decide +kernel) hlocks
abbrev zR_J0_isLatin1_aae02 : Room := { frames := 0, cells := 0, slots := 0, locals := 0 }
set_option maxHeartbeats 4000000 in
theorem zM_J0_isLatin1_aae02 (l : Launch) : ab_Met l zw_C vwCl zZ_C yJ0_isLatin1_aae02 cJ0_isLatin1_aae02 1 (some .boolean) zR_J0_isLatin1_aae02 zt_J0_isLatin1_aae02 := by
  refine ab_ofW rfl ?_
  intro p e s m args below meth c D cy ad as M N k hT
  obtain ⟨j, r, P, v, hj, rfl, e1, -, hk⟩ := zt_tx_e hT
  match r, e1 with
  | [], e1 =>
    cases e1
    refine ⟨Nat.le_of_ble_eq_true rfl, fun lsC hE hZ hl hP => ?_⟩
    obtain ⟨⟨hx, hb, hml, hown, hts⟩, hr, hlocks, -⟩ := hE
    obtain ⟨g1, g2, g3⟩ := zJ_s hj hZ
    have hS0 : va_S (ab_A zw_C ad s.heap.size) s.heap s.heap [] := va_S.rf
    refine va_gets (index := 38) hx hb hZ.2.2.2.2.2.2.1 va_S.rf hown (hts _ (ab_in 389 (by decide +kernel) rfl)) (fun _ h => h) (by decide +kernel) ?_
    refine lv_if_eq hx hb (off := 14) (tgt := 17) (by decide +kernel) rfl (fun z => absurd z (by decide)) (fun _ => ?_)
    refine lv_aload_n (k := 0) hx hb (by decide +kernel) rfl (lv_at hl 0 rfl) ?_
    refine vk_getf (index := 15) hx hb g1 va_S.rf hown (hts _ (ab_in 1542 (by decide +kernel) rfl)) (fun _ h => h) (by decide +kernel) ?_
    refine lv_if_ne hx hb (off := 7) (tgt := 17) (by decide +kernel) rfl (fun z => absurd rfl z) (fun _ => ?_)
    refine lv_iconst hx hb (n := 1) (v := 1) (by decide +kernel) rfl ?_
    refine lv_goto hx hb (off := 4) (tgt := 18) (by decide +kernel) rfl ?_
    exact W.zret hx hb hr rfl (fun t ht hW => ⟨⟨some (.int 1), M, N, rfl, hk, by rw [ht]; exact hP⟩, hS0.F ht⟩) hS0.2.2 (by decide +kernel) hlocks
abbrev zR_J0_length_8abf5 : Room := { frames := 1, cells := 0, slots := 0, locals := 20 }
set_option maxHeartbeats 4000000 in
theorem zM_J0_length_8abf5 (l : Launch) : ab_Met l zw_C vwCl zZ_C yJ0_length_8abf5 cJ0_length_8abf5 1 (some .int) zR_J0_length_8abf5 zt_J0_length_8abf5 := by
  refine ab_ofW rfl ?_
  intro p e s m args below meth c D cy ad as M N k hT
  obtain ⟨j, r, P, v, hj, rfl, e1, -, hk⟩ := zt_tx_e hT
  match r, e1 with
  | [], e1 =>
    cases e1
    refine ⟨Nat.le_of_ble_eq_true rfl, fun lsC hE hZ hl hP => ?_⟩
    obtain ⟨⟨hx, hb, hml, hown, hts⟩, hr, hlocks, -⟩ := id hE
    obtain ⟨g1, g2, g3⟩ := zJ_s hj hZ
    have hS0 : va_S (ab_A zw_C ad s.heap.size) s.heap s.heap [] := va_S.rf
    refine lv_aload_n (k := 0) hx hb (by decide +kernel) rfl (lv_at hl 0 rfl) ?_
    refine vk_getf (index := 9) hx hb g2 va_S.rf hown (hts _ (ab_in 1541 (by decide +kernel) rfl)) (fun _ h => h) (by decide +kernel) ?_
    refine va_tlen hx hb g3 va_S.rf rfl (by decide +kernel) ?_
    refine lv_aload_n (k := 0) hx hb (by decide +kernel) rfl (lv_at hl 0 rfl) ?_
    have hc : ab_Call l RJ0 zR_J0_length_8abf5 zw_C vwCl zZ_C .invokevirtual 335 1 zt_J0_coder_7d493 := ab_callT (zM_J0_coder_7d493 l) rfl (ab_in 388 (by decide +kernel) rfl) (ab_in 385 (by decide +kernel) rfl) (ab_in 386 (by decide +kernel) rfl) (ab_in 387 (by decide +kernel) rfl) (ab_in 13 (by decide +kernel) rfl) (by unfold ab_yok; decide +kernel) ⟨rfl, rfl⟩ (by decide) zt_tx_r
    refine hc p e s m args below meth c _ 1 _ D cy ad _ 0 0 (Nat.zero_le _) (Nat.zero_le _) hE hZ 6 s.heap [] lsC [.ref (60 + j)] [.int (Int32.ofNat (zs_ln j))] M N (fun r M2 N2 => r = some (.int 0) ∧ M2 = M ∧ N2 = N) (by decide +kernel) rfl (Nat.le_of_ble_eq_true rfl) hl.1 hP va_S.rf ?_ ?_
    · exact zt_tx_i hj rfl trivial ⟨rfl, rfl, rfl⟩
    · rintro r M2 N2 H2 locs2 ⟨rfl, rfl, rfl⟩ hP2 hS2
      refine lv_ishr hx hb (by decide +kernel) ?_
      have es : ∀ x : Int32, x >>> ((0 : Int32) &&& 31) = x := fun x => by rw [show ((0 : Int32) &&& 31) = 0 from by decide]; exact Int32.shiftRight_zero
      rw [es]
      exact W.iret hx hb hr (fun t ht hW => ⟨⟨some (.int _), M2, N2, rfl, hk, by rw [ht]; exact hP2⟩, hS2.F ht⟩) hS2.2.2 (by decide +kernel) hlocks
/-- an index is looked at -/
theorem zJ3 (l : Launch) {Λ : List ab_L} {cl : List vw_C} {D : va_G} {cy : FieldType → ClassId} {ad : Nat → Nat} {sz : Nat} {M : ab_M} {N : ab_N} {i n : Int32} {v : Value} (h0 : 0 ≤ i) (h1 : i < n) (hv : v = .null ∨ ∃ t, v = .ref t) : Met l yJ3_checkIndex_8e157 (Cond.code yJ3_checkIndex_8e157 cJ3_checkIndex_8e157 3 (some .int) :: ab_B) { frames := 0, cells := 0, slots := 0, locals := 0 } (va_Pc [.int i, .int n, v] (fun U => U.heap.size = sz ∧ va_P D cl (ab_w Λ ad cy M N) U.heap)) (ab_Fin cl Λ D cy ad (ab_A Λ ad sz) (fun r M2 N2 => r = some (.int i) ∧ M2 = M ∧ N2 = N)) 0 0 (ab_A Λ ad sz) := by
  refine Met.ofW (cc := cJ3_checkIndex_8e157) (maxL := 3) (ret := some .int) rfl rfl ?_
  intro p e s m args below meth c s₁ B hml hv2
  obtain ⟨rfl, hsz, hP⟩ := hv2
  have hlocks := B.notSynchronized
  subst hsz
  have hx := B.exec
  have hb := B.bytes
  have hr := B.returns
  have hS0 : va_S (ab_A Λ ad s.heap.size) s.heap s.heap [] := va_S.rf
  have hl := lv_entry [.int i, .int n, v] (n := 3) (by rcases hv with rfl | ⟨t, rfl⟩ <;> exact Nat.le_of_ble_eq_true rfl)
  rw [lg_entry_eq]
  generalize (lg_sl [Value.int i, Value.int n, v] ++ List.replicate (3 - (lg_sl [Value.int i, Value.int n, v]).length) Slot.unset).toArray = lsC at hl ⊢
  refine lv_iload_n (k := 0) hx hb (by decide +kernel) rfl (lv_at hl 0 rfl) ?_
  refine lv_if_lt hx hb (off := 8) (tgt := 9) (by decide +kernel) rfl (fun z => absurd z (Int32.not_lt.mpr h0)) (fun _ => ?_)
  refine lv_iload_n (k := 0) hx hb (by decide +kernel) rfl (lv_at hl 0 rfl) ?_
  refine lv_iload_n (k := 1) hx hb (by decide +kernel) rfl (lv_at hl 1 rfl) ?_
  refine lv_icmp_lt hx hb (off := 10) (tgt := 16) (by decide +kernel) rfl (fun _ => ?_) (fun z => absurd h1 z)
  refine lv_iload_n (k := 0) hx hb (by decide +kernel) rfl (lv_at hl 0 rfl) ?_
  exact W.iret hx hb hr (fun t ht hW => ⟨⟨some (.int _), M, N, rfl, ⟨rfl, rfl, rfl⟩, by rw [ht]; exact hP⟩, hS0.F ht⟩) hS0.2.2 (by decide +kernel) hlocks
abbrev zR_J0_checkIndex_df160 : Room := { frames := 1, cells := 0, slots := 0, locals := 22 }
set_option maxHeartbeats 4000000 in
theorem zM_J0_checkIndex_df160 (l : Launch) : ab_Met l zw_C vwCl zZ_C yJ0_checkIndex_df160 cJ0_checkIndex_df160 2 none zR_J0_checkIndex_df160 zt_J0_checkIndex_df160 := by
  refine ab_ofW rfl ?_
  intro p e s m args below meth c D cy ad as M N k hT
  unfold zt_J0_checkIndex_df160 at hT
  split at hT
  case h_2 => exact hT.elim
  rename_i i n
  obtain ⟨⟨h0, h1⟩, hk⟩ := hT
  refine ⟨Nat.le_of_ble_eq_true rfl, fun lsC hE hZ hl hP => ?_⟩
  obtain ⟨⟨hx, hb, hml, hown, hts⟩, hr, hlocks, -⟩ := id hE
  refine lv_iload_n (k := 0) hx hb (by decide +kernel) rfl (lv_at hl 0 rfl) ?_
  refine lv_iload_n (k := 1) hx hb (by decide +kernel) rfl (lv_at hl 1 rfl) ?_
  have go : ∀ v : Value, (v = .null ∨ ∃ t, v = .ref t) → W p l e zR_J0_checkIndex_df160 s m args below meth c s.heap [] 0 0 (MQ below (ab_Fin vwCl zw_C D cy ad (ab_A zw_C ad s.heap.size) k) args s 0 0 (ab_A zw_C ad s.heap.size)) (F0 m 5 lsC [v, .int n, .int i]) := by
    intro v hv
    have cw : CallB zR_J0_checkIndex_df160 s args RJ0 1059 yJ3_checkIndex_8e157 cJ3_checkIndex_8e157 3 (some .int) (Cond.code yJ3_checkIndex_8e157 cJ3_checkIndex_8e157 3 (some .int) :: ab_B) { frames := 0, cells := 0, slots := 0, locals := 0 } 0 0 3 := callB_of 3 hts (ab_goodC (ab_in 409 (by decide +kernel) rfl)) rfl rfl rfl (hts _ (ab_in 15 (by decide +kernel) rfl)) (hts _ (ab_in 407 (by decide +kernel) rfl)) (by decide +kernel) (by decide)
    have hrun := va_runS (p := p) (e := e) (R := zR_J0_checkIndex_df160) (m := m) (args := args) (below := below) (meth := meth) (c := c) (locs := []) (cells := 0) (slots := 0) (H := s.heap) (As := [.int i, .int n, v]) (rest := []) (g := F0 m 5 lsC [v, .int n, .int i]) ⟨hx, hb, hml, hown, hts⟩ (zJ3 l (Λ := zw_C) (cl := vwCl) (D := D) (cy := cy) (ad := ad) (sz := s.heap.size) (M := M) (N := N) h0 h1 hv) ⟨cw, hts _ (ab_in 408 (by decide +kernel) rfl)⟩
      ⟨fun a U g mk q => by obtain ⟨q0, q1, qP⟩ := q; exact ⟨q0, q1, qP⟩, fun U hU hW => ⟨rfl, by rw [hU], by rw [hU]; exact hP⟩⟩ rfl rfl hl.1 rfl (Nat.le_of_ble_eq_true rfl) (show decode cJ0_checkIndex_df160 5 = .ok (.invokestatic 1059, 3) by decide +kernel) ⟨Nat.zero_le _, Nat.zero_le _⟩
    refine ab_goes hrun va_S.rf ?_
    rintro r M2 N2 H2 locs2 ⟨rfl, rfl, rfl⟩ hP2 hS2
    refine lv_pop hx hb (by decide +kernel) rfl ?_
    exact W.vret hx hb hr (fun t ht hW => ⟨⟨none, M2, N2, rfl, hk, by rw [ht]; exact hP2⟩, hS2.F ht⟩) hS2.2.2 (by decide +kernel) hlocks
  rcases hZ.2.2.2.2.2.2.2.1 with z | ⟨t, z⟩
  · exact va_gets (index := 1053) hx hb z va_S.rf hown (hts _ (ab_in 405 (by decide +kernel) rfl)) (fun _ h => h) (by decide +kernel) (go _ (Or.inl rfl))
  · exact va_gets (index := 1053) hx hb z va_S.rf hown (hts _ (ab_in 405 (by decide +kernel) rfl)) (fun _ h => h) (by decide +kernel) (go _ (Or.inr ⟨t, rfl⟩))
theorem zs_lnI : ∀ j, j < 2 → (Int32.ofNat (zs_ln j)).toInt = zs_ln j := by decide +kernel
theorem zs_chok : ∀ j, j < 2 → ∀ i, i < zs_ln j → ((zs_ch j i &&& 255).toUInt32 % 65536).toInt32 = zs_ch j i ∧ (zs_ch j i).toUInt32.toUInt16.toUInt32.toInt32 = zs_ch j i := by decide +kernel
abbrev zR_J1_charAt_3b067 : Room := { frames := 2, cells := 0, slots := 0, locals := 43 }
set_option maxHeartbeats 4000000 in
theorem zM_J1_charAt_3b067 (l : Launch) : ab_Met l zw_C vwCl zZ_C yJ1_charAt_3b067 cJ1_charAt_3b067 2 (some .char) zR_J1_charAt_3b067 zt_J1_charAt_3b067 := by
  refine ab_ofW rfl ?_
  intro p e s m args below meth c D cy ad as M N k hT
  obtain ⟨j, r, P, v, hj, rfl, e1, hP0, hk⟩ := zt_tx_e hT
  match r, e1 with
  | [.int i], e1 =>
    cases e1
    refine ⟨Nat.le_of_ble_eq_true rfl, fun lsC hE hZ hl hP => ?_⟩
    obtain ⟨⟨hx, hb, hml, hown, hts⟩, hr, hlocks, -⟩ := id hE
    obtain ⟨g1, g2, g3⟩ := zJ_s hj hZ
    have hS0 : va_S (ab_A zw_C ad s.heap.size) s.heap s.heap [] := va_S.rf
    refine lv_iload_n (k := 1) hx hb (by decide +kernel) rfl (lv_at hl 1 rfl) ?_
    refine lv_aload_n (k := 0) hx hb (by decide +kernel) rfl (lv_at hl 0 rfl) ?_
    refine va_tlen hx hb g3 va_S.rf rfl (by decide +kernel) ?_
    have hc : ab_Call l RJ1 zR_J1_charAt_3b067 zw_C vwCl zZ_C .invokestatic 9 2 zt_J0_checkIndex_df160 := ab_callS zZ_C_ok (zM_J0_checkIndex_df160 l) (ab_in 404 (by decide +kernel) rfl) (ab_in 402 (by decide +kernel) rfl) (ab_in 403 (by decide +kernel) rfl) (ab_in 13 (by decide +kernel) rfl) (by unfold ab_yok; decide +kernel) ⟨rfl, rfl⟩ (by decide)
    obtain ⟨q1, q2⟩ := vp_in_iff.mp hP0
    have hln : (Int32.ofNat (zs_ln j)).toInt = zs_ln j := zs_lnI j hj
    refine hc p e s m args below meth c _ 2 _ D cy ad _ 0 0 (Nat.zero_le _) (Nat.zero_le _) hE hZ 3 s.heap [] lsC [.int i, .int (Int32.ofNat (zs_ln j))] [] M N (fun r M2 N2 => r = none ∧ M2 = M ∧ N2 = N) (by decide +kernel) rfl (by decide) hl.1 hP va_S.rf ⟨⟨?_, ?_⟩, rfl, rfl, rfl⟩ ?_
    · exact Int32.le_iff_toInt_le.mpr q1
    · exact Int32.lt_iff_toInt_lt.mpr (by rw [hln]; exact q2)
    · rintro r M2 N2 H2 locs2 ⟨rfl, rfl, rfl⟩ hP2 hS2
      refine lv_aload_n (k := 0) hx hb (by decide +kernel) rfl (lv_at hl 0 rfl) ?_
      refine lv_iload_n (k := 1) hx hb (by decide +kernel) rfl (lv_at hl 1 rfl) ?_
      refine va_tb hx hb g3 hS2 hP0 rfl (by decide +kernel) ?_
      refine lv_sipush hx hb (n := 255) (v := 255) (by decide +kernel) rfl ?_
      refine lv_iand hx hb (by decide +kernel) ?_
      obtain ⟨w1, w2⟩ := zs_chok j hj i.toNatClampNeg (Nat.not_le.mp fun q => hP0 (Or.inr q))
      refine lv_i2c hx hb (by decide +kernel) w1 ?_
      exact W.zret hx hb hr (show Value.int _ = Value.int _ by rw [w2]) (fun t ht hW => ⟨⟨some (.int _), M2, N2, rfl, hk, by rw [ht]; exact hP2⟩, hS2.F ht⟩) hS2.2.2 (by decide +kernel) hlocks
abbrev zR_J0_charAt_5068e : Room := { frames := 3, cells := 0, slots := 0, locals := 64 }
set_option maxHeartbeats 4000000 in
theorem zM_J0_charAt_5068e (l : Launch) : ab_Met l zw_C vwCl zZ_C yJ0_charAt_5068e cJ0_charAt_5068e 2 (some .char) zR_J0_charAt_5068e zt_J0_charAt_5068e := by
  refine ab_ofW rfl ?_
  intro p e s m args below meth c D cy ad as M N k hT
  obtain ⟨j, r, P, v, hj, rfl, e1, hP0, hk⟩ := zt_tx_e hT
  match r, e1 with
  | [.int i], e1 =>
    cases e1
    refine ⟨Nat.le_of_ble_eq_true rfl, fun lsC hE hZ hl hP => ?_⟩
    obtain ⟨⟨hx, hb, hml, hown, hts⟩, hr, hlocks, -⟩ := id hE
    obtain ⟨g1, g2, g3⟩ := zJ_s hj hZ
    have hS0 : va_S (ab_A zw_C ad s.heap.size) s.heap s.heap [] := va_S.rf
    refine lv_aload_n (k := 0) hx hb (by decide +kernel) rfl (lv_at hl 0 rfl) ?_
    have hc : ab_Call l RJ0 zR_J0_charAt_5068e zw_C vwCl zZ_C .invokevirtual 492 1 zt_J0_isLatin1_aae02 := ab_callT (zM_J0_isLatin1_aae02 l) rfl (ab_in 398 (by decide +kernel) rfl) (ab_in 395 (by decide +kernel) rfl) (ab_in 396 (by decide +kernel) rfl) (ab_in 397 (by decide +kernel) rfl) (ab_in 13 (by decide +kernel) rfl) (by unfold ab_yok; decide +kernel) ⟨rfl, rfl⟩ (by decide) zt_tx_r
    refine hc p e s m args below meth c _ 2 _ D cy ad _ 0 0 (Nat.zero_le _) (Nat.zero_le _) hE hZ 1 s.heap [] lsC [.ref (60 + j)] [] M N (fun r M2 N2 => r = some (.int 1) ∧ M2 = M ∧ N2 = N) (by decide +kernel) rfl (Nat.le_of_ble_eq_true rfl) hl.1 hP va_S.rf ?_ ?_
    · exact zt_tx_i hj rfl trivial ⟨rfl, rfl, rfl⟩
    · rintro r M2 N2 H2 locs2 ⟨rfl, rfl, rfl⟩ hP2 hS2
      refine lv_if_eq hx hb (off := 12) (tgt := 16) (by decide +kernel) rfl (fun z => absurd z (by decide)) (fun _ => ?_)
      refine lv_aload_n (k := 0) hx hb (by decide +kernel) rfl (lv_at hl 0 rfl) ?_
      refine vk_getf (index := 9) hx hb g2 hS2 hown (hts _ (ab_in 1541 (by decide +kernel) rfl)) (fun _ h => h) (by decide +kernel) ?_
      refine lv_iload_n (k := 1) hx hb (by decide +kernel) rfl (lv_at hl 1 rfl) ?_
      have hc2 : ab_Call l RJ0 zR_J0_charAt_5068e zw_C vwCl zZ_C .invokestatic 495 2 zt_J1_charAt_3b067 := ab_callS zZ_C_ok (zM_J1_charAt_3b067 l) (ab_in 401 (by decide +kernel) rfl) (ab_in 399 (by decide +kernel) rfl) (ab_in 400 (by decide +kernel) rfl) (ab_in 14 (by decide +kernel) rfl) (by unfold ab_yok; decide +kernel) ⟨rfl, rfl⟩ (by decide)
      refine hc2 p e s m args below meth c _ 2 _ D cy ad _ 0 0 (Nat.zero_le _) (Nat.zero_le _) hE hZ 12 H2 locs2 lsC [.ref (62 + j), .int i] [] M2 N2 (fun r M3 N3 => r = some (.int (zs_ch j i.toNatClampNeg)) ∧ M3 = M2 ∧ N3 = N2) (by decide +kernel) rfl (by decide) hl.1 hP2 hS2 ?_ ?_
      · exact zt_tx_i hj rfl hP0 ⟨rfl, rfl, rfl⟩
      · rintro r M3 N3 H3 locs3 ⟨rfl, rfl, rfl⟩ hP3 hS3
        obtain ⟨w1, w2⟩ := zs_chok j hj i.toNatClampNeg (Nat.not_le.mp fun q => hP0 (Or.inr q))
        exact W.zret hx hb hr (show Value.int _ = Value.int _ by rw [w2]) (fun t ht hW => ⟨⟨some (.int _), M3, N3, rfl, hk, by rw [ht]; exact hP3⟩, hS3.F ht⟩) hS3.2.2 (by decide +kernel) hlocks
