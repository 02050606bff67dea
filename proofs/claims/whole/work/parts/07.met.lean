/-! contracts: a method meets its transformer *)
-/
def ab_A (Λ : List ab_L) (ad : Nat → Nat) (sz : Nat) : Nat → Prop := fun q => (∃ k, k < Λ.length ∧ q = ad k) ∨ sz ≤ q
abbrev ab_Zt : Type := (Nat → Nat) → (Nat → Prop) → State → Heap → Prop
/-- what is said of the statics: it stays as long as nothing old is changed -/
def ab_ZOK (Z : ab_Zt) : Prop := (∀ ad A s U H, s.WarmedH U.vm → Z ad A s H → Z ad A U H) ∧ (∀ ad A U U2 H, U2.vm = U.vm → Z ad A U H → Z ad A U2 H) ∧ (∀ ad A U (H H1 : Heap), (∀ a : Nat, a < H.size → ¬ A a → H1[a]? = H[a]?) → Z ad A U H → Z ad A U H1) ∧ (∀ ad (A B : Nat → Prop) U H, (∀ q, B q → A q) → Z ad A U H → Z ad B U H)
def ab_Pre (Λ : List ab_L) (cl : List vw_C) (Z : ab_Zt) (D : va_G) (cy : FieldType → ClassId) (ad : Nat → Nat) (sz : Nat) (as : List Value) (M : ab_M) (N : ab_N) : Array Value → State → Prop := va_Pc (as.map (ab_c ad)) (fun U => U.heap.size = sz ∧ va_P D cl (ab_w Λ ad cy M N) U.heap ∧ va_K D cl (ab_tys cy) U ∧ Z ad (ab_A Λ ad sz) U U.heap)
def ab_inj (Λ : List ab_L) (ad : Nat → Nat) : Prop := ∀ i j, i < Λ.length → j < Λ.length → ad i = ad j → i = j
def ab_Met (l : Launch) (Λ : List ab_L) (cl : List vw_C) (Z : ab_Zt) (y : MethodName) (bytes : ByteArray) (nL : Nat) (ret : Option FieldType) (rm : Room) (T : ab_T) : Prop := ∀ (D : va_G) (cy : FieldType → ClassId) (ad : Nat → Nat) (sz : Nat) (as : List Value) (M : ab_M) (N : ab_N) (k : ab_R), ab_inj Λ ad → T as M N k → Met l y (Cond.code y bytes nL ret :: ab_B) rm (ab_Pre Λ cl Z D cy ad sz as M N) (ab_Fin cl Λ D cy ad (ab_A Λ ad sz) k) 0 0 (ab_A Λ ad sz)
def ab_CstOK (Z : ab_Zt) (own : String) (cst : List (Nat × Value)) : Prop := ∀ (p : Program) (l : Launch) (e : Env) (R : Room) (s : State) (m : MethodId) (args : Array Value) (below : List Frame) (meth : Method) (c : Code) (cc : ByteArray) (ad : Nat → Nat) (A : Nat → Prop) (Qm : State → Prop) (ck sk : Nat), p.tables.exec = Jvm.exec → c.code = cc → s.vm.findClass own = some m.cls → (∀ w ∈ ab_B, w.before args s = true) → Z ad A s s.heap → ab_Cst p l e R s m args below meth c cc ad A Qm ck sk cst
def ab_StaOK (Z : ab_Zt) (own : String) (sta : List (Nat × Nat)) : Prop := ∀ (p : Program) (l : Launch) (e : Env) (R : Room) (s : State) (m : MethodId) (args : Array Value) (below : List Frame) (meth : Method) (c : Code) (cc : ByteArray) (ad : Nat → Nat) (A : Nat → Prop) (Qm : State → Prop) (ck sk : Nat), p.tables.exec = Jvm.exec → c.code = cc → s.vm.findClass own = some m.cls → (∀ w ∈ ab_B, w.before args s = true) → Z ad A s s.heap → ab_Sta p l e R s m args below meth c cc ad A Qm ck sk sta
def ab_TabOK (Z : ab_Zt) (tab : List (Nat × Nat × (Nat → Int32))) : Prop := ∀ (p : Program) (l : Launch) (e : Env) (R : Room) (s : State) (m : MethodId) (args : Array Value) (below : List Frame) (meth : Method) (c : Code) (cc : ByteArray) (ad : Nat → Nat) (A : Nat → Prop) (Qm : State → Prop) (ck sk : Nat), p.tables.exec = Jvm.exec → c.code = cc → Z ad A s s.heap → ab_Tab p l e R s m args below meth c cc ad A Qm ck sk tab
/-- a call at an index, from a method of a class with room rm -/
def ab_Call (l : Launch) (own : String) (rm : Room) (Λ : List ab_L) (cl : List vw_C) (Z : ab_Zt) (op : Nat → Instr) (i n : Nat) (T : ab_T) : Prop := ∀ (p : Program) (e : Env) (s : State) (m : MethodId) (args : Array Value) (below : List Frame) (meth : Method) (c : Code) (cc : ByteArray) (nL : Nat) (ret : Option FieldType) (D : va_G) (cy : FieldType → ClassId) (ad : Nat → Nat) (Qm : State → Prop) (ck sk : Nat), ck ≤ rm.cells → sk ≤ rm.slots → ab_Env p s m args meth c cc own nL ret cl Λ D cy ad (ab_A Λ ad s.heap.size) → Z ad (ab_A Λ ad s.heap.size) s s.heap →
  ∀ (pc : Nat) (H : Heap) (locs : List Loc) (lsC : Array Slot) (as rest : List Value) (M : ab_M) (N : ab_N) (k : ab_R), decode cc pc = .ok (op i, 3) → as.length = n → (rest.map fun v => v.category).sum ≤ 8 → lsC.size = nL → va_P D cl (ab_w Λ ad cy M N) H → va_S (ab_A Λ ad s.heap.size) s.heap H locs → T as M N k →
  (∀ (r : Option Value) (M2 : ab_M) (N2 : ab_N) (H2 : Heap) (locs2 : List Loc), k r M2 N2 → va_P D cl (ab_w Λ ad cy M2 N2) H2 → va_S (ab_A Λ ad s.heap.size) s.heap H2 locs2 → W p l e rm s m args below meth c H2 locs2 ck sk Qm (F0 m (pc + 3) lsC ((r.map (ab_c ad)).toList ++ rest))) →
  W p l e rm s m args below meth c H locs ck sk Qm (F0 m pc lsC ((as.map (ab_c ad)).reverse ++ rest))
def ab_Calls (l : Launch) (own : String) (rm : Room) (Λ : List ab_L) (cl : List vw_C) (Z : ab_Zt) (op : Nat → Instr) (inv : List (Nat × Nat × ab_T)) : Prop := ∀ q ∈ inv, ab_Call l own rm Λ cl Z op q.1 q.2.1 q.2.2
theorem ab_ls_cs (ad : Nat → Nat) : ∀ as : List Value, (lg_sl (as.map (ab_c ad))).length = ab_cs as
  | [] => rfl
  | v :: r => by
    have ih := ab_ls_cs ad r
    simp only [lg_sl, List.map_cons, List.flatMap_cons, List.length_append] at ih ⊢
    rw [ih, ab_cs, ab_c_cat]
    rcases lv_cat v with h | h
    · simp [h]
    · simp [h]
set_option maxHeartbeats 4000000 in
theorem ab_ofRun {l : Launch} {Λ : List ab_L} {cl : List vw_C} {Z : ab_Zt} {y : MethodName} {bytes : ByteArray} {nL : Nat} {ret : Option FieldType} {rm : Room} {T : ab_T} {G : ab_G} {P : ab_P} (hΛ : G.1 = Λ) (hok : ab_ok bytes P = true) (hy : plainName y.cls = true) (hcl : ab_Cl cl) (hlam : ab_Lam cl Λ) (hfld : ab_Fld y.cls cl G.2.2.1)
    (htab : ab_TabOK Z G.2.1) (hcst : ab_CstOK Z y.cls G.2.2.2.1) (hsta : ab_StaOK Z y.cls G.2.2.2.2.1) (hinv : ab_Calls l y.cls rm Λ cl Z .invokevirtual G.2.2.2.2.2.1) (hinvS : ab_Calls l y.cls rm Λ cl Z .invokestatic G.2.2.2.2.2.2)
    (hrun : ∀ (as : List Value) (M : ab_M) (N : ab_N) (k : ab_R), T as M N k → ab_cs as ≤ nL ∧ ab_Run G P ret nL k 0 (ab_en as) [] M N) : ab_Met l Λ cl Z y bytes nL ret rm T := by
  intro D cy ad sz as M N k hinj hT
  refine Met.ofW (cc := bytes) (maxL := nL) (ret := ret) hy rfl ?_
  intro p e s m args below meth c s₁ B hml hv
  obtain ⟨rfl, hsz, hP, hK, hZ⟩ := hv
  have hts := atoms_spec (ws := Cond.code y bytes nL ret :: ab_B) B.pre
  have hown : s.vm.findClass y.cls = some m.cls := findClass_of_methodNamed B.named
  have hlocks := B.notSynchronized
  subst hsz
  obtain ⟨hcs, hR⟩ := hrun as M N k hT
  have htsB : ∀ w ∈ ab_B, w.before (as.map (ab_c ad)).toArray s = true := fun w hw => hts w (List.mem_cons_of_mem _ hw)
  have hE : ab_Env p s m (as.map (ab_c ad)).toArray meth c bytes y.cls nL ret cl Λ D cy ad (ab_A Λ ad s.heap.size) := ⟨⟨B.exec, B.bytes, hml, hown, htsB⟩, B.returns, hlocks, hK, hinj, fun j hj => Or.inl ⟨j, hj, rfl⟩, fun q h => Or.inr h⟩
  have hl := lv_entry (as.map (ab_c ad)) (n := nL) (by rw [ab_ls_cs]; exact hcs)
  rw [lg_entry_eq]
  have key := hR (ab_X p l e rm s m (as.map (ab_c ad)).toArray below meth c nL cl Λ D cy ad (ab_A Λ ad s.heap.size) (MQ below (ab_Fin cl Λ D cy ad (ab_A Λ ad s.heap.size) k) (as.map (ab_c ad)).toArray s 0 0 (ab_A Λ ad s.heap.size)) 0 0) ab_X_up
    (fun pc ls st M2 N2 h => ab_step hE hΛ hok hcl hfld hlam rfl (htab _ _ _ _ _ _ _ _ _ _ _ _ _ _ _ _ B.exec B.bytes hZ) (hcst _ _ _ _ _ _ _ _ _ _ _ _ _ _ _ _ B.exec B.bytes hown htsB hZ) (hsta _ _ _ _ _ _ _ _ _ _ _ _ _ _ _ _ B.exec B.bytes hown htsB hZ) (fun i n T2 hi => hinv _ (ab_a_in _ _ _ hi) p e s m _ below meth c bytes nL ret D cy ad _ 0 0 (Nat.zero_le _) (Nat.zero_le _) hE hZ) (fun i n T2 hi => hinvS _ (ab_a_in _ _ _ hi) p e s m _ below meth c bytes nL ret D cy ad _ 0 0 (Nat.zero_le _) (Nat.zero_le _) hE hZ) pc ls st M2 N2 h)
  exact key s.heap [] _ hP va_S.rf (ab_lh_mono hl (fun j v h => by
    have := ab_en_in ad as 0 j v h
    rwa [Nat.zero_add] at this))
theorem ab_A_sub {Λ : List ab_L} {ad : Nat → Nat} {a b : Nat} (h : a ≤ b) : ∀ q, ab_A Λ ad b q → ab_A Λ ad a q := fun q hq => hq.elim Or.inl (fun z => Or.inr (Nat.le_trans h z))
theorem ab_Z_at {Z : ab_Zt} (hZ : ab_ZOK Z) {Λ : List ab_L} {ad : Nat → Nat} {s U : State} {H : Heap} {locs : List Loc} (h : Z ad (ab_A Λ ad s.heap.size) s s.heap) (hS : va_S (ab_A Λ ad s.heap.size) s.heap H locs) (hW : s.WarmedH U.vm) : Z ad (ab_A Λ ad H.size) U H :=
  hZ.1 ad _ s U H hW (hZ.2.2.2 ad _ _ s H (ab_A_sub hS.1) (hZ.2.2.1 ad _ s s.heap H (fun a h1 h2 => hS.2.1 a h1 h2) h))
theorem ab_blind {Z : ab_Zt} (hZ : ab_ZOK Z) {Λ : List ab_L} {cl : List vw_C} {D : va_G} {cy : FieldType → ClassId} {ad : Nat → Nat} {sz : Nat} {as : List Value} {M : ab_M} {N : ab_N} : FrameBlind (ab_Pre Λ cl Z D cy ad sz as M N) := fun a U g mk q => by
  obtain ⟨q0, q1, qP, qK, qZ⟩ := q
  exact ⟨q0, q1, qP, va_K.moved (u := U) (U := U.calling g mk a) (Vm.Alike.refl U.vm) qK, hZ.2.1 ad _ U (U.calling g mk a) _ rfl qZ⟩
/-- behind a run of a call -/
theorem ab_goes {ck sk : Nat} {p : Program} {l : Launch} {e : Env} {R : Room} {s : State} {m : MethodId} {args : Array Value} {below : List Frame} {meth : Method} {c : Code} {H : Heap} {locs : List Loc} {Qm : State → Prop} {pc : Nat} {lsC : Array Slot} {st0 rest : List Value} {a : Array Value} {cl : List vw_C} {Λ : List ab_L} {D : va_G} {cy : FieldType → ClassId} {ad : Nat → Nat} {k : ab_R}
    (hr : va_Run p l e R s m args below meth c H locs ck sk 0 0 (F0 m pc lsC st0) rest (ab_Fin cl Λ D cy ad (ab_A Λ ad H.size) k a) (ab_A Λ ad H.size)) (hS : va_S (ab_A Λ ad s.heap.size) s.heap H locs)
    (kk : ∀ (r : Option Value) (M2 : ab_M) (N2 : ab_N) (H2 : Heap) (locs2 : List Loc), k r M2 N2 → va_P D cl (ab_w Λ ad cy M2 N2) H2 → va_S (ab_A Λ ad s.heap.size) s.heap H2 locs2 → W p l e R s m args below meth c H2 locs2 ck sk Qm (F0 m (pc + 3) lsC ((r.map (ab_c ad)).toList ++ rest))) : W p l e R s m args below meth c H locs ck sk Qm (F0 m pc lsC st0) := by
  intro T hT X
  obtain ⟨v, st₀, t, T', L, h0, X', hL, e1, e2, ⟨⟨r, M2, N2, hv, hp, hb⟩, hz, hk⟩, st⟩ := hr T hT X
  cases hv
  rw [h0] at hz hk
  have hA := ab_A_sub (Λ := Λ) (ad := ad) hS.1
  obtain ⟨t2, a1, b1⟩ := kk r M2 N2 T'.heap (locs ++ L) hp (by rw [e1]; exact hb)
    ⟨Nat.le_trans hS.1 (by rw [e1]; exact hz), fun q h1 h2 => by rw [e1, hk q (Nat.lt_of_lt_of_le h1 hS.1) (fun z => h2 (hA q z))]; exact hS.2.1 q h1 h2, fun q hq => by
      rcases List.mem_append.mp hq with h | h
      · exact hS.2.2 q h
      · exact hA _ (hL q h)⟩ T' rfl X'
  exact ⟨t2, st t2 a1, b1⟩
theorem ab_goodC {y : MethodName} {bytes : ByteArray} {nL : Nat} {ret : Option FieldType} (h : Cond.code y bytes nL ret ∈ ab_B) : GoodIn ab_B (Cond.code y bytes nL ret :: ab_B) := fun w hw => by
  rcases List.mem_cons.mp hw with rfl | hw
  · exact ab_goodIn _ h
  · exact ab_goodIn _ hw
def ab_yok (y : MethodName) (n : Nat) : Prop := y.cls ≠ "java/lang/invoke/MethodHandle" ∧ y.cls ≠ "java/lang/invoke/VarHandle" ∧ (parseMethodDescriptor y.desc).map (fun d => d.parameters.length) = some n
def ab_recv (Λ : List ab_L) (cl : List vw_C) (C : String) (T : ab_T) : Prop := ∀ (as : List Value) (M : ab_M) (N : ab_N) (k : ab_R), T as M N k → ∃ (k0 : Nat) (as2 : List Value) (ci : Nat) (fs : List (Nat ⊕ FieldType)) (T0 : u_T) (N0 : Nat), as = .ref k0 :: as2 ∧ Λ[k0]? = some (.inl (ci, fs)) ∧ cl[ci]? = some (C, T0, N0)
set_option maxHeartbeats 4000000 in
/-- a call of an instance method -/
theorem ab_callV {l : Launch} {own : String} {rm rmC : Room} {Λ : List ab_L} {cl : List vw_C} {Z : ab_Zt} {i n : Nat} {T : ab_T} {y : MethodName} {bytes : ByteArray} {nLC : Nat} {retC : Option FieldType} (hZ : ab_ZOK Z) (hM : ab_Met l Λ cl Z y bytes nLC retC rmC T) (hcode : Cond.code y bytes nLC retC ∈ ab_B) (hlink : Cond.methodLink own i y ∈ ab_B) (hins : Cond.instanceMethod y ∈ ab_B) (hsel : Cond.selects y.cls y y ∈ ab_B) (hini : Cond.initialized y.cls ∈ ab_B) (hy : ab_yok y n) (hr0 : rmC.cells = 0 ∧ rmC.slots = 0) (hroom : rmC.frames + 1 ≤ rm.frames ∧ 8 + (nLC + 11) + rmC.locals ≤ rm.locals) (hrecv : ab_recv Λ cl y.cls T) : ab_Call l own rm Λ cl Z .invokevirtual i (n + 1) T := by
  intro p e s m args below meth c cc nL ret D cy ad Qm ck sk hck hsk hE hZs pc H locs lsC as rest M N k hdec hlen hcat hsz hP hS hT kk
  obtain ⟨⟨hx, hb, hml, hown, hts⟩, hr, hlocks, hK, hinj, hAad, hA⟩ := hE
  obtain ⟨k0, as2, ci, fs, T0, N0, rfl, e2, e3⟩ := hrecv as M N k hT
  have hst : ((Value.ref k0 :: as2).map (ab_c ad)).reverse ++ rest = (as2.map (ab_c ad)).reverse ++ Value.ref (ad k0) :: rest := by simp [ab_c]
  rw [hst]
  have cw : CallW rm s args own y.cls i y bytes nLC retC (Cond.code y bytes nLC retC :: ab_B) rmC 0 0 n := ⟨callB_of n hts (ab_goodC hcode) rfl hr0.1 hr0.2 (hts _ hini) (hts _ hlink) hy hroom, hts _ hins, hts _ hsel⟩
  have hrun := va_runV (p := p) (e := e) (R := rm) (m := m) (args := args) (below := below) (meth := meth) (c := c) (locs := locs) (cells := ck) (slots := sk) (As := as2.map (ab_c ad)) (rest := rest) (g := F0 m pc lsC ((as2.map (ab_c ad)).reverse ++ Value.ref (ad k0) :: rest)) (b := ad k0) ⟨hx, hb, hml, hown, hts⟩ (hM D cy ad H.size (Value.ref k0 :: as2) M N k hinj hT) cw
    ⟨ab_blind hZ, va_recv hK hP e3 (ab_w_at e2), fun U hU hW => ⟨by simp [ab_c], by rw [hU], by rw [hU]; exact hP, va_K.moved hW.alike hK, by rw [hU]; exact ab_Z_at hZ hZs hS hW⟩⟩ rfl (by simpa using hlen) hsz rfl (lv_room (m := m) (pc := pc) (ls := lsC) (rest := (as2.map (ab_c ad)).reverse ++ Value.ref (ad k0) :: rest) hcat) hdec ⟨hck, hsk⟩
  exact ab_goes hrun hS kk
set_option maxHeartbeats 4000000 in
/-- a call of a static method -/
theorem ab_callS {l : Launch} {own : String} {rm rmC : Room} {Λ : List ab_L} {cl : List vw_C} {Z : ab_Zt} {i n : Nat} {T : ab_T} {y : MethodName} {bytes : ByteArray} {nLC : Nat} {retC : Option FieldType} (hZ : ab_ZOK Z) (hM : ab_Met l Λ cl Z y bytes nLC retC rmC T) (hcode : Cond.code y bytes nLC retC ∈ ab_B) (hlink : Cond.methodLink own i y ∈ ab_B) (hstt : Cond.static y ∈ ab_B) (hini : Cond.initialized y.cls ∈ ab_B) (hy : ab_yok y n) (hr0 : rmC.cells = 0 ∧ rmC.slots = 0) (hroom : rmC.frames + 1 ≤ rm.frames ∧ 8 + (nLC + 11) + rmC.locals ≤ rm.locals) : ab_Call l own rm Λ cl Z .invokestatic i n T := by
  intro p e s m args below meth c cc nL ret D cy ad Qm ck sk hck hsk hE hZs pc H locs lsC as rest M N k hdec hlen hcat hsz hP hS hT kk
  obtain ⟨⟨hx, hb, hml, hown, hts⟩, hr, hlocks, hK, hinj, hAad, hA⟩ := hE
  have cw : CallB rm s args own i y bytes nLC retC (Cond.code y bytes nLC retC :: ab_B) rmC 0 0 n := callB_of n hts (ab_goodC hcode) rfl hr0.1 hr0.2 (hts _ hini) (hts _ hlink) hy hroom
  have hrun := va_runS (p := p) (e := e) (R := rm) (m := m) (args := args) (below := below) (meth := meth) (c := c) (locs := locs) (cells := ck) (slots := sk) (As := as.map (ab_c ad)) (rest := rest) (g := F0 m pc lsC ((as.map (ab_c ad)).reverse ++ rest)) ⟨hx, hb, hml, hown, hts⟩ (hM D cy ad H.size as M N k hinj hT) ⟨cw, hts _ hstt⟩
    ⟨ab_blind hZ, fun U hU hW => ⟨rfl, by rw [hU], by rw [hU]; exact hP, va_K.moved hW.alike hK, by rw [hU]; exact ab_Z_at hZ hZs hS hW⟩⟩ rfl (by simpa using hlen) hsz rfl (lv_room (m := m) (pc := pc) (ls := lsC) (rest := (as.map (ab_c ad)).reverse ++ rest) hcat) hdec ⟨hck, hsk⟩
  exact ab_goes hrun hS kk
