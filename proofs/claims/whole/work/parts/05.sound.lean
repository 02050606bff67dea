/-! what the machine's runs say of W -/
def ab_B : List Cond := lw_tbl.filter goodWord
theorem ab_in {w : Cond} (i : Nat) (h : tables_1[i]? = some w) (g : goodWord w = true) : w ∈ ab_B := List.mem_filter.mpr ⟨List.mem_append_right _ (List.mem_of_getElem? h), g⟩
theorem ab_inS {w : Cond} (h : w ∈ k2_sels lw_privs) (g : goodWord w = true) : w ∈ ab_B := List.mem_filter.mpr ⟨List.mem_append_left _ h, g⟩
theorem ab_good : ∀ w ∈ ab_B, goodWord w = true := fun _ h => (List.mem_filter.mp h).2
theorem ab_goodIn : GoodIn ab_B ab_B := fun w h => ⟨h, good_of_word (ab_good w h)⟩
theorem ab_lwIn : ∀ w ∈ ab_B, w ∈ lw_tbl := fun _ h => (List.mem_filter.mp h).1
def ab_tys (cy : FieldType → ClassId) : List (ClassId × FieldType) := [(cy .int, .int), (cy .long, .long), (cy .boolean, .boolean)]
/-- how long an instruction is -/
def ab_len (pc nx : Nat) : Instr → Nat
  | .aload _ | .iload _ | .lload _ | .istore _ | .astore _ | .lstore _ | .bipush _ | .ldc _ => 2
  | .iinc _ _ | .sipush _ | .ifCond _ _ | .if_icmp _ _ | .goto _ | .getfield _ | .putfield _ | .getstatic _ | .ldc_w _ | .ldc2_w _ | .invokevirtual _ | .invokestatic _ | .invokespecial _ => 3
  | .tableswitch _ _ _ _ => nx - pc
  | _ => 1
def ab_swok (pc : Nat) (d : Int) : Int → List Int → List Int32 → List Nat → Bool
  | _, [], [], [] => true
  | lo, o :: os, k :: ks, t :: ts => decide (k.toInt = lo) && decide ((pc : Int) + o = (t : Int)) && ab_swok pc d (lo + 1) os ks ts
  | _, _, _, _ => false
def ab_arg (pc nx : Nat) (tg : List Nat) (ks : List Int32) : Instr → Bool
  | .aload_n k | .iload_n k | .lload_n k | .istore_n k | .astore_n k | .lstore_n k => decide (tg = [(k : Nat)]) && decide (nx = pc + 1)
  | .iconst n => decide (ks = [Int32.ofInt n]) && decide (nx = pc + 1)
  | .bipush n => decide (ks = [(Int8.ofInt n).toInt32]) && decide (nx = pc + 2)
  | .sipush n => decide (ks = [(Int16.ofInt n).toInt32]) && decide (nx = pc + 3)
  | .lconst n => decide (tg = [(n : Nat)]) && decide (nx = pc + 1)
  | .iinc _ n => decide (ks = [Int32.ofInt n]) && decide (nx = pc + 3)
  | .ifCond _ o | .if_icmp _ o | .goto o => decide ((pc : Int) + o = (ab_h tg : Int)) && decide (nx = pc + 3)
  | .tableswitch d lo hi os => decide ((pc : Int) + d = (ab_h tg : Int)) && decide (hi = lo + os.size - 1) && ab_swok pc d lo os.toList ks (ab_tl tg)
  | i => decide (nx = pc + ab_len pc nx i)
def ab_okq (cc : ByteArray) (pc : Nat) (q : ab_Q) : Bool := match q with
  | (ins, nx, tg, ks) => decide (decode cc pc = .ok (ins, ab_len pc nx ins)) && ab_arg pc nx tg ks ins
def ab_ok (cc : ByteArray) (P : ab_P) : Bool := P.all (fun e => ab_okq cc e.1 e.2)
theorem ab_a_in {α : Type} : ∀ (l : List (Nat × α)) (n : Nat) (v : α), ab_a l n = some v → (n, v) ∈ l
  | [], _, _, h => by cases h
  | q :: r, n, v, h => by
    unfold ab_a at h
    split at h
    · rename_i hb
      cases h
      rw [← Nat.eq_of_beq_eq_true hb]
      exact List.mem_cons_self
    · exact List.mem_cons_of_mem _ (ab_a_in r n v h)
theorem ab_ok_q {cc : ByteArray} {P : ab_P} (h : ab_ok cc P = true) {pc : Nat} {ins : Instr} {nx : Nat} {tg : List Nat} {ks : List Int32} (hq : ab_a P pc = some (ins, nx, tg, ks)) : decode cc pc = .ok (ins, ab_len pc nx ins) ∧ ab_arg pc nx tg ks ins = true := by
  have h1 := List.all_eq_true.mp h _ (ab_a_in P pc _ hq)
  simpa [ab_okq] using h1
/-- a world's classes and fields, as the words say -/
def ab_Cl (cl : List vw_C) : Prop := ∀ (ci : Nat) (C : String) (T : u_T) (N : Nat), cl[ci]? = some (C, T, N) → (∀ w ∈ u_ws C T N, w ∈ ab_B) ∧ (∃ ty0 : Nat → FieldType, ∀ k, k < N → parseFieldDescriptor (T k).2.2.1 = some (ty0 k)) ∧ ∀ a, a < N → ∀ b, b < N → a ≠ b → (T a).2.1 ≠ (T b).2.1
def ab_Fld (own : String) (cl : List vw_C) (fld : List (Nat × Nat × Nat)) : Prop := ∀ i ci j, ab_a fld i = some (ci, j) → ∃ (C : String) (T : u_T) (N : Nat), cl[ci]? = some (C, T, N) ∧ j < N ∧ Cond.fieldLink own i (T j).1 (T j).2.1 (T j).2.2.1 ∈ ab_B
/-- a field that is a number: not final, its type -/
def ab_Lam (cl : List vw_C) (Λ : List ab_L) : Prop := ∀ (k ci : Nat) (fs : List (Nat ⊕ FieldType)) (j : Nat) (ty : FieldType), Λ[k]? = some (.inl (ci, fs)) → fs[j]? = some (.inr ty) → ∃ (C : String) (T : u_T) (N : Nat), cl[ci]? = some (C, T, N) ∧ parseFieldDescriptor (T j).2.2.1 = some ty ∧ (T j).2.2.2 = false
section AbW
variable {p : Program} {l : Launch} {e : Env} {R : Room} {s : State} {m : MethodId} {args : Array Value} {below : List Frame} {meth : Method} {c : Code}
variable {cc : ByteArray} {own : String} {nL : Nat} {cl : List vw_C} {Λ : List ab_L} {D : va_G} {cy : FieldType → ClassId} {ad : Nat → Nat} {A : Nat → Prop} {Qm : State → Prop} {ck sk : Nat}
/-- what a method's body stands on -/
def ab_Env (p : Program) (s : State) (m : MethodId) (args : Array Value) (meth : Method) (c : Code) (cc : ByteArray) (own : String) (nL : Nat) (ret : Option FieldType) (cl : List vw_C) (Λ : List ab_L) (D : va_G) (cy : FieldType → ClassId) (ad : Nat → Nat) (A : Nat → Prop) : Prop :=
  (p.tables.exec = Jvm.exec ∧ c.code = cc ∧ c.maxLocals = nL ∧ s.vm.findClass own = some m.cls ∧ ∀ w ∈ ab_B, w.before args s = true) ∧ meth.sig.returnType = ret ∧ meth.locks = false ∧ va_K D cl (ab_tys cy) s ∧ (∀ i j, i < Λ.length → j < Λ.length → ad i = ad j → i = j) ∧ (∀ k, k < Λ.length → A (ad k)) ∧ (∀ q, s.heap.size ≤ q → A q)
def ab_X (p : Program) (l : Launch) (e : Env) (R : Room) (s : State) (m : MethodId) (args : Array Value) (below : List Frame) (meth : Method) (c : Code) (nL : Nat) (cl : List vw_C) (Λ : List ab_L) (D : va_G) (cy : FieldType → ClassId) (ad : Nat → Nat) (A : Nat → Prop) (Qm : State → Prop) (ck sk : Nat) : ab_K := fun pc ls st M N =>
  ∀ (H : Heap) (locs : List Loc) (lsC : Array Slot), va_P D cl (ab_w Λ ad cy M N) H → va_S A s.heap H locs → ab_lh ad lsC nL ls → W p l e R s m args below meth c H locs ck sk Qm (F0 m pc lsC (st.map (ab_c ad)))
theorem ab_X_up : ab_Up (ab_X p l e R s m args below meth c nL cl Λ D cy ad A Qm ck sk) := fun pc a b st M N hab h H locs lsC hP hS hl => h H locs lsC hP hS (ab_lh_le hab hl)
/-- a constant is loaded -/
def ab_Cst (p : Program) (l : Launch) (e : Env) (R : Room) (s : State) (m : MethodId) (args : Array Value) (below : List Frame) (meth : Method) (c : Code) (cc : ByteArray) (ad : Nat → Nat) (A : Nat → Prop) (Qm : State → Prop) (ck sk : Nat) (cst : List (Nat × Value)) : Prop := ∀ (i : Nat) (v : Value), ab_a cst i = some v → ∀ (pc n : Nat) (H : Heap) (locs : List Loc) (lsC : Array Slot) (rest : List Value), va_S A s.heap H locs → (decode cc pc = .ok (.ldc i, 2) ∧ n = 2 ∧ v.category = 1 ∨ decode cc pc = .ok (.ldc_w i, 3) ∧ n = 3 ∧ (∃ x, v = .int x) ∨ decode cc pc = .ok (.ldc2_w i, 3) ∧ n = 3 ∧ v.category = 2) → W p l e R s m args below meth c H locs ck sk Qm (F0 m (pc + n) lsC (ab_c ad v :: rest)) → W p l e R s m args below meth c H locs ck sk Qm (F0 m pc lsC rest)
/-- a static is loaded -/
def ab_Sta (p : Program) (l : Launch) (e : Env) (R : Room) (s : State) (m : MethodId) (args : Array Value) (below : List Frame) (meth : Method) (c : Code) (cc : ByteArray) (ad : Nat → Nat) (A : Nat → Prop) (Qm : State → Prop) (ck sk : Nat) (sta : List (Nat × Nat)) : Prop := ∀ (i k : Nat), ab_a sta i = some k → ∀ (pc : Nat) (H : Heap) (locs : List Loc) (lsC : Array Slot) (rest : List Value), va_S A s.heap H locs → decode cc pc = .ok (.getstatic i, 3) → W p l e R s m args below meth c H locs ck sk Qm (F0 m (pc + 3) lsC (.ref (ad k) :: rest)) → W p l e R s m args below meth c H locs ck sk Qm (F0 m pc lsC rest)
/-- a table is read -/
def ab_Tab (p : Program) (l : Launch) (e : Env) (R : Room) (s : State) (m : MethodId) (args : Array Value) (below : List Frame) (meth : Method) (c : Code) (cc : ByteArray) (ad : Nat → Nat) (A : Nat → Prop) (Qm : State → Prop) (ck sk : Nat) (tab : List (Nat × Nat × (Nat → Int32))) : Prop := ∀ (k n : Nat) (f : Nat → Int32), ab_a tab k = some (n, f) → ∀ (pc : Nat) (H : Heap) (locs : List Loc) (lsC : Array Slot) (rest : List Value) (i : Int32), va_S A s.heap H locs → vp_in i n → decode cc pc = .ok (.iaload, 1) → W p l e R s m args below meth c H locs ck sk Qm (F0 m (pc + 1) lsC (.int (f i.toNatClampNeg) :: rest)) → W p l e R s m args below meth c H locs ck sk Qm (F0 m pc lsC (.int i :: .ref (ad k) :: rest))
/-- a call is made -/
def ab_Inv (p : Program) (l : Launch) (e : Env) (R : Room) (s : State) (m : MethodId) (args : Array Value) (below : List Frame) (meth : Method) (c : Code) (cc : ByteArray) (nL : Nat) (cl : List vw_C) (Λ : List ab_L) (D : va_G) (cy : FieldType → ClassId) (ad : Nat → Nat) (A : Nat → Prop) (Qm : State → Prop) (ck sk : Nat) (op : Nat → Instr) (inv : List (Nat × Nat × ab_T)) : Prop := ∀ (i n : Nat) (T : ab_T), ab_a inv i = some (n, T) → ∀ (pc : Nat) (H : Heap) (locs : List Loc) (lsC : Array Slot) (as rest : List Value) (M : ab_M) (N : ab_N) (k : ab_R), decode cc pc = .ok (op i, 3) → as.length = n → (rest.map fun v => v.category).sum ≤ 8 → lsC.size = nL → va_P D cl (ab_w Λ ad cy M N) H → va_S A s.heap H locs → T as M N k →
  (∀ (r : Option Value) (M2 : ab_M) (N2 : ab_N) (H2 : Heap) (locs2 : List Loc), k r M2 N2 → va_P D cl (ab_w Λ ad cy M2 N2) H2 → va_S A s.heap H2 locs2 → W p l e R s m args below meth c H2 locs2 ck sk Qm (F0 m (pc + 3) lsC ((r.map (ab_c ad)).toList ++ rest))) →
  W p l e R s m args below meth c H locs ck sk Qm (F0 m pc lsC ((as.map (ab_c ad)).reverse ++ rest))
/-- the method's end -/
def ab_Fin (cl : List vw_C) (Λ : List ab_L) (D : va_G) (cy : FieldType → ClassId) (ad : Nat → Nat) (A : Nat → Prop) (Q : ab_R) : Array Value → State → Outcome → State → Prop := fun _ st oc t => (∃ (r : Option Value) (M : ab_M) (N : ab_N), oc = .returned (r.map (ab_c ad)) ∧ Q r M N ∧ va_P D cl (ab_w Λ ad cy M N) t.heap) ∧ va_F A st t
theorem ab_sw_sound {pc : Nat} {x : Int32} {d : Nat} {X : Nat → Prop} {dI : Int} {Y : Prop} (hd : (x.toInt < (x.toInt : Int) → False) → True) : ∀ (os : List Int) (ks : List Int32) (ts : List Nat) (lo : Int), ab_swok pc dI lo os ks ts = true → ab_sw X x d ks ts → (∀ (i : Nat) (o : Int) (t : Nat), os[i]? = some o → x.toInt = lo + i → (pc : Int) + o = (t : Int) → X t → Y) → ((x.toInt < lo ∨ lo + os.length - 1 < x.toInt) → X d → Y) → Y
  | [], [], [], lo, _, h, _, h2 => h2 (by
      rcases Int.lt_or_le x.toInt lo with q | q
      · exact Or.inl q
      · exact Or.inr (by simp only [List.length_nil]; omega)) h
  | o :: os, k :: ks, t :: ts, lo, hok, h, h1, h2 => by
    simp only [ab_swok, Bool.and_eq_true, decide_eq_true_eq] at hok
    obtain ⟨⟨a1, a2⟩, a3⟩ := hok
    by_cases hx : x = k
    · exact h1 0 o t rfl (by rw [hx, a1]; simp) a2 (h.1 hx)
    · refine ab_sw_sound hd os ks ts (lo + 1) a3 (h.2 hx) (fun i o2 t2 g1 g2 g3 g4 => h1 (i + 1) o2 t2 g1 (by rw [g2]; push_cast; omega) g3 g4) (fun g1 g2 => h2 ?_ g2)
      have hne : ¬ x.toInt = lo := fun q => hx (Int32.toInt_inj.mp (by rw [a1]; exact q))
      simp only [List.length_cons] at g1 ⊢
      push_cast at g1 ⊢
      omega
  | [], [], _ :: _, _, hok, _, _, _ => by simp [ab_swok] at hok
  | [], _ :: _, _, _, hok, _, _, _ => by simp [ab_swok] at hok
  | _ :: _, [], _, _, hok, _, _, _ => by simp [ab_swok] at hok
  | _ :: _, _ :: _, [], _, hok, _, _, _ => by simp [ab_swok] at hok
end AbW
