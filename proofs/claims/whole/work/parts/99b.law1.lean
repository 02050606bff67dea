/-! the claim out of one walk of the law (the skeleton) *)
-/
/-! THE CLAIM OUT OF ONE WALK OF THE LAW'S BODY. Your part is whole_start (and what it stands on); all else here is the same for every law, but numbers. -/
def R_law : String := "WalkTheDikeLaw"
def lw_P (b : Addr) (xs : List Int32) (args : Array Value) (s : State) : Prop := args = #[.ref b] ∧ s.IntsAt b xs ∧ xs.length ≤ 3072 ∧ (Jvm.Cond.and given_1 narrow_1).before args s = true
def lw_Q (_ : Array Value) (s : State) (o : Outcome) (t : State) : Prop := o = .returned (some (.int 1)) ∧ Framed s o t [] 600000 7302250
def lw_Z (below : List Frame) (a : Array Value) (s : State) : State → Prop := fun t => ∃ o, t.status = .running ∧ Ended t below o ∧ lw_Q a s o t
/-- the law's own end, with 1 on the stack, nothing written that was there before, its room as the claim has it -/
theorem lw_ret {p : Program} {l : Launch} {e : Env} {s : State} {m : MethodId} {below : List Frame} {meth : Method} {c : Code} {b : Nat} (hx : p.tables.exec = Jvm.exec) (hb : c.code = code) (hr : meth.sig.returnType = ret) (hlocks : meth.locks = false) {pc : Nat} {H : Heap} {ls : Array Slot} (hdg : decode code pc = .ok (.ireturn, 1)) : W p l e room_1 s m #[Value.ref b] below meth c H [] 600000 7302250 (lw_Z below #[Value.ref b] s) (F0 m pc ls [.int 1]) := by
  intro T hT X
  obtain ⟨fs, hret, hrun, hended, hW, hframe⟩ := X.leave (v := some (.int 1)) (hlocks := hlocks) (fun h => by rw [hr] at h; cases h)
  have hmeth' : T.vm.method? m = some meth := X.method'
  refine ⟨T.setFrames fs, ?_, .returned (some (.int 1)), hrun, hended, rfl, ⟨_, rfl⟩, hW, hframe⟩
  jvm_step X.here [X.here.top, hx, hb, hdg, hmeth', hr, ret, narrow_b1]
  (try refine ⟨rfl, ?_⟩); (try refine ⟨rfl, ?_⟩)
  first | (intro acts; rw [hret _ acts rfl rfl rfl]) | rw [hret _ _ rfl rfl rfl]
  exact Steps.refl _
/-- what holds at the law's entry: the machine, the code, the tables' words (any of lw_tbl by 'hts w (by decide +kernel)'), the script of L ints xs at the cell b, what the Statement gives of the start (any of its parts by flat_of_before) -/
def lw_At (p : Program) (s : State) (m : MethodId) (meth : Method) (c : Code) (b L : Nat) (xs : Nat → Int32) : Prop :=
  p.tables.exec = Jvm.exec ∧ c.code = code ∧ meth.sig.returnType = ret ∧ c.maxLocals = 4 ∧ s.vm.findClass R_law = some m.cls ∧ (∀ w ∈ lw_tbl, w.before #[Value.ref b] s = true) ∧ va_X b L xs s s.heap ∧ b < s.heap.size ∧ meth.locks = false ∧ (Jvm.Cond.and given_1 narrow_1).before #[Value.ref b] s = true
/-! the law: what holds in its loop -/
abbrev zA0 (s : State) : Nat → Prop := fun q => s.heap.size ≤ q
theorem zW_ad {Λ : List ab_L} {ad : Nat → Nat} {cy : FieldType → ClassId} {M : ab_M} {N : ab_N} {k : Nat} {x : Nat × va_E} (h : (ab_w Λ ad cy M N)[k]? = some x) : k < Λ.length ∧ x.1 = ad k := by
  simp only [ab_w, List.getElem?_mapIdx] at h
  cases hc : Λ[k]? with
  | none => rw [hc] at h; cases h
  | some c =>
    rw [hc] at h
    cases h
    exact ⟨(List.getElem?_eq_some_iff.mp hc).1, rfl⟩
theorem zCatS (ad : Nat → Nat) (r : Option Value) : ((((r.map (ab_c ad)).toList ++ []) : List Value).map fun v => v.category).sum ≤ 8 := by
  cases r with
  | none => exact Nat.zero_le 8
  | some v =>
    show (ab_c ad v).category + 0 ≤ 8
    rcases lv_cat (ab_c ad v) with h | h <;> omega
set_option maxHeartbeats 4000000 in
/-- the law calls a method of one of the two objects: the other's cells stay -/
theorem zCallG {l : Launch} {p : Program} {e : Env} {s : State} {m : MethodId} {below : List Frame} {meth : Method} {c : Code} {b L : Nat} {xs : Nat → Int32} {D : va_G} {cy : FieldType → ClassId} {Λ Λ2 : List ab_L} {ad ad2 : Nat → Nat} {Z : ab_Zt} (hZok : ab_ZOK Z) {y : MethodName} {bytes : ByteArray} {nLC : Nat} {retC : Option FieldType} {rmC : Room} {T : ab_T} {i n : Nat} (hM : ab_Met l Λ vwCl Z y bytes nLC retC rmC T) (hcode : Cond.code y bytes nLC retC ∈ ab_B) (hlink : Cond.methodLink R_law i y ∈ ab_B) (hins : Cond.instanceMethod y ∈ ab_B) (hsel : Cond.selects y.cls y y ∈ ab_B) (hini : Cond.initialized y.cls ∈ ab_B) (hy : ab_yok y n) (hr0 : rmC.cells = 0 ∧ rmC.slots = 0) (hroom : rmC.frames + 1 ≤ 2048 ∧ 8 + (nLC + 11) + rmC.locals ≤ 84000) (hrecv : ab_recv Λ vwCl y.cls T)
    (C0 : lw_At p s m meth c b L xs) (hK : va_K D vwCl (ab_tys cy) s) (hinj : ab_inj Λ ad) (hZ0 : Z ad (zA0 s) s s.heap) (h1 : ∀ k, k < Λ.length → s.heap.size ≤ ad k) (hd : ∀ i j, i < Λ.length → j < Λ2.length → ad i ≠ ad2 j)
    {ck sk : Nat} {Q : State → Prop} (hck : ck ≤ 600000 ∧ sk ≤ 7302250) {pc : Nat} {H : Heap} {locs : List Loc} {ls : Array Slot} {lv : List (Nat × Value)} (hl : lv_has ls 4 lv) (as rest : List Value) {M M2 : ab_M} {N N2 : ab_N} {k : ab_R} (hdec : decode code pc = .ok (.invokevirtual i, 3)) (hlen : as.length = n) (hcat : (rest.map fun v => v.category).sum ≤ 8) (hP : va_P D vwCl (ab_w Λ ad cy M N) H) (hP2 : va_P D vwCl (ab_w Λ2 ad2 cy M2 N2) H) (hS : va_S (zA0 s) s.heap H locs) (hT : T (.ref 0 :: as) M N k)
    (kk : ∀ (r : Option Value) (M' : ab_M) (N' : ab_N) (H2 : Heap) (locs2 : List Loc), k r M' N' → va_P D vwCl (ab_w Λ ad cy M' N') H2 → va_P D vwCl (ab_w Λ2 ad2 cy M2 N2) H2 → va_S (zA0 s) s.heap H2 locs2 → W p l e room_1 s m #[Value.ref b] below meth c H2 locs2 ck sk Q (F0 m (pc + 3) ls ((r.map (ab_c ad)).toList ++ rest))) : W p l e room_1 s m #[Value.ref b] below meth c H locs ck sk Q (F0 m pc ls ((as.map (ab_c ad)).reverse ++ Value.ref (ad 0) :: rest)) := by
  obtain ⟨hx, hb, hr, hml, hown, hts, hX, hbl, hlocks, hgv⟩ := C0
  have htsB : ∀ w ∈ ab_B, w.before #[Value.ref b] s = true := fun w h => hts w (ab_lwIn w h)
  obtain ⟨k0, as2, ci, fs, T0, N0, e1, e2, e3⟩ := hrecv (.ref 0 :: as) M N k hT
  cases e1
  have hsub : ∀ q, ab_A Λ ad H.size q → s.heap.size ≤ q := fun q h => by
    rcases h with ⟨j, hj, rfl⟩ | h
    · exact h1 j hj
    · exact Nat.le_trans hS.1 h
  have cw : CallW room_1 s #[Value.ref b] R_law y.cls i y bytes nLC retC (Cond.code y bytes nLC retC :: ab_B) rmC 0 0 n := ⟨callB_of n htsB (ab_goodC hcode) rfl hr0.1 hr0.2 (htsB _ hini) (htsB _ hlink) hy hroom, htsB _ hins, htsB _ hsel⟩
  have hrun := va_runV (p := p) (e := e) (R := room_1) (m := m) (args := #[Value.ref b]) (below := below) (meth := meth) (c := c) (locs := locs) (cells := ck) (slots := sk) (As := as.map (ab_c ad)) (rest := rest) (g := F0 m pc ls ((as.map (ab_c ad)).reverse ++ Value.ref (ad 0) :: rest)) (b := ad 0) ⟨hx, hb, hml, hown, htsB⟩ (hM D cy ad H.size (Value.ref 0 :: as) M N k hinj hT) cw
    ⟨ab_blind hZok, va_recv hK hP e3 (ab_w_at e2), fun U hU hW => ⟨by simp [ab_c], by rw [hU], by rw [hU]; exact hP, va_K.moved hW.alike hK, by
      rw [hU]
      exact hZok.1 ad _ s U H hW (hZok.2.2.2 ad _ _ s H hsub (hZok.2.2.1 ad _ s s.heap H (fun a q1 q2 => hS.2.1 a q1 q2) hZ0))⟩⟩ rfl (by simpa using hlen) hl.1 rfl (lv_room (m := m) (pc := pc) (ls := ls) (rest := (as.map (ab_c ad)).reverse ++ Value.ref (ad 0) :: rest) hcat) hdec ⟨by rw [Nat.add_zero]; exact hck.1, by rw [Nat.add_zero]; exact hck.2⟩
  intro Tt hTt X
  obtain ⟨v, st₀, t, T', LL, h0, X', hL, f1, f2, ⟨⟨r, M', N', hv, hp, hb2⟩, hz, hk⟩, st⟩ := hrun Tt hTt X
  cases hv
  rw [h0] at hz hk
  obtain ⟨t2, a1, b1⟩ := kk r M' N' T'.heap (locs ++ LL) hp (by rw [f1]; exact hb2)
    (hP2.kept (fun j x hj => by
      obtain ⟨j1, j2⟩ := zW_ad hj
      rw [f1]
      refine hk x.1 (va_at.lt (hP2 j x hj)) (fun z => ?_)
      rcases z with ⟨i', hi', z⟩ | z
      · exact hd i' j hi' j1 (z.symm.trans j2)
      · exact absurd (va_at.lt (hP2 j x hj)) (Nat.not_lt.mpr z)))
    ⟨Nat.le_trans hS.1 (by rw [f1]; exact hz), fun q q1 q2 => by
      rw [f1, hk q (Nat.lt_of_lt_of_le q1 hS.1) (fun z => q2 (hsub q z))]
      exact hS.2.1 q q1 q2, fun q hq => by
      rcases List.mem_append.mp hq with h | h
      · exact hS.2.2 q h
      · exact hsub _ (hL q h)⟩ T' rfl X'
  exact ⟨t2, st t2 a1, b1⟩
/-- what stays in the loop -/
def zLc (p : Program) (s : State) (m : MethodId) (meth : Method) (c : Code) (b L : Nat) (xs : Nat → Int32) (D : va_G) (cy : FieldType → ClassId) (aC aM : Nat → Nat) : Prop := lw_At p s m meth c b L xs ∧ L ≤ 3072 ∧ va_K D vwCl (ab_tys cy) s ∧ (ab_inj zw_C aC ∧ ab_inj zw_M aM) ∧ zZ_C aC (zA0 s) s s.heap ∧ ((∀ k, k < zw_C.length → s.heap.size ≤ aC k) ∧ (∀ k, k < zw_M.length → s.heap.size ≤ aM k)) ∧ ((∀ i j, i < zw_C.length → j < zw_M.length → aC i ≠ aM j) ∧ ∀ i j, i < zw_M.length → j < zw_C.length → aM i ≠ aC j)
/-- from here on, whatever the two hold side by side -/
def zHere (p : Program) (l : Launch) (e : Env) (s : State) (m : MethodId) (below : List Frame) (meth : Method) (c : Code) (b : Nat) (D : va_G) (cy : FieldType → ClassId) (aC aM : Nat → Nat) (ck sk : Nat) (Q : State → Prop) (ls : Array Slot) (bb pc : Nat) : Prop := ∀ (MC : ab_M) (NC : ab_N) (MM : ab_M) (NM : ab_N) (H : Heap) (locs : List Loc), zInv bb MC MM NM → va_P D vwCl (ab_w zw_C aC cy MC NC) H → va_P D vwCl (ab_w zw_M aM cy MM NM) H → va_S (zA0 s) s.heap H locs → W p l e room_1 s m #[Value.ref b] below meth c H locs ck sk Q (F0 m pc ls [])
theorem zOu_up {b b2 : Nat} {r r2 : Option Value} {C M : ab_M} {N : ab_N} (h : zOu b r r2 C M N) (hb : b ≤ b2) : zOu b2 r r2 C M N := ⟨h.1, zInv_up h.2 hb⟩
section LawRows
variable {p : Program} {l : Launch} {e : Env} {s : State} {m : MethodId} {below : List Frame} {meth : Method} {c : Code} {b L : Nat} {xs : Nat → Int32} {D : va_G} {cy : FieldType → ClassId} {aC aM : Nat → Nat} {ck sk : Nat} {Q : State → Prop} {ls : Array Slot} {H : Heap} {locs : List Loc} {lv : List (Nat × Value)}
/-- a number of the script, behind i -/
theorem zArg (C0 : lw_At p s m meth c b L xs) (hL : L ≤ 3072) {i k : Nat} (hk : k < 6) (hi : i + 6 ≤ L) (hS : va_S (zA0 s) s.heap H locs) (hl : lv_has ls 4 lv) (l0 : lv[0]? = some (0, .ref b)) (l3 : lv[3]? = some (3, .int (nI i))) {pc : Nat} {rest : List Value} {kn : Int} (hn : Int32.ofInt kn = nI k) (d0 : decode code pc = .ok (.aload_n 0, 1)) (d1 : decode code (pc + 1) = .ok (.iload_n 3, 1)) (d2 : decode code (pc + 2) = .ok (.iconst kn, 1)) (d3 : decode code (pc + 3) = .ok (.iadd, 1)) (d4 : decode code (pc + 4) = .ok (.iaload, 1))
    (kk : W p l e room_1 s m #[Value.ref b] below meth c H locs ck sk Q (F0 m (pc + 5) ls (.int (xs (i + k)) :: rest))) : W p l e room_1 s m #[Value.ref b] below meth c H locs ck sk Q (F0 m pc ls rest) := by
  obtain ⟨hx, hb, hr, hml, hown, hts, hX, hbl, hlocks, hgv⟩ := C0
  refine lv_aload_n (k := 0) (i := 0) hx hb d0 rfl (lv_at hl 0 l0) ?_
  refine lv_iload_n (k := 3) (i := 3) hx hb d1 rfl (lv_at hl 3 l3) ?_
  refine lv_iconst hx hb d2 hn ?_
  refine lv_iadd hx hb d3 ?_
  rw [nI_add]
  refine va_sld hx hb hX hbl (fun z => absurd z (Nat.not_le.mpr hbl)) hS (nI_in_ (n := i + k) (by omega) (by omega)) d4 ?_
  rw [nI_clamp (by omega)]
  exact kk
end LawRows
theorem zCmp_eq (v : Int64) : lg_cmp v v = 0 := by
  unfold lg_cmp
  rw [if_neg (fun z => absurd z (Int64.lt_irrefl (a := v))), if_pos rfl]
