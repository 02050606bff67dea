/-! first; the rest of a constructor as a program *)
-/
def zt_X12_first : ab_T := ab_m5 0 (fun k _ _ _ _ _ _ => ∃ q : Nat, q + 3 < 1200 ∧ k = nI q) (fun k a b c d M N o M2 N2 => o = none ∧ N2 = N ∧ M2 = ab_u M 13 (upd (upd (upd (upd (M 13) k.toNatClampNeg a) (k.toNatClampNeg + 1) b) (k.toNatClampNeg + 2) c) (k.toNatClampNeg + 3) d))
theorem zt_X12_first_mono : ab_mono zt_X12_first := ab_m5_mono _ _ _
theorem zV_X12_first : ab_recv zw_M vwCl RX12 zt_X12_first := ab_m5_v rfl rfl
def zp_X12_first : ab_P := [(0, .aload_n 0, 1, [0], []),
  (1, .getfield 62, 4, [], []),
  (4, .iload_n 1, 5, [1], []),
  (5, .iload_n 2, 6, [2], []),
  (6, .iastore, 7, [], []),
  (7, .aload_n 0, 8, [0], []),
  (8, .getfield 62, 11, [], []),
  (11, .iload_n 1, 12, [1], []),
  (12, .iconst 1, 13, [], [1]),
  (13, .iadd, 14, [], []),
  (14, .iload_n 3, 15, [3], []),
  (15, .iastore, 16, [], []),
  (16, .aload_n 0, 17, [0], []),
  (17, .getfield 62, 20, [], []),
  (20, .iload_n 1, 21, [1], []),
  (21, .iconst 2, 22, [], [2]),
  (22, .iadd, 23, [], []),
  (23, .iload 4, 25, [], []),
  (25, .iastore, 26, [], []),
  (26, .aload_n 0, 27, [0], []),
  (27, .getfield 62, 30, [], []),
  (30, .iload_n 1, 31, [1], []),
  (31, .iconst 3, 32, [], [3]),
  (32, .iadd, 33, [], []),
  (33, .iload 5, 35, [], []),
  (35, .iastore, 36, [], []),
  (36, .return_, 37, [], [])]
theorem zo_X12_first : ab_ok cX12_first zp_X12_first = true := by decide +kernel
def zg_X12_first : ab_G := (zw_M, [], zf_X12, zc_X12, [], [], [])
theorem zm_X12_first : ab_MG zg_X12_first := ab_MGof (List.forall_mem_nil _) (List.forall_mem_nil _)
abbrev zr_X12_first (Q : ab_R) : ab_K := ab_Run zg_X12_first zp_X12_first none 6 Q
set_option maxRecDepth 20000 in
theorem zv_X12_first_0 {Q : ab_R} {M : ab_M} {N : ab_N} (l1 : Int32) (l2 : Int32) (l3 : Int32) (l4 : Int32) (l5 : Int32) (h : vp_in l1 1200 ∧ (let z1 : Nat → Int32 := upd (M 13) l1.toNatClampNeg l2; vp_in (l1 + (1 : Int32)) 1200 ∧ (let z2 : Nat → Int32 := upd (z1) (l1 + (1 : Int32)).toNatClampNeg l3; vp_in (l1 + (2 : Int32)) 1200 ∧ (let z3 : Nat → Int32 := upd (z2) (l1 + (2 : Int32)).toNatClampNeg l4; vp_in (l1 + (3 : Int32)) 1200 ∧ (let z4 : Nat → Int32 := upd (z3) (l1 + (3 : Int32)).toNatClampNeg l5; Q none (ab_u (ab_u (ab_u (ab_u M 13 z1) 13 z2) 13 z3) 13 z4) N))))) : zr_X12_first Q 0 [some (.ref 0), some (.int l1), some (.int l2), some (.int l3), some (.int l4), some (.int l5)] [] M N := ab_Run_s zm_X12_first (sp := []) 29 h
theorem zE_X12_first (as : List Value) (M : ab_M) (N : ab_N) (k : ab_R) (hT : zt_X12_first as M N k) : ab_cs as ≤ 6 ∧ zr_X12_first k 0 (ab_en as) [] M N := by
  obtain ⟨i, a, b, c, d, rfl, ⟨q, hq, rfl⟩, hk⟩ := ab_m5_e hT
  have hk := hk _ _ _ ⟨rfl, rfl, rfl⟩
  rw [nI_clamp (show q < 2 ^ 31 by omega)] at hk
  refine ⟨Nat.le_of_ble_eq_true rfl, zv_X12_first_0 _ _ _ _ _ ?_⟩
  rw [nI_1, show (2 : Int32) = nI 2 from rfl, show (3 : Int32) = nI 3 from rfl, nI_add, nI_add, nI_clamp (show q < 2 ^ 31 by omega), nI_clamp (show q + 1 < 2 ^ 31 by omega), nI_clamp (show q + 2 < 2 ^ 31 by omega), nI_clamp (show q + 3 < 2 ^ 31 by omega)]
  refine ⟨nI_in_ (by omega), ?_⟩
  intro z1
  refine ⟨nI_in_ (by omega), ?_⟩
  intro z2
  refine ⟨nI_in_ (by omega), ?_⟩
  intro z3
  refine ⟨nI_in_ (by omega), ?_⟩
  intro z4
  simp only [ab_u_u]
  exact hk
abbrev zR_X12_first : Room := { frames := 0, cells := 0, slots := 0, locals := 0 }
set_option maxRecDepth 20000 in
theorem zM_X12_first (l : Launch) : ab_Met l zw_M vwCl zZ_M yX12_first cX12_first 6 none zR_X12_first zt_X12_first := ab_ofRun (G := zg_X12_first) (P := zp_X12_first) rfl zo_X12_first (by decide +kernel) zl_cl zl_lamM zf_X12_ok ab_Tab_nil zc_X12_ok ab_Sta_nil (List.forall_mem_nil _) (List.forall_mem_nil _) zE_X12_first
/-- where the cells lie that a constructor has made -/
def zAdOk (Λ : List ab_L) (h0 sz : Nat) (ad : Nat → Nat) : Prop := ab_inj Λ ad ∧ ad 0 = h0 ∧ ∀ k, k < Λ.length → ad k = h0 ∨ sz ≤ ad k
theorem zA1 {h0 sz : Nat} {e : va_E} (q : Nat) : va_A [(h0, e)] sz q ↔ q = h0 ∨ sz ≤ q := by
  unfold va_A
  constructor
  · rintro (⟨k, e2, h⟩ | h)
    · left
      have hz : k < 1 := (List.getElem?_eq_some_iff.mp h).1
      rw [show k = 0 by omega] at h
      have h := (Prod.mk.inj (Option.some.inj h)).1
      exact h.symm
    · exact Or.inr h
  · rintro (rfl | h)
    · exact Or.inl ⟨0, e, rfl⟩
    · exact Or.inr h
theorem zAdOk_of {Λ : List ab_L} {h0 sz : Nat} {e : va_E} {ad : Nat → Nat} {cy : FieldType → ClassId} {M : ab_M} {N : ab_N} (hD : va_D (va_A [(h0, e)] sz) (ab_w Λ ad cy M N)) (h : ad 0 = h0) : zAdOk Λ h0 sz ad := by
  refine ⟨fun i j hi hj he => ?_, h, fun k hk => ?_⟩
  · exact hD.1 i j _ _ (ab_w_at (List.getElem?_eq_getElem hi)) (ab_w_at (List.getElem?_eq_getElem hj)) he
  · exact (zA1 _).mp (hD.2 k _ (ab_w_at (List.getElem?_eq_getElem hk)))
theorem zA_eq {Λ : List ab_L} {h0 sz : Nat} {ad : Nat → Nat} (h : zAdOk Λ h0 sz ad) (hl : 0 < Λ.length) (e : va_E) : ab_A Λ ad sz = va_A [(h0, e)] sz := funext fun q => propext (by
  rw [zA1]
  unfold ab_A
  constructor
  · rintro (⟨k, hk, rfl⟩ | z)
    · exact h.2.2 k hk
    · exact Or.inr z
  · rintro (rfl | z)
    · exact Or.inl ⟨0, hl, h.2.1.symm⟩
    · exact Or.inr z)
set_option maxHeartbeats 4000000 in
/-- from the middle of a method, with the cells that it has made -/
theorem zTailW {l : Launch} {Λ : List ab_L} {Z : ab_Zt} {y : MethodName} {bytes : ByteArray} {nL : Nat} {rm : Room} {G : ab_G} {P : ab_P} (hΛ : G.1 = Λ) (hok : ab_ok bytes P = true) (hlam : ab_Lam vwCl Λ) (hfld : ab_Fld y.cls vwCl G.2.2.1)
    (htab : ab_TabOK Z G.2.1) (hcst : ab_CstOK Z y.cls G.2.2.2.1) (hsta : ab_StaOK Z y.cls G.2.2.2.2.1) (hinv : ab_Calls l y.cls rm Λ vwCl Z .invokevirtual G.2.2.2.2.2.1) (hinvS : ab_Calls l y.cls rm Λ vwCl Z .invokestatic G.2.2.2.2.2.2)
    {p : Program} {e : Env} {s : State} {m : MethodId} {args : Array Value} {below : List Frame} {meth : Method} {c : Code} {D : va_G} {cy : FieldType → ClassId} {ad : Nat → Nat} {ck sk : Nat} {k : ab_R} (hE : ab_Env p s m args meth c bytes y.cls nL none vwCl Λ D cy ad (ab_A Λ ad s.heap.size)) (hZ : Z ad (ab_A Λ ad s.heap.size) s s.heap) (hck : ck ≤ rm.cells) (hsk : sk ≤ rm.slots)
    {pc : Nat} {ls : List (Option Value)} {M : ab_M} {N : ab_N} (hrun : ab_Run G P none nL k pc ls [] M N) {H : Heap} {locs : List Loc} {lsC : Array Slot} (hP : va_P D vwCl (ab_w Λ ad cy M N) H) (hS : va_S (ab_A Λ ad s.heap.size) s.heap H locs) (hl : ab_lh ad lsC nL ls)
    {Qc : Array Value → State → Outcome → State → Prop} (hq : ∀ o t, ab_Fin vwCl Λ D cy ad (ab_A Λ ad s.heap.size) k args s o t → Qc args s o t) {free : Nat → Prop} (hf : ab_A Λ ad s.heap.size = free) : W p l e rm s m args below meth c H locs ck sk (MQ below Qc args s ck sk free) (F0 m pc lsC []) := by
  subst hf
  obtain ⟨⟨hx, hb, hml, hown, hts⟩, hr, hlocks, hK, hinj, hAad, hA⟩ := id hE
  have key := hrun (ab_X p l e rm s m args below meth c nL vwCl Λ D cy ad (ab_A Λ ad s.heap.size) (MQ below (ab_Fin vwCl Λ D cy ad (ab_A Λ ad s.heap.size) k) args s ck sk (ab_A Λ ad s.heap.size)) ck sk) ab_X_up
    (fun pc ls st M2 N2 h => ab_step hE hΛ hok zl_cl hfld hlam rfl (htab _ _ _ _ _ _ _ _ _ _ _ _ _ _ _ _ hx hb hZ) (hcst _ _ _ _ _ _ _ _ _ _ _ _ _ _ _ _ hx hb hown hts hZ) (hsta _ _ _ _ _ _ _ _ _ _ _ _ _ _ _ _ hx hb hown hts hZ) (fun i n T2 hi => hinv _ (ab_a_in _ _ _ hi) p e s m _ below meth c bytes nL none D cy ad _ ck sk hck hsk hE hZ) (fun i n T2 hi => hinvS _ (ab_a_in _ _ _ hi) p e s m _ below meth c bytes nL none D cy ad _ ck sk hck hsk hE hZ) pc ls st M2 N2 h)
  intro T hT X
  obtain ⟨t, a1, o, b1, b2, b3, b4⟩ := key H locs lsC hP hS hl T hT X
  exact ⟨t, a1, o, b1, b2, hq o t b3, b4⟩
theorem zLh0 {ad : Nat → Nat} {lsC : Array Slot} {nL h0 : Nat} {n : Nat} (hl : lv_has lsC nL [(0, .ref h0)]) (h : ad 0 = h0) : ab_lh ad lsC nL (some (.ref 0) :: List.replicate n none) := by
  have nn : ∀ n j : Nat, ab_g (List.replicate n (none : Option Value)) j = none := by
    intro n
    induction n with
    | zero => exact fun j => ab_g_nil j
    | succ n ih =>
      intro j
      cases j with
      | zero => rfl
      | succ j => exact ih j
  refine ab_lh_mono hl (fun j v hj => ?_)
  cases j with
  | zero =>
    cases hj
    show (0, Value.ref (ad 0)) ∈ _
    rw [h]
    exact List.mem_cons_self
  | succ j =>
    have : ab_g (List.replicate n (none : Option Value)) j = some v := hj
    rw [nn] at this
    cases this
theorem zZ_M_ad {ad ad0 : Nat → Nat} {A : Nat → Prop} {U : State} {H : Heap} (_ : ∀ k, 34 ≤ k → ad k = ad0 k) (_ : zZ_M ad0 A U H) : zZ_M ad A U H := trivial
theorem zZ_C_ad {ad ad0 : Nat → Nat} {A : Nat → Prop} {U : State} {H : Heap} (h : ∀ k, 47 ≤ k → ad k = ad0 k) (hZ : zZ_C ad0 A U H) : zZ_C ad A U H := by
  have e1 : (fun i => ad (60 + i)) = fun i => ad0 (60 + i) := funext fun i => h _ (by omega)
  have e2 : (fun i => ad (62 + i)) = fun i => ad0 (62 + i) := funext fun i => h _ (by omega)
  unfold zZ_C zZ_T zZ_S at hZ ⊢
  rw [e1, e2, h 50 (by decide), h 51 (by decide), h 52 (by decide), h 60 (by decide), h 61 (by decide)]
  exact hZ
/-- the cells of a world, one by one -/
def zFs (ad : Nat → Nat) (M : ab_M) (N : ab_N) (k : Nat) : List (Nat ⊕ FieldType) → Nat → List Value
  | [], _ => []
  | x :: r, j => ab_f ad M N k j x :: zFs ad M N k r (j + 1)
def zEl (ad : Nat → Nat) (cy : FieldType → ClassId) (M : ab_M) (N : ab_N) (k : Nat) : ab_L → va_E
  | .inl (ci, fs) => .inr (ci, zFs ad M N k fs 0)
  | .inr (.long, n) => .inl (cy .long, n, .inr (.inl (N k)))
  | .inr (ty, n) => .inl (cy ty, n, .inl (M k))
def zWl (ad : Nat → Nat) (cy : FieldType → ClassId) (M : ab_M) (N : ab_N) : List ab_L → Nat → va_W
  | [], _ => []
  | c :: r, k => (ad k, zEl ad cy M N k c) :: zWl ad cy M N r (k + 1)
theorem zFs_at (ad : Nat → Nat) (M : ab_M) (N : ab_N) (k : Nat) : ∀ (fs : List (Nat ⊕ FieldType)) (j i : Nat), (zFs ad M N k fs j)[i]? = (fs[i]?).map (ab_f ad M N k (j + i))
  | [], j, i => rfl
  | x :: r, j, 0 => rfl
  | x :: r, j, i + 1 => by
    have := zFs_at ad M N k r (j + 1) i
    rw [show j + (i + 1) = j + 1 + i by omega]
    exact this
theorem zEl_eq (ad : Nat → Nat) (cy : FieldType → ClassId) (M : ab_M) (N : ab_N) (k : Nat) (c : ab_L) : zEl ad cy M N k c = ab_e ad cy M N k c := by
  match c with
  | .inl (ci, fs) =>
    show ((.inr (ci, zFs ad M N k fs 0)) : va_E) = .inr (ci, fs.mapIdx (ab_f ad M N k))
    have e : zFs ad M N k fs 0 = fs.mapIdx (ab_f ad M N k) := by
      apply List.ext_getElem?
      intro i
      rw [zFs_at, List.getElem?_mapIdx, Nat.zero_add]
    rw [e]
  | .inr (ty, n) => cases ty <;> rfl
theorem zWl_at (ad : Nat → Nat) (cy : FieldType → ClassId) (M : ab_M) (N : ab_N) : ∀ (Λ : List ab_L) (k i : Nat), (zWl ad cy M N Λ k)[i]? = (Λ[i]?).map (fun c => (ad (k + i), ab_e ad cy M N (k + i) c))
  | [], k, i => rfl
  | c :: r, k, 0 => by
    show some (ad k, zEl ad cy M N k c) = some (ad k, ab_e ad cy M N k c)
    rw [zEl_eq]
  | c :: r, k, i + 1 => by
    have := zWl_at ad cy M N r (k + 1) i
    rw [show k + (i + 1) = k + 1 + i by omega]
    exact this
theorem zWl_eq (Λ : List ab_L) (ad : Nat → Nat) (cy : FieldType → ClassId) (M : ab_M) (N : ab_N) : ab_w Λ ad cy M N = zWl ad cy M N Λ 0 := by
  apply List.ext_getElem?
  intro i
  rw [zWl_at, ab_w, List.getElem?_mapIdx]
  cases Λ[i]? with
  | none => rfl
  | some c =>
    show some (ad i, ab_e ad cy M N i c) = some (ad (0 + i), ab_e ad cy M N (0 + i) c)
    rw [Nat.zero_add]
