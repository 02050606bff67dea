/-! soundness of one step -/
section AbInv
variable {X : ab_K} {nx : Nat} {ls : List (Option Value)} {st : List Value} {M : ab_M} {N : ab_N}
theorem ab_ld_0 {v : Option Value} (h : ab_ld X nx ls st M N 0 v) : ∃ x, v = some (.int x) ∧ X nx ls (.int x :: st) M N := by
  cases v with
  | none => exact h.elim
  | some w => cases w <;> first | exact ⟨_, rfl, h⟩ | exact h.elim
theorem ab_ld_1 {v : Option Value} (h : ab_ld X nx ls st M N 1 v) : ∃ x, v = some (.long x) ∧ X nx ls (.long x :: st) M N := by
  cases v with
  | none => exact h.elim
  | some w => cases w <;> first | exact ⟨_, rfl, h⟩ | exact h.elim
theorem ab_ld_2 {v : Option Value} (h : ab_ld X nx ls st M N 2 v) : ∃ x, v = some (.ref x) ∧ X nx ls (.ref x :: st) M N := by
  cases v with
  | none => exact h.elim
  | some w => cases w <;> first | exact ⟨_, rfl, h⟩ | exact h.elim
theorem ab_i2_e {f : Int32 → Int32 → Int32} (h : ab_i2 X nx ls st M N f) : ∃ x y r, st = .int y :: .int x :: r ∧ X nx ls (.int (f x y) :: r) M N := by
  unfold ab_i2 at h; split at h
  · exact ⟨_, _, _, rfl, h⟩
  · exact h.elim
theorem ab_l2_e {f : Int64 → Int64 → Int64} (h : ab_l2 X nx ls st M N f) : ∃ x y r, st = .long y :: .long x :: r ∧ X nx ls (.long (f x y) :: r) M N := by
  unfold ab_l2 at h; split at h
  · exact ⟨_, _, _, rfl, h⟩
  · exact h.elim
theorem ab_b1_e {tg : Nat} {f : Int32 → Prop} (h : ab_b1 X nx tg ls st M N f) : ∃ x r, st = .int x :: r ∧ (f x → X tg ls r M N) ∧ (¬ f x → X nx ls r M N) := by
  unfold ab_b1 at h; split at h
  · exact ⟨_, _, rfl, h⟩
  · exact h.elim
theorem ab_b2_e {tg : Nat} {f : Int32 → Int32 → Prop} (h : ab_b2 X nx tg ls st M N f) : ∃ x y r, st = .int y :: .int x :: r ∧ (f x y → X tg ls r M N) ∧ (¬ f x y → X nx ls r M N) := by
  unfold ab_b2 at h; split at h
  · exact ⟨_, _, _, rfl, h⟩
  · exact h.elim
theorem ab_blt {i n : Nat} (h : Nat.blt i n = true) : i < n := Nat.le_of_ble_eq_true h
theorem ab_s1_0 {nL i : Nat} (h : ab_s1 X nx nL i ls st M N 0) : i < nL ∧ ∃ x r, st = .int x :: r ∧ X nx (ab_p (ab_kl ls i) i (some (.int x))) r M N := by
  unfold ab_s1 at h; split at h
  · rename_i hb
    refine ⟨ab_blt hb, ?_⟩
    split at h
    · exact ⟨_, _, rfl, h⟩
    · exact absurd ‹(0:Nat) = 2› (by decide)
    · exact h.elim
  · exact h.elim
theorem ab_s1_2 {nL i : Nat} (h : ab_s1 X nx nL i ls st M N 2) : i < nL ∧ ∃ x r, st = .ref x :: r ∧ X nx (ab_p (ab_kl ls i) i (some (.ref x))) r M N := by
  unfold ab_s1 at h; split at h
  · rename_i hb
    refine ⟨ab_blt hb, ?_⟩
    split at h
    · exact absurd ‹(2:Nat) = 0› (by decide)
    · exact ⟨_, _, rfl, h⟩
    · exact h.elim
  · exact h.elim
theorem ab_s2_e {nL i : Nat} (h : ab_s2 X nx nL i ls st M N) : i + 1 < nL ∧ ∃ x r, st = .long x :: r ∧ X nx (ab_p (ab_p (ab_kl ls i) i (some (.long x))) (i + 1) none) r M N := by
  unfold ab_s2 at h; split at h
  · rename_i hb
    refine ⟨ab_blt hb, ?_⟩
    split at h
    · exact ⟨_, _, rfl, h⟩
    · exact h.elim
  · exact h.elim
theorem ab_inc_e {nL i : Nat} {v : Int32} (h : ab_inc X nx nL i v ls st M N) : i < nL ∧ ∃ x, ab_g ls i = some (.int x) ∧ X nx (ab_p (ab_kl ls i) i (some (.int (x + v)))) st M N := by
  unfold ab_inc at h; split at h
  · rename_i hb
    refine ⟨ab_blt hb, ?_⟩
    split at h
    · rename_i x e
      exact ⟨x, e, h⟩
    · exact h.elim
  · exact h.elim
theorem ab_get_e {Λ : List ab_L} {o : Option (Nat × Nat)} (h : ab_get Λ X nx ls st M N o) : ∃ ci j k r fs, o = some (ci, j) ∧ st = .ref k :: r ∧ Λ[k]? = some (.inl (ci, fs)) ∧ ab_gf X nx ls k j r M N fs[j]? := by
  unfold ab_get at h; split at h
  · split at h
    · split at h
      · rename_i hΛ
        split at h
        · rename_i hb
          rw [Nat.eq_of_beq_eq_true hb] at hΛ
          exact ⟨_, _, _, _, _, rfl, rfl, hΛ, h⟩
        · exact h.elim
      · exact h.elim
    · exact h.elim
  · exact h.elim
theorem ab_put_e {Λ : List ab_L} {o : Option (Nat × Nat)} (h : ab_put Λ X nx ls st M N o) : ∃ ci j k v r fs, o = some (ci, j) ∧ st = v :: .ref k :: r ∧ Λ[k]? = some (.inl (ci, fs)) ∧ ab_pf X nx ls k j v r M N fs[j]? := by
  unfold ab_put at h; split at h
  · split at h
    · split at h
      · rename_i hΛ
        split at h
        · rename_i hb
          rw [Nat.eq_of_beq_eq_true hb] at hΛ
          exact ⟨_, _, _, _, _, _, rfl, rfl, hΛ, h⟩
        · exact h.elim
      · exact h.elim
    · exact h.elim
  · exact h.elim
theorem ab_iald_e {Λ : List ab_L} {tab : List (Nat × Nat × (Nat → Int32))} (h : ab_iald Λ tab X nx ls st M N) : ∃ i k r, st = .int i :: .ref k :: r ∧ ((∃ n, Λ[k]? = some (.inr (.int, n)) ∧ vp_in i n ∧ X nx ls (.int (M k i.toNatClampNeg) :: r) M N) ∨ ∃ n f, ab_a tab k = some (n, f) ∧ vp_in i n ∧ X nx ls (.int (f i.toNatClampNeg) :: r) M N) := by
  unfold ab_iald at h; split at h
  · split at h
    · rename_i hΛ
      exact ⟨_, _, _, rfl, Or.inl ⟨_, hΛ, h.1, h.2⟩⟩
    · split at h
      · rename_i ht
        exact ⟨_, _, _, rfl, Or.inr ⟨_, _, ht, h.1, h.2⟩⟩
      · exact h.elim
    · exact h.elim
  · exact h.elim
theorem ab_zald_e {Λ : List ab_L} (h : ab_zald Λ X nx ls st M N) : ∃ i k r n, st = .int i :: .ref k :: r ∧ Λ[k]? = some (.inr (.boolean, n)) ∧ vp_in i n ∧ X nx ls (.int (M k i.toNatClampNeg) :: r) M N := by
  unfold ab_zald at h; split at h
  · split at h
    · rename_i hΛ
      exact ⟨_, _, _, _, rfl, hΛ, h.1, h.2⟩
    · exact h.elim
  · exact h.elim
theorem ab_lald_e {Λ : List ab_L} (h : ab_lald Λ X nx ls st M N) : ∃ i k r n, st = .int i :: .ref k :: r ∧ Λ[k]? = some (.inr (.long, n)) ∧ vp_in i n ∧ X nx ls (.long (N k i.toNatClampNeg) :: r) M N := by
  unfold ab_lald at h; split at h
  · split at h
    · rename_i hΛ
      exact ⟨_, _, _, _, rfl, hΛ, h.1, h.2⟩
    · exact h.elim
  · exact h.elim
theorem ab_iast_e {Λ : List ab_L} (h : ab_iast Λ X nx ls st M N) : ∃ x i k r n, st = .int x :: .int i :: .ref k :: r ∧ Λ[k]? = some (.inr (.int, n)) ∧ vp_in i n ∧ X nx ls r (ab_u M k (upd (M k) i.toNatClampNeg x)) N := by
  unfold ab_iast at h; split at h
  · split at h
    · rename_i hΛ
      exact ⟨_, _, _, _, _, rfl, hΛ, h.1, h.2⟩
    · exact h.elim
  · exact h.elim
theorem ab_zast_e {Λ : List ab_L} (h : ab_zast Λ X nx ls st M N) : ∃ x i k r n, st = .int x :: .int i :: .ref k :: r ∧ Λ[k]? = some (.inr (.boolean, n)) ∧ vp_in i n ∧ X nx ls r (ab_u M k (upd (M k) i.toNatClampNeg (vp_nar .boolean x))) N := by
  unfold ab_zast at h; split at h
  · split at h
    · rename_i hΛ
      exact ⟨_, _, _, _, _, rfl, hΛ, h.1, h.2⟩
    · exact h.elim
  · exact h.elim
theorem ab_last_e {Λ : List ab_L} (h : ab_last Λ X nx ls st M N) : ∃ x i k r n, st = .long x :: .int i :: .ref k :: r ∧ Λ[k]? = some (.inr (.long, n)) ∧ vp_in i n ∧ X nx ls r M (ab_u N k (vp_updL (N k) i.toNatClampNeg x)) := by
  unfold ab_last at h; split at h
  · split at h
    · rename_i hΛ
      exact ⟨_, _, _, _, _, rfl, hΛ, h.1, h.2⟩
    · exact h.elim
  · exact h.elim
theorem ab_alen_e {Λ : List ab_L} (h : ab_alen Λ X nx ls st M N) : ∃ k r n, st = .ref k :: r ∧ (Λ[k]? = some (.inr (.int, n)) ∨ Λ[k]? = some (.inr (.long, n))) ∧ X nx ls (.int (Int32.ofNat n) :: r) M N := by
  unfold ab_alen at h; split at h
  · split at h
    · rename_i hΛ
      exact ⟨_, _, _, rfl, Or.inl hΛ, h⟩
    · rename_i hΛ
      exact ⟨_, _, _, rfl, Or.inr hΛ, h⟩
    · exact h.elim
  · exact h.elim
theorem ab_cst_e {k : Nat} {o : Option Value} (h : ab_cst X nx ls st M N k o) : ∃ v, o = some v ∧ v.category = k ∧ X nx ls (v :: st) M N := by
  cases o with
  | none => exact h.elim
  | some v =>
    unfold ab_cst at h
    dsimp only at h
    split at h
    · rename_i hb
      exact ⟨v, rfl, Nat.eq_of_beq_eq_true hb, h⟩
    · exact h.elim
theorem ab_inv_e {o : Option (Nat × ab_T)} (h : ab_inv X nx ls st M N o) : ∃ n T, o = some (n, T) ∧ n ≤ st.length ∧ ab_cs (st.drop n) ≤ 8 ∧ T (st.take n).reverse M N (fun r M2 N2 => X nx ls (ab_ol r (st.drop n)) M2 N2) := by
  unfold ab_inv at h; split at h
  · split at h
    · rename_i h1
      split at h
      · rename_i h2
        exact ⟨_, _, rfl, Nat.le_of_ble_eq_true h1, Nat.le_of_ble_eq_true h2, h⟩
      · exact h.elim
    · exact h.elim
  · exact h.elim
theorem ab_cs_sum (ad : Nat → Nat) : ∀ l : List Value, ab_cs l = ((l.map (ab_c ad)).map fun v => v.category).sum
  | [] => rfl
  | v :: r => by simp only [ab_cs, List.map_cons, List.sum_cons, ab_c_cat, ab_cs_sum ad r]
end AbInv
section AbStep
variable {p : Program} {l : Launch} {e : Env} {R : Room} {s : State} {m : MethodId} {args : Array Value} {below : List Frame} {meth : Method} {c : Code}
variable {cc : ByteArray} {own : String} {nL : Nat} {ret : Option FieldType} {cl : List vw_C} {Λ : List ab_L} {D : va_G} {cy : FieldType → ClassId} {ad : Nat → Nat} {A : Nat → Prop} {Qm : State → Prop} {ck sk : Nat}
theorem ab_call {op : Nat → Instr} {pc i : Nat} {ls : List (Option Value)} {st : List Value} {M : ab_M} {N : ab_N} {inv : List (Nat × Nat × ab_T)} (hinv : ab_Inv p l e R s m args below meth c cc nL cl Λ D cy ad A Qm ck sk op inv) (hdec : decode cc pc = .ok (op i, 3)) (h : ab_inv (ab_X p l e R s m args below meth c nL cl Λ D cy ad A Qm ck sk) (pc + 3) ls st M N (ab_a inv i)) : ab_X p l e R s m args below meth c nL cl Λ D cy ad A Qm ck sk pc ls st M N := by
  intro H locs lsC hP hS hl
  obtain ⟨n, T, h1, h2, h3, h4⟩ := ab_inv_e h
  have key := hinv i n T h1 pc H locs lsC (st.take n).reverse ((st.drop n).map (ab_c ad)) M N _ hdec (by simp; omega) (by rw [← ab_cs_sum ad]; exact h3) hl.1 hP hS h4 (fun r M2 N2 H2 locs2 hk hP2 hS2 => by
    have := hk H2 locs2 lsC hP2 hS2 hl
    cases r with
    | none => exact this
    | some v => exact this)
  have e1 : ((st.take n).reverse.map (ab_c ad)).reverse ++ (st.drop n).map (ab_c ad) = st.map (ab_c ad) := by
    rw [← List.map_reverse, List.reverse_reverse, ← List.map_append, List.take_append_drop]
  rw [e1] at key
  exact key
set_option maxHeartbeats 4000000 in
theorem ab_step {G : ab_G} {P : ab_P} {Q : ab_R} (hE : ab_Env p s m args meth c cc own nL ret cl Λ D cy ad A) (hΛ : G.1 = Λ) (hok : ab_ok cc P = true) (hcl : ab_Cl cl) (hfld : ab_Fld own cl G.2.2.1) (hlam : ab_Lam cl Λ)
    (hQm : Qm = MQ below (ab_Fin cl Λ D cy ad A Q) args s ck sk A)
    (htab : ab_Tab p l e R s m args below meth c cc ad A Qm ck sk G.2.1) (hcst : ab_Cst p l e R s m args below meth c cc ad A Qm ck sk G.2.2.2.1) (hsta : ab_Sta p l e R s m args below meth c cc ad A Qm ck sk G.2.2.2.2.1) (hinv : ab_Inv p l e R s m args below meth c cc nL cl Λ D cy ad A Qm ck sk .invokevirtual G.2.2.2.2.2.1) (hinvS : ab_Inv p l e R s m args below meth c cc nL cl Λ D cy ad A Qm ck sk .invokestatic G.2.2.2.2.2.2)
    (pc : Nat) (ls : List (Option Value)) (st : List Value) (M : ab_M) (N : ab_N) (h : ab_st G P ret nL Q (ab_X p l e R s m args below meth c nL cl Λ D cy ad A Qm ck sk) pc ls st M N) : ab_X p l e R s m args below meth c nL cl Λ D cy ad A Qm ck sk pc ls st M N := by
  obtain ⟨⟨hx, hb, hml, hown, hts⟩, hr, hlocks, hK, hinj, hAad, hA⟩ := hE
  unfold ab_st at h
  split at h
  case h_2 => exact h.elim
  rename_i q hq
  obtain ⟨ins, nx, tg, ks⟩ := q
  obtain ⟨hdec, harg⟩ := ab_ok_q hok hq
  have hD := ab_w_D (cy := cy) hinj hAad M N
  unfold ab_s at h
  dsimp only at h
  split at h
  -- aload_n
  · simp only [ab_arg, Bool.and_eq_true, decide_eq_true_eq] at harg
    obtain ⟨rfl, rfl⟩ := harg
    obtain ⟨x, e1, h⟩ := ab_ld_2 h
    exact fun H locs lsC hP hS hl => lv_aload_n hx hb hdec rfl (ab_lh_at hl e1) (h H locs lsC hP hS hl)
  -- aload
  · have hn : nx = pc + 2 := of_decide_eq_true harg
    subst hn
    obtain ⟨x, e1, h⟩ := ab_ld_2 h
    exact fun H locs lsC hP hS hl => lv_aload hx hb hdec (ab_lh_at hl e1) (h H locs lsC hP hS hl)
  -- iload_n
  · simp only [ab_arg, Bool.and_eq_true, decide_eq_true_eq] at harg
    obtain ⟨rfl, rfl⟩ := harg
    obtain ⟨x, e1, h⟩ := ab_ld_0 h
    exact fun H locs lsC hP hS hl => lv_iload_n hx hb hdec rfl (ab_lh_at hl e1) (h H locs lsC hP hS hl)
  -- iload
  · have hn : nx = pc + 2 := of_decide_eq_true harg
    subst hn
    obtain ⟨x, e1, h⟩ := ab_ld_0 h
    exact fun H locs lsC hP hS hl => lv_iload hx hb hdec (ab_lh_at hl e1) (h H locs lsC hP hS hl)
  -- lload_n
  · simp only [ab_arg, Bool.and_eq_true, decide_eq_true_eq] at harg
    obtain ⟨rfl, rfl⟩ := harg
    obtain ⟨x, e1, h⟩ := ab_ld_1 h
    exact fun H locs lsC hP hS hl => lv_lload_n hx hb hdec rfl (ab_lh_at hl e1) (h H locs lsC hP hS hl)
  -- lload
  · have hn : nx = pc + 2 := of_decide_eq_true harg
    subst hn
    obtain ⟨x, e1, h⟩ := ab_ld_1 h
    exact fun H locs lsC hP hS hl => lv_lload hx hb hdec (ab_lh_at hl e1) (h H locs lsC hP hS hl)
  -- istore_n
  · simp only [ab_arg, Bool.and_eq_true, decide_eq_true_eq] at harg
    obtain ⟨rfl, rfl⟩ := harg
    obtain ⟨h0, x, r, rfl, h3⟩ := ab_s1_0 h
    exact fun H locs lsC hP hS hl => lv_istore_n hx hb hdec rfl hl h0 rfl (fun ls2 hl2 => h3 H locs ls2 hP hS (ab_lh_s1 (v := .int x) hl2))
  -- istore
  · have hn : nx = pc + 2 := of_decide_eq_true harg
    subst hn
    obtain ⟨h0, x, r, rfl, h3⟩ := ab_s1_0 h
    exact fun H locs lsC hP hS hl => lv_istore hx hb hdec hl h0 rfl (fun ls2 hl2 => h3 H locs ls2 hP hS (ab_lh_s1 (v := .int x) hl2))
  -- astore_n
  · simp only [ab_arg, Bool.and_eq_true, decide_eq_true_eq] at harg
    obtain ⟨rfl, rfl⟩ := harg
    obtain ⟨h0, x, r, rfl, h3⟩ := ab_s1_2 h
    exact fun H locs lsC hP hS hl => lv_astore_n hx hb hdec rfl hl h0 rfl (fun ls2 hl2 => h3 H locs ls2 hP hS (ab_lh_s1 (v := .ref x) hl2))
  -- astore
  · have hn : nx = pc + 2 := of_decide_eq_true harg
    subst hn
    obtain ⟨h0, x, r, rfl, h3⟩ := ab_s1_2 h
    exact fun H locs lsC hP hS hl => lv_astore hx hb hdec hl h0 rfl (fun ls2 hl2 => h3 H locs ls2 hP hS (ab_lh_s1 (v := .ref x) hl2))
  -- lstore_n
  · simp only [ab_arg, Bool.and_eq_true, decide_eq_true_eq] at harg
    obtain ⟨rfl, rfl⟩ := harg
    obtain ⟨h0, x, r, rfl, h3⟩ := ab_s2_e h
    exact fun H locs lsC hP hS hl => lv_lstore_n hx hb hdec rfl hl h0 rfl (fun ls2 hl2 => h3 H locs ls2 hP hS (ab_lh_s2 (v := .long x) hl2))
  -- lstore
  · have hn : nx = pc + 2 := of_decide_eq_true harg
    subst hn
    obtain ⟨h0, x, r, rfl, h3⟩ := ab_s2_e h
    exact fun H locs lsC hP hS hl => lv_lstore hx hb hdec hl h0 rfl (fun ls2 hl2 => h3 H locs ls2 hP hS (ab_lh_s2 (v := .long x) hl2))
  -- iinc
  · simp only [ab_arg, Bool.and_eq_true, decide_eq_true_eq] at harg
    obtain ⟨rfl, rfl⟩ := harg
    obtain ⟨h0, x, e1, h3⟩ := ab_inc_e h
    intro H locs lsC hP hS hl
    obtain ⟨k, hk⟩ := List.getElem?_of_mem (ab_lh_in (ad := ad) e1)
    exact lv_iinc hx hb hdec hl hk rfl h0 rfl (fun ls2 hl2 => h3 H locs ls2 hP hS (ab_lh_s1 (v := .int _) hl2))
  -- iconst
  · simp only [ab_arg, Bool.and_eq_true, decide_eq_true_eq] at harg
    obtain ⟨rfl, rfl⟩ := harg
    exact fun H locs lsC hP hS hl => lv_iconst hx hb hdec rfl (h H locs lsC hP hS hl)
  -- bipush
  · simp only [ab_arg, Bool.and_eq_true, decide_eq_true_eq] at harg
    obtain ⟨rfl, rfl⟩ := harg
    exact fun H locs lsC hP hS hl => lv_bipush hx hb hdec rfl (h H locs lsC hP hS hl)
  -- sipush
  · simp only [ab_arg, Bool.and_eq_true, decide_eq_true_eq] at harg
    obtain ⟨rfl, rfl⟩ := harg
    exact fun H locs lsC hP hS hl => lv_sipush hx hb hdec rfl (h H locs lsC hP hS hl)
  -- lconst
  · rename_i n
    simp only [ab_arg, Bool.and_eq_true, decide_eq_true_eq] at harg
    obtain ⟨rfl, rfl⟩ := harg
    intro H locs lsC hP hS hl
    match n, h, hdec with
    | 0, h, hdec => exact lv_lconst hx hb hdec rfl (h H locs lsC hP hS hl)
    | 1, h, hdec => exact lv_lconst hx hb hdec rfl (h H locs lsC hP hS hl)
  -- iadd
  · have hn : nx = pc + 1 := of_decide_eq_true harg
    subst hn
    obtain ⟨x, y, r, rfl, h3⟩ := ab_i2_e h
    exact fun H locs lsC hP hS hl => lv_iadd hx hb hdec (h3 H locs lsC hP hS hl)
  · have hn : nx = pc + 1 := of_decide_eq_true harg
    subst hn
    obtain ⟨x, y, r, rfl, h3⟩ := ab_i2_e h
    exact fun H locs lsC hP hS hl => lv_isub hx hb hdec (h3 H locs lsC hP hS hl)
  · have hn : nx = pc + 1 := of_decide_eq_true harg
    subst hn
    obtain ⟨x, y, r, rfl, h3⟩ := ab_i2_e h
    exact fun H locs lsC hP hS hl => lv_imul hx hb hdec (h3 H locs lsC hP hS hl)
  · have hn : nx = pc + 1 := of_decide_eq_true harg
    subst hn
    obtain ⟨x, y, r, rfl, h3⟩ := ab_i2_e h
    exact fun H locs lsC hP hS hl => lv_iand hx hb hdec (h3 H locs lsC hP hS hl)
  · have hn : nx = pc + 1 := of_decide_eq_true harg
    subst hn
    obtain ⟨x, y, r, rfl, h3⟩ := ab_i2_e h
    exact fun H locs lsC hP hS hl => lv_ior hx hb hdec (h3 H locs lsC hP hS hl)
  · have hn : nx = pc + 1 := of_decide_eq_true harg
    subst hn
    obtain ⟨x, y, r, rfl, h3⟩ := ab_i2_e h
    exact fun H locs lsC hP hS hl => lv_ishl hx hb hdec (h3 H locs lsC hP hS hl)
  · have hn : nx = pc + 1 := of_decide_eq_true harg
    subst hn
    obtain ⟨x, y, r, rfl, h3⟩ := ab_i2_e h
    exact fun H locs lsC hP hS hl => lv_ishr hx hb hdec (h3 H locs lsC hP hS hl)
  -- idiv
  · have hn : nx = pc + 1 := of_decide_eq_true harg
    subst hn
    split at h
    · exact fun H locs lsC hP hS hl => lv_idiv hx hb hdec h.1 (h.2 H locs lsC hP hS hl)
    · exact h.elim
  · have hn : nx = pc + 1 := of_decide_eq_true harg
    subst hn
    split at h
    · exact fun H locs lsC hP hS hl => lv_irem hx hb hdec h.1 (h.2 H locs lsC hP hS hl)
    · exact h.elim
  · have hn : nx = pc + 1 := of_decide_eq_true harg
    subst hn
    split at h
    · exact fun H locs lsC hP hS hl => lv_ineg hx hb hdec (h H locs lsC hP hS hl)
    · exact h.elim
  -- ladd
  · have hn : nx = pc + 1 := of_decide_eq_true harg
    subst hn
    obtain ⟨x, y, r, rfl, h3⟩ := ab_l2_e h
    exact fun H locs lsC hP hS hl => lv_ladd hx hb hdec (h3 H locs lsC hP hS hl)
  · have hn : nx = pc + 1 := of_decide_eq_true harg
    subst hn
    obtain ⟨x, y, r, rfl, h3⟩ := ab_l2_e h
    exact fun H locs lsC hP hS hl => lv_lsub hx hb hdec (h3 H locs lsC hP hS hl)
  · have hn : nx = pc + 1 := of_decide_eq_true harg
    subst hn
    obtain ⟨x, y, r, rfl, h3⟩ := ab_l2_e h
    exact fun H locs lsC hP hS hl => lv_lmul hx hb hdec (h3 H locs lsC hP hS hl)
  · have hn : nx = pc + 1 := of_decide_eq_true harg
    subst hn
    obtain ⟨x, y, r, rfl, h3⟩ := ab_l2_e h
    exact fun H locs lsC hP hS hl => lv_land hx hb hdec (h3 H locs lsC hP hS hl)
  · have hn : nx = pc + 1 := of_decide_eq_true harg
    subst hn
    obtain ⟨x, y, r, rfl, h3⟩ := ab_l2_e h
    exact fun H locs lsC hP hS hl => lv_lor hx hb hdec (h3 H locs lsC hP hS hl)
  -- ldiv
  · have hn : nx = pc + 1 := of_decide_eq_true harg
    subst hn
    split at h
    · exact fun H locs lsC hP hS hl => lv_ldiv hx hb hdec h.1 (h.2 H locs lsC hP hS hl)
    · exact h.elim
  · have hn : nx = pc + 1 := of_decide_eq_true harg
    subst hn
    split at h
    · exact fun H locs lsC hP hS hl => lv_lrem hx hb hdec h.1 (h.2 H locs lsC hP hS hl)
    · exact h.elim
  · have hn : nx = pc + 1 := of_decide_eq_true harg
    subst hn
    split at h
    · exact fun H locs lsC hP hS hl => lv_lneg hx hb hdec (h H locs lsC hP hS hl)
    · exact h.elim
  -- lshl
  · have hn : nx = pc + 1 := of_decide_eq_true harg
    subst hn
    split at h
    · exact fun H locs lsC hP hS hl => lv_lshl hx hb hdec rfl (h H locs lsC hP hS hl)
    · exact h.elim
  · have hn : nx = pc + 1 := of_decide_eq_true harg
    subst hn
    split at h
    · exact fun H locs lsC hP hS hl => lv_lshr hx hb hdec rfl (h H locs lsC hP hS hl)
    · exact h.elim
  -- lcmp
  · have hn : nx = pc + 1 := of_decide_eq_true harg
    subst hn
    split at h
    · exact fun H locs lsC hP hS hl => W.lcmp hx hb hdec (h H locs lsC hP hS hl)
    · exact h.elim
  -- i2l
  · have hn : nx = pc + 1 := of_decide_eq_true harg
    subst hn
    split at h
    · exact fun H locs lsC hP hS hl => lv_i2l hx hb hdec rfl (h H locs lsC hP hS hl)
    · exact h.elim
  · have hn : nx = pc + 1 := of_decide_eq_true harg
    subst hn
    split at h
    · exact fun H locs lsC hP hS hl => lv_l2i hx hb hdec rfl (h H locs lsC hP hS hl)
    · exact h.elim
  · have hn : nx = pc + 1 := of_decide_eq_true harg
    subst hn
    split at h
    · exact fun H locs lsC hP hS hl => lv_i2b hx hb hdec rfl (h H locs lsC hP hS hl)
    · exact h.elim
  · have hn : nx = pc + 1 := of_decide_eq_true harg
    subst hn
    split at h
    · exact fun H locs lsC hP hS hl => lv_i2s hx hb hdec rfl (h H locs lsC hP hS hl)
    · exact h.elim
  -- dup
  · have hn : nx = pc + 1 := of_decide_eq_true harg
    subst hn
    split at h
    · split at h
      · rename_i hc
        exact fun H locs lsC hP hS hl => lv_dup hx hb hdec (by rw [ab_c_cat]; exact Nat.eq_of_beq_eq_true hc) (h H locs lsC hP hS hl)
      · exact h.elim
    · exact h.elim
  -- pop
  · have hn : nx = pc + 1 := of_decide_eq_true harg
    subst hn
    split at h
    · split at h
      · rename_i hc
        exact fun H locs lsC hP hS hl => lv_pop hx hb hdec (by rw [ab_c_cat]; exact Nat.eq_of_beq_eq_true hc) (h H locs lsC hP hS hl)
      · exact h.elim
    · exact h.elim
  -- dup2
  · have hn : nx = pc + 1 := of_decide_eq_true harg
    subst hn
    split at h
    · split at h
      · rename_i hc
        split at h
        · rename_i hc2
          exact fun H locs lsC hP hS hl => lv_dup2_11 hx hb hdec (by rw [ab_c_cat]; exact Nat.eq_of_beq_eq_true hc) (by rw [ab_c_cat]; exact Nat.eq_of_beq_eq_true hc2) (h H locs lsC hP hS hl)
        · exact h.elim
      · exact h.elim
    · exact h.elim
  -- if
  · simp only [ab_arg, Bool.and_eq_true, decide_eq_true_eq] at harg
    obtain ⟨ht, rfl⟩ := harg
    obtain ⟨x, r, rfl, h1, h2⟩ := ab_b1_e h
    exact fun H locs lsC hP hS hl => lv_if_eq hx hb hdec ht (fun z => h1 z H locs lsC hP hS hl) (fun z => h2 z H locs lsC hP hS hl)
  · simp only [ab_arg, Bool.and_eq_true, decide_eq_true_eq] at harg
    obtain ⟨ht, rfl⟩ := harg
    obtain ⟨x, r, rfl, h1, h2⟩ := ab_b1_e h
    exact fun H locs lsC hP hS hl => lv_if_ne hx hb hdec ht (fun z => h2 z H locs lsC hP hS hl) (fun z => h1 z H locs lsC hP hS hl)
  · simp only [ab_arg, Bool.and_eq_true, decide_eq_true_eq] at harg
    obtain ⟨ht, rfl⟩ := harg
    obtain ⟨x, r, rfl, h1, h2⟩ := ab_b1_e h
    exact fun H locs lsC hP hS hl => lv_if_lt hx hb hdec ht (fun z => h1 z H locs lsC hP hS hl) (fun z => h2 z H locs lsC hP hS hl)
  · simp only [ab_arg, Bool.and_eq_true, decide_eq_true_eq] at harg
    obtain ⟨ht, rfl⟩ := harg
    obtain ⟨x, r, rfl, h1, h2⟩ := ab_b1_e h
    exact fun H locs lsC hP hS hl => lv_if_ge hx hb hdec ht (fun z => h1 z H locs lsC hP hS hl) (fun z => h2 z H locs lsC hP hS hl)
  · simp only [ab_arg, Bool.and_eq_true, decide_eq_true_eq] at harg
    obtain ⟨ht, rfl⟩ := harg
    obtain ⟨x, r, rfl, h1, h2⟩ := ab_b1_e h
    exact fun H locs lsC hP hS hl => lv_if_gt hx hb hdec ht (fun z => h1 z H locs lsC hP hS hl) (fun z => h2 z H locs lsC hP hS hl)
  · simp only [ab_arg, Bool.and_eq_true, decide_eq_true_eq] at harg
    obtain ⟨ht, rfl⟩ := harg
    obtain ⟨x, r, rfl, h1, h2⟩ := ab_b1_e h
    exact fun H locs lsC hP hS hl => lv_if_le hx hb hdec ht (fun z => h1 z H locs lsC hP hS hl) (fun z => h2 z H locs lsC hP hS hl)
  -- if_icmp
  · simp only [ab_arg, Bool.and_eq_true, decide_eq_true_eq] at harg
    obtain ⟨ht, rfl⟩ := harg
    obtain ⟨x, y, r, rfl, h1, h2⟩ := ab_b2_e h
    exact fun H locs lsC hP hS hl => lv_icmp_eq hx hb hdec ht (fun z => h1 z H locs lsC hP hS hl) (fun z => h2 z H locs lsC hP hS hl)
  · simp only [ab_arg, Bool.and_eq_true, decide_eq_true_eq] at harg
    obtain ⟨ht, rfl⟩ := harg
    obtain ⟨x, y, r, rfl, h1, h2⟩ := ab_b2_e h
    exact fun H locs lsC hP hS hl => lv_icmp_ne hx hb hdec ht (fun z => h2 z H locs lsC hP hS hl) (fun z => h1 z H locs lsC hP hS hl)
  · simp only [ab_arg, Bool.and_eq_true, decide_eq_true_eq] at harg
    obtain ⟨ht, rfl⟩ := harg
    obtain ⟨x, y, r, rfl, h1, h2⟩ := ab_b2_e h
    exact fun H locs lsC hP hS hl => lv_icmp_lt hx hb hdec ht (fun z => h1 z H locs lsC hP hS hl) (fun z => h2 z H locs lsC hP hS hl)
  · simp only [ab_arg, Bool.and_eq_true, decide_eq_true_eq] at harg
    obtain ⟨ht, rfl⟩ := harg
    obtain ⟨x, y, r, rfl, h1, h2⟩ := ab_b2_e h
    exact fun H locs lsC hP hS hl => lv_icmp_ge hx hb hdec ht (fun z => h1 z H locs lsC hP hS hl) (fun z => h2 z H locs lsC hP hS hl)
  · simp only [ab_arg, Bool.and_eq_true, decide_eq_true_eq] at harg
    obtain ⟨ht, rfl⟩ := harg
    obtain ⟨x, y, r, rfl, h1, h2⟩ := ab_b2_e h
    exact fun H locs lsC hP hS hl => lv_icmp_gt hx hb hdec ht (fun z => h1 z H locs lsC hP hS hl) (fun z => h2 z H locs lsC hP hS hl)
  · simp only [ab_arg, Bool.and_eq_true, decide_eq_true_eq] at harg
    obtain ⟨ht, rfl⟩ := harg
    obtain ⟨x, y, r, rfl, h1, h2⟩ := ab_b2_e h
    exact fun H locs lsC hP hS hl => lv_icmp_le hx hb hdec ht (fun z => h1 z H locs lsC hP hS hl) (fun z => h2 z H locs lsC hP hS hl)
  -- goto
  · simp only [ab_arg, Bool.and_eq_true, decide_eq_true_eq] at harg
    exact fun H locs lsC hP hS hl => lv_goto hx hb hdec harg.1 (h H locs lsC hP hS hl)
  -- tableswitch
  · rename_i d lo hi os
    simp only [ab_arg, Bool.and_eq_true, decide_eq_true_eq] at harg
    obtain ⟨⟨hd, hhi⟩, hsw⟩ := harg
    split at h
    case h_2 => exact h.elim
    intro H locs lsC hP hS hl
    rename_i x r
    refine ab_sw_sound (fun _ => trivial) os.toList ks (ab_tl tg) lo hsw h (fun i o t g1 g2 g3 g4 => ?_) (fun g1 g2 => ?_)
    · have hi2 : i < os.size := by
        have := (List.getElem?_eq_some_iff.mp g1).1
        simpa using this
      refine lv_tableIn hx hb hdec (by omega) (by omega) (off := o) ?_ g3 (g4 H locs lsC hP hS hl)
      rw [show (x.toInt - lo).toNat = i by omega]
      simpa using g1
    · exact lv_tableOut hx hb hdec (by rw [Array.length_toList] at g1; omega) hd (g2 H locs lsC hP hS hl)
  -- getfield
  · have hn : nx = pc + 3 := of_decide_eq_true harg
    subst hn
    rw [hΛ] at h
    obtain ⟨ci, j, k, r, fs, e1, rfl, e3, h3⟩ := ab_get_e h
    obtain ⟨C, T, Nf, f1, f2, f3⟩ := hfld _ ci j e1
    obtain ⟨hin, -, -⟩ := hcl ci C T Nf f1
    intro H locs lsC hP hS hl
    have key : ∀ v : Value, (fs.mapIdx (ab_f ad M N k))[j]? = some v → W p l e R s m args below meth c H locs ck sk Qm (F0 m (pc + 3) lsC (v :: r.map (ab_c ad))) → W p l e R s m args below meth c H locs ck sk Qm (F0 m pc lsC (.ref (ad k) :: r.map (ab_c ad))) := fun v hv kk =>
      va_get hx hb hts hin hown hK hP k (ab_w_at e3) f1 j f2 (hts _ f3) (fun _ h9 => h9) hv hdec kk
    unfold ab_gf at h3
    split at h3
    · rename_i e4
      exact key _ (by rw [List.getElem?_mapIdx, e4]; rfl) (h3 H locs lsC hP hS hl)
    · rename_i e4
      exact key _ (by rw [List.getElem?_mapIdx, e4]; rfl) (h3 H locs lsC hP hS hl)
    · rename_i e4
      exact key _ (by rw [List.getElem?_mapIdx, e4]; rfl) (h3 H locs lsC hP hS hl)
    · rename_i e4
      exact key _ (by rw [List.getElem?_mapIdx, e4]; rfl) (h3 H locs lsC hP hS hl)
    · exact h3.elim
  -- putfield
  · have hn : nx = pc + 3 := of_decide_eq_true harg
    subst hn
    rw [hΛ] at h
    obtain ⟨ci, j, k, v, r, fs, e1, rfl, e3, h3⟩ := ab_put_e h
    obtain ⟨C, T, Nf, f1, f2, f3⟩ := hfld _ ci j e1
    obtain ⟨hin, ⟨ty0, hty⟩, hnm⟩ := hcl ci C T Nf f1
    intro H locs lsC hP hS hl
    unfold ab_pf at h3
    split at h3
    · rename_i e4
      obtain ⟨C2, T2, N2, g1, g2, g3⟩ := hlam k ci fs j .long e3 e4
      cases f1.symm.trans g1
      split at h3
      · rename_i x
        refine va_put (v := .long x) hx hb hts hin ty0 hty hnm hown hK hP hD hS k (ab_w_at e3) f1 j f2 (hts _ f3) (fun _ h9 => h9) g3 g2 rfl rfl (by rw [List.length_mapIdx]; exact (List.getElem?_eq_some_iff.mp e4).1) hdec (fun H1 locs1 hP1 hD1 hS1 => ?_)
        rw [ab_w_OJ e3 e4 x] at hP1
        exact h3 H1 locs1 lsC hP1 hS1 hl
      · exact h3.elim
    · rename_i e4
      obtain ⟨C2, T2, N2, g1, g2, g3⟩ := hlam k ci fs j .int e3 e4
      cases f1.symm.trans g1
      split at h3
      · rename_i x
        refine va_put (v := .int x) hx hb hts hin ty0 hty hnm hown hK hP hD hS k (ab_w_at e3) f1 j f2 (hts _ f3) (fun _ h9 => h9) g3 g2 rfl rfl (by rw [List.length_mapIdx]; exact (List.getElem?_eq_some_iff.mp e4).1) hdec (fun H1 locs1 hP1 hD1 hS1 => ?_)
        rw [ab_w_O e3 e4 (by decide) x] at hP1
        exact h3 H1 locs1 lsC hP1 hS1 hl
      · exact h3.elim
    · rename_i e4
      obtain ⟨C2, T2, N2, g1, g2, g3⟩ := hlam k ci fs j .boolean e3 e4
      cases f1.symm.trans g1
      split at h3
      · rename_i x
        refine va_put (v := .int x) hx hb hts hin ty0 hty hnm hown hK hP hD hS k (ab_w_at e3) f1 j f2 (hts _ f3) (fun _ h9 => h9) g3 g2 h3.1.1 h3.1.2 (by rw [List.length_mapIdx]; exact (List.getElem?_eq_some_iff.mp e4).1) hdec (fun H1 locs1 hP1 hD1 hS1 => ?_)
        rw [ab_w_O e3 e4 (by decide) x] at hP1
        exact h3.2 H1 locs1 lsC hP1 hS1 hl
      · exact h3.elim
    · exact h3.elim
  -- iaload
  · have hn : nx = pc + 1 := of_decide_eq_true harg
    subst hn
    rw [hΛ] at h
    obtain ⟨i, k, r, rfl, ⟨n, e3, hin, h3⟩ | ⟨n, f, e3, hin, h3⟩⟩ := ab_iald_e h
    · exact fun H locs lsC hP hS hl => va_iald hx hb hK hP k 0 (ab_w_at e3) rfl hin hdec (h3 H locs lsC hP hS hl)
    · exact fun H locs lsC hP hS hl => htab k n f e3 pc H locs lsC _ i hS hin hdec (h3 H locs lsC hP hS hl)
  -- baload
  · have hn : nx = pc + 1 := of_decide_eq_true harg
    subst hn
    rw [hΛ] at h
    obtain ⟨i, k, r, n, rfl, e3, hin, h3⟩ := ab_zald_e h
    exact fun H locs lsC hP hS hl => va_zald hx hb hK hP k 2 (ab_w_at e3) rfl hin hdec (h3 H locs lsC hP hS hl)
  -- laload
  · have hn : nx = pc + 1 := of_decide_eq_true harg
    subst hn
    rw [hΛ] at h
    obtain ⟨i, k, r, n, rfl, e3, hin, h3⟩ := ab_lald_e h
    exact fun H locs lsC hP hS hl => va_lald hx hb hK hP k 1 (ab_w_at e3) rfl hin hdec (h3 H locs lsC hP hS hl)
  -- iastore
  · have hn : nx = pc + 1 := of_decide_eq_true harg
    subst hn
    rw [hΛ] at h
    obtain ⟨x, i, k, r, n, rfl, e3, hin, h3⟩ := ab_iast_e h
    intro H locs lsC hP hS hl
    refine va_iast hx hb hK hP hD hS k 0 (ab_w_at e3) rfl hin hdec (fun H1 locs1 hP1 hD1 hS1 => ?_)
    rw [ab_w_I e3 (by decide)] at hP1
    exact h3 H1 locs1 lsC hP1 hS1 hl
  -- bastore
  · have hn : nx = pc + 1 := of_decide_eq_true harg
    subst hn
    rw [hΛ] at h
    obtain ⟨x, i, k, r, n, rfl, e3, hin, h3⟩ := ab_zast_e h
    intro H locs lsC hP hS hl
    refine va_zast hx hb hK hP hD hS k 2 (ab_w_at e3) rfl hin hdec (fun H1 locs1 hP1 hD1 hS1 => ?_)
    rw [ab_w_I e3 (by decide)] at hP1
    exact h3 H1 locs1 lsC hP1 hS1 hl
  -- lastore
  · have hn : nx = pc + 1 := of_decide_eq_true harg
    subst hn
    rw [hΛ] at h
    obtain ⟨x, i, k, r, n, rfl, e3, hin, h3⟩ := ab_last_e h
    intro H locs lsC hP hS hl
    refine va_last hx hb hK hP hD hS k 1 (ab_w_at e3) rfl hin hdec (fun H1 locs1 hP1 hD1 hS1 => ?_)
    rw [ab_w_J e3] at hP1
    exact h3 H1 locs1 lsC hP1 hS1 hl
  -- arraylength
  · have hn : nx = pc + 1 := of_decide_eq_true harg
    subst hn
    rw [hΛ] at h
    obtain ⟨k, r, n, rfl, e3 | e3, h3⟩ := ab_alen_e h
    · exact fun H locs lsC hP hS hl => va_alen hx hb hK hP k 0 (ab_w_at e3) (ty := .int) rfl rfl hdec (h3 H locs lsC hP hS hl)
    · exact fun H locs lsC hP hS hl => va_alen hx hb hK hP k 1 (ab_w_at e3) (ty := .long) rfl rfl hdec (h3 H locs lsC hP hS hl)
  -- ldc
  · have hn : nx = pc + 2 := of_decide_eq_true harg
    subst hn
    obtain ⟨v, e1, h3⟩ := ab_cst_e h
    exact fun H locs lsC hP hS hl => hcst _ v e1 pc 2 H locs lsC _ hS (Or.inl ⟨hdec, rfl, h3.1⟩) (h3.2 H locs lsC hP hS hl)
  · have hn : nx = pc + 3 := of_decide_eq_true harg
    subst hn
    split at h
    · rename_i x e1
      exact fun H locs lsC hP hS hl => hcst _ _ e1 pc 3 H locs lsC _ hS (Or.inr (Or.inl ⟨hdec, rfl, ⟨x, rfl⟩⟩)) (h H locs lsC hP hS hl)
    · exact h.elim
  · have hn : nx = pc + 3 := of_decide_eq_true harg
    subst hn
    obtain ⟨v, e1, h3⟩ := ab_cst_e h
    exact fun H locs lsC hP hS hl => hcst _ v e1 pc 3 H locs lsC _ hS (Or.inr (Or.inr ⟨hdec, rfl, h3.1⟩)) (h3.2 H locs lsC hP hS hl)
  -- getstatic
  · have hn : nx = pc + 3 := of_decide_eq_true harg
    subst hn
    cases e1 : ab_a G.2.2.2.2.1 _ with
    | none => rw [e1] at h; exact h.elim
    | some k => rw [e1] at h; exact fun H locs lsC hP hS hl => hsta _ k e1 pc H locs lsC _ hS hdec (h H locs lsC hP hS hl)
  -- invokevirtual, invokestatic
  · have hn : nx = pc + 3 := of_decide_eq_true harg
    subst hn
    exact ab_call hinv hdec h
  · have hn : nx = pc + 3 := of_decide_eq_true harg
    subst hn
    exact ab_call hinvS hdec h
  -- ireturn
  · intro H locs lsC hP hS hl
    subst hQm
    unfold ab_ret at h
    split at h
    · split at h
      · exact absurd (by assumption : (_ : Nat) = _) (by decide)
      · exact h.elim
    · split at h
      · exact W.iret hx hb hr (fun t ht hW => ⟨⟨_, M, N, rfl, h, by rw [ht]; exact hP⟩, hS.F ht⟩) hS.2.2 hdec hlocks
      · exact h.elim
    · split at h
      · exact absurd (by assumption : (_ : Nat) = _) (by decide)
      · exact h.elim
    · split at h
      · exact W.zret hx hb hr h.1 (fun t ht hW => ⟨⟨_, M, N, rfl, h.2, by rw [ht]; exact hP⟩, hS.F ht⟩) hS.2.2 hdec hlocks
      · exact h.elim
    · exact h.elim
  -- lreturn
  · intro H locs lsC hP hS hl
    subst hQm
    unfold ab_ret at h
    split at h
    · split at h
      · exact absurd (by assumption : (_ : Nat) = _) (by decide)
      · exact h.elim
    · split at h
      · exact absurd (by assumption : (_ : Nat) = _) (by decide)
      · exact h.elim
    · split at h
      · exact W.lret hx hb hr (fun t ht hW => ⟨⟨_, M, N, rfl, h, by rw [ht]; exact hP⟩, hS.F ht⟩) hS.2.2 hdec hlocks
      · exact h.elim
    · split at h
      · exact absurd (by assumption : (_ : Nat) = _) (by decide)
      · exact h.elim
    · exact h.elim
  -- return
  · intro H locs lsC hP hS hl
    subst hQm
    unfold ab_ret at h
    split at h
    · split at h
      · exact W.vret hx hb hr (fun t ht hW => ⟨⟨_, M, N, rfl, h, by rw [ht]; exact hP⟩, hS.F ht⟩) hS.2.2 hdec hlocks
      · exact h.elim
    · split at h
      · exact absurd (by assumption : (_ : Nat) = _) (by decide)
      · exact h.elim
    · split at h
      · exact absurd (by assumption : (_ : Nat) = _) (by decide)
      · exact h.elim
    · split at h
      · exact absurd (by assumption : (_ : Nat) = _) (by decide)
      · exact h.elim
    · exact h.elim
  · exact h.elim
end AbStep
