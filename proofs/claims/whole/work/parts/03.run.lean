/-! the machine is monotone; runs compose -/
abbrev ab_XY (X Y : ab_K) : Prop := ∀ (pc : Nat) (ls : List (Option Value)) (st : List Value) (M : ab_M) (N : ab_N), X pc ls st M N → Y pc ls st M N
section AbMono
variable {X Y : ab_K}
variable {nx : Nat} {ls : List (Option Value)} {st r : List Value} {M : ab_M} {N : ab_N}
theorem ab_ld_mono (hXY : ab_XY X Y) {k : Nat} {v : Option Value} : ab_ld X nx ls st M N k v → ab_ld Y nx ls st M N k v := by
  cases v with
  | none => exact id
  | some w =>
    unfold ab_ld
    intro h
    dsimp only at h ⊢
    split at h
    · exact hXY _ _ _ _ _ h
    · exact hXY _ _ _ _ _ h
    · exact hXY _ _ _ _ _ h
    · exact h.elim
theorem ab_i2_mono (hXY : ab_XY X Y) {f : Int32 → Int32 → Int32} : ab_i2 X nx ls st M N f → ab_i2 Y nx ls st M N f := by
  unfold ab_i2; intro h; split at h
  · exact hXY _ _ _ _ _ h
  · exact h.elim
theorem ab_l2_mono (hXY : ab_XY X Y) {f : Int64 → Int64 → Int64} : ab_l2 X nx ls st M N f → ab_l2 Y nx ls st M N f := by
  unfold ab_l2; intro h; split at h
  · exact hXY _ _ _ _ _ h
  · exact h.elim
theorem ab_b1_mono (hXY : ab_XY X Y) {tg : Nat} {f : Int32 → Prop} : ab_b1 X nx tg ls st M N f → ab_b1 Y nx tg ls st M N f := by
  unfold ab_b1; intro h; split at h
  · exact ⟨fun z => hXY _ _ _ _ _ (h.1 z), fun z => hXY _ _ _ _ _ (h.2 z)⟩
  · exact h.elim
theorem ab_b2_mono (hXY : ab_XY X Y) {tg : Nat} {f : Int32 → Int32 → Prop} : ab_b2 X nx tg ls st M N f → ab_b2 Y nx tg ls st M N f := by
  unfold ab_b2; intro h; split at h
  · exact ⟨fun z => hXY _ _ _ _ _ (h.1 z), fun z => hXY _ _ _ _ _ (h.2 z)⟩
  · exact h.elim
theorem ab_s1_mono (hXY : ab_XY X Y) {nL i k : Nat} : ab_s1 X nx nL i ls st M N k → ab_s1 Y nx nL i ls st M N k := by
  unfold ab_s1; intro h; split at h
  · split at h
    · exact hXY _ _ _ _ _ h
    · exact hXY _ _ _ _ _ h
    · exact h.elim
  · exact h.elim
theorem ab_s2_mono (hXY : ab_XY X Y) {nL i : Nat} : ab_s2 X nx nL i ls st M N → ab_s2 Y nx nL i ls st M N := by
  unfold ab_s2; intro h; split at h
  · split at h
    · exact hXY _ _ _ _ _ h
    · exact h.elim
  · exact h.elim
theorem ab_inc_mono (hXY : ab_XY X Y) {nL i : Nat} {v : Int32} : ab_inc X nx nL i v ls st M N → ab_inc Y nx nL i v ls st M N := by
  unfold ab_inc; intro h; split at h
  · split at h
    · exact hXY _ _ _ _ _ h
    · exact h.elim
  · exact h.elim
theorem ab_gf_mono (hXY : ab_XY X Y) {k j : Nat} {o : Option (Nat ⊕ FieldType)} : ab_gf X nx ls k j r M N o → ab_gf Y nx ls k j r M N o := by
  unfold ab_gf; intro h; split at h
  · exact hXY _ _ _ _ _ h
  · exact hXY _ _ _ _ _ h
  · exact hXY _ _ _ _ _ h
  · exact hXY _ _ _ _ _ h
  · exact h.elim
theorem ab_get_mono (hXY : ab_XY X Y) {Λ : List ab_L} {o : Option (Nat × Nat)} : ab_get Λ X nx ls st M N o → ab_get Λ Y nx ls st M N o := by
  unfold ab_get; intro h; split at h
  · split at h
    · split at h
      · rename_i hΛ
        split at h
        · rename_i hb
          try simp only [hΛ, hb]
          exact ab_gf_mono hXY h
        · exact h.elim
      · exact h.elim
    · exact h.elim
  · exact h.elim
theorem ab_pf_mono (hXY : ab_XY X Y) {k j : Nat} {v : Value} {o : Option (Nat ⊕ FieldType)} : ab_pf X nx ls k j v r M N o → ab_pf Y nx ls k j v r M N o := by
  unfold ab_pf; intro h; split at h
  · split at h
    · exact hXY _ _ _ _ _ h
    · exact h.elim
  · split at h
    · exact hXY _ _ _ _ _ h
    · exact h.elim
  · split at h
    · exact ⟨h.1, hXY _ _ _ _ _ h.2⟩
    · exact h.elim
  · exact h.elim
theorem ab_put_mono (hXY : ab_XY X Y) {Λ : List ab_L} {o : Option (Nat × Nat)} : ab_put Λ X nx ls st M N o → ab_put Λ Y nx ls st M N o := by
  unfold ab_put; intro h; split at h
  · split at h
    · split at h
      · rename_i hΛ
        split at h
        · rename_i hb
          try simp only [hΛ, hb]
          exact ab_pf_mono hXY h
        · exact h.elim
      · exact h.elim
    · exact h.elim
  · exact h.elim
theorem ab_iald_mono (hXY : ab_XY X Y) {Λ : List ab_L} {tab : List (Nat × Nat × (Nat → Int32))} : ab_iald Λ tab X nx ls st M N → ab_iald Λ tab Y nx ls st M N := by
  unfold ab_iald; intro h; split at h
  · split at h
    · rename_i hΛ
      try simp only [hΛ]
      exact ⟨h.1, hXY _ _ _ _ _ h.2⟩
    · rename_i hΛ
      try simp only [hΛ]
      split at h
      · rename_i ht
        try simp only [ht]
        exact ⟨h.1, hXY _ _ _ _ _ h.2⟩
      · exact h.elim
    · exact h.elim
  · exact h.elim
theorem ab_zald_mono (hXY : ab_XY X Y) {Λ : List ab_L} : ab_zald Λ X nx ls st M N → ab_zald Λ Y nx ls st M N := by
  unfold ab_zald; intro h; split at h
  · split at h
    · rename_i hΛ
      try simp only [hΛ]
      exact ⟨h.1, hXY _ _ _ _ _ h.2⟩
    · exact h.elim
  · exact h.elim
theorem ab_lald_mono (hXY : ab_XY X Y) {Λ : List ab_L} : ab_lald Λ X nx ls st M N → ab_lald Λ Y nx ls st M N := by
  unfold ab_lald; intro h; split at h
  · split at h
    · rename_i hΛ
      try simp only [hΛ]
      exact ⟨h.1, hXY _ _ _ _ _ h.2⟩
    · exact h.elim
  · exact h.elim
theorem ab_iast_mono (hXY : ab_XY X Y) {Λ : List ab_L} : ab_iast Λ X nx ls st M N → ab_iast Λ Y nx ls st M N := by
  unfold ab_iast; intro h; split at h
  · split at h
    · rename_i hΛ
      try simp only [hΛ]
      exact ⟨h.1, hXY _ _ _ _ _ h.2⟩
    · exact h.elim
  · exact h.elim
theorem ab_zast_mono (hXY : ab_XY X Y) {Λ : List ab_L} : ab_zast Λ X nx ls st M N → ab_zast Λ Y nx ls st M N := by
  unfold ab_zast; intro h; split at h
  · split at h
    · rename_i hΛ
      try simp only [hΛ]
      exact ⟨h.1, hXY _ _ _ _ _ h.2⟩
    · exact h.elim
  · exact h.elim
theorem ab_last_mono (hXY : ab_XY X Y) {Λ : List ab_L} : ab_last Λ X nx ls st M N → ab_last Λ Y nx ls st M N := by
  unfold ab_last; intro h; split at h
  · split at h
    · rename_i hΛ
      try simp only [hΛ]
      exact ⟨h.1, hXY _ _ _ _ _ h.2⟩
    · exact h.elim
  · exact h.elim
theorem ab_alen_mono (hXY : ab_XY X Y) {Λ : List ab_L} : ab_alen Λ X nx ls st M N → ab_alen Λ Y nx ls st M N := by
  unfold ab_alen; intro h; split at h
  · split at h
    · rename_i hΛ
      try simp only [hΛ]
      exact hXY _ _ _ _ _ h
    · rename_i hΛ
      try simp only [hΛ]
      exact hXY _ _ _ _ _ h
    · exact h.elim
  · exact h.elim
theorem ab_cst_mono (hXY : ab_XY X Y) {k : Nat} {o : Option Value} : ab_cst X nx ls st M N k o → ab_cst Y nx ls st M N k o := by
  cases o with
  | none => exact id
  | some v =>
    unfold ab_cst
    dsimp only
    intro h
    split at h
    · exact hXY _ _ _ _ _ h
    · exact h.elim
theorem ab_sta_mono (hXY : ab_XY X Y) {o : Option Nat} : ab_sta X nx ls st M N o → ab_sta Y nx ls st M N o := by
  cases o with
  | none => exact id
  | some v => exact hXY _ _ _ _ _
theorem ab_inv_mono (hXY : ab_XY X Y) {o : Option (Nat × ab_T)} (hm : ∀ (n : Nat) (T : ab_T), o = some (n, T) → ab_mono T) : ab_inv X nx ls st M N o → ab_inv Y nx ls st M N o := by
  unfold ab_inv; intro h; split at h
  · rename_i n T
    split at h
    · rename_i h1
      split at h
      · rename_i h2
        try simp only [h1, h2]
        exact hm n T rfl _ _ _ _ _ (fun r M2 N2 => hXY _ _ _ _ _) h
      · exact h.elim
    · exact h.elim
  · exact h.elim
end AbMono
theorem ab_sw_mono {X Y : Nat → Prop} (h : ∀ t, X t → Y t) {x : Int32} {d : Nat} : ∀ (ks : List Int32) (ts : List Nat), ab_sw X x d ks ts → ab_sw Y x d ks ts
  | k :: ks, t :: ts => fun z => ⟨fun w => h _ (z.1 w), fun w => ab_sw_mono h ks ts (z.2 w)⟩
  | [], _ => fun z => h _ z
  | _ :: _, [] => fun z => h _ z
set_option maxHeartbeats 4000000 in
theorem ab_s_mono {G : ab_G} (hG : ab_MG G) {ret : Option FieldType} {nL : Nat} {Q : ab_R} {X Y : ab_K} (hXY : ∀ (pc : Nat) (ls : List (Option Value)) (st : List Value) (M : ab_M) (N : ab_N), X pc ls st M N → Y pc ls st M N) {q : ab_Q} {ls : List (Option Value)} {st : List Value} {M : ab_M} {N : ab_N} : ab_s G ret nL Q X q ls st M N → ab_s G ret nL Q Y q ls st M N := by
  obtain ⟨ins, nx, tg, ks⟩ := q
  unfold ab_s
  dsimp only
  intro h
  split at h
  all_goals first
    | exact ab_ld_mono hXY h
    | exact ab_s1_mono hXY h
    | exact ab_s2_mono hXY h
    | exact ab_inc_mono hXY h
    | exact ab_i2_mono hXY h
    | exact ab_l2_mono hXY h
    | exact ab_b1_mono hXY h
    | exact ab_b2_mono hXY h
    | exact ab_get_mono hXY h
    | exact ab_put_mono hXY h
    | exact ab_iald_mono hXY h
    | exact ab_zald_mono hXY h
    | exact ab_lald_mono hXY h
    | exact ab_iast_mono hXY h
    | exact ab_zast_mono hXY h
    | exact ab_last_mono hXY h
    | exact ab_alen_mono hXY h
    | exact ab_cst_mono hXY h
    | exact ab_sta_mono hXY h
    | exact ab_inv_mono hXY (fun n T e => hG.1 _ n T e) h
    | exact ab_inv_mono hXY (fun n T e => hG.2 _ n T e) h
    | exact hXY _ _ _ _ _ h
    | exact h
    | (split at h <;> first | exact hXY _ _ _ _ _ h | exact h.elim | exact ⟨h.1, hXY _ _ _ _ _ h.2⟩ | exact ab_sw_mono (fun t => hXY _ _ _ _ _) _ _ h)
    | (split at h
       · split at h
         · exact hXY _ _ _ _ _ h
         · exact h.elim
       · exact h.elim)
    | (split at h
       · split at h
         · split at h
           · exact hXY _ _ _ _ _ h
           · exact h.elim
         · exact h.elim
       · exact h.elim)
theorem ab_st_mono {G : ab_G} (hG : ab_MG G) {P : ab_P} {ret : Option FieldType} {nL : Nat} {Q : ab_R} {X Y : ab_K} (hXY : ∀ (pc : Nat) (ls : List (Option Value)) (st : List Value) (M : ab_M) (N : ab_N), X pc ls st M N → Y pc ls st M N) {pc : Nat} {ls : List (Option Value)} {st : List Value} {M : ab_M} {N : ab_N} : ab_st G P ret nL Q X pc ls st M N → ab_st G P ret nL Q Y pc ls st M N := by
  unfold ab_st
  intro h
  split at h
  · rename_i q hq
    try simp only [hq]
    exact ab_s_mono hG hXY h
  · exact h.elim
theorem ab_g_kp : ∀ (kp : List Bool) (i : Nat) (ls : List (Option Value)) (j : Nat) (v : Value), ab_g (ab_kp kp i ls) j = some v → ab_g ls (i + j) = some v
  | [], _, _, _, _ => fun h => by cases h
  | true :: r, i, ls, 0, v => fun h => h
  | false :: r, i, ls, 0, v => fun h => by cases h
  | true :: r, i, ls, j + 1, v => fun h => by
    have := ab_g_kp r (i + 1) ls j v h
    rwa [Nat.add_right_comm, Nat.add_assoc] at this
  | false :: r, i, ls, j + 1, v => fun h => by
    have := ab_g_kp r (i + 1) ls j v h
    rwa [Nat.add_right_comm, Nat.add_assoc] at this
theorem ab_kp_le (kp : List Bool) (ls : List (Option Value)) : ab_Le (ab_kp kp 0 ls) ls := fun j v h => by
  have := ab_g_kp kp 0 ls j v h
  rwa [Nat.zero_add] at this
section AbRun
variable {G : ab_G} {P : ab_P} {ret : Option FieldType} {nL : Nat} {Q : ab_R}
theorem ab_Run_up : ab_Up (ab_Run G P ret nL Q) := fun pc a b st M N hab h X hU hX => hU pc a b st M N hab (h X hU hX)
theorem ab_Run_k (hG : ab_MG G) {sp : List (Nat × List Bool)} : ∀ (n : Nat) (pc : Nat) (ls : List (Option Value)) (st : List Value) (M : ab_M) (N : ab_N), ab_k G P ret nL Q sp (ab_Run G P ret nL Q) n pc ls st M N → ab_Run G P ret nL Q pc ls st M N := by
  intro n
  induction n with
  | zero => intro pc ls st M N h; exact h
  | succ n ih =>
    intro pc ls st M N h
    unfold ab_k at h
    split at h
    · exact ab_Run_up pc _ _ st M N (ab_kp_le _ ls) h
    · intro X hU hX
      refine hX pc ls st M N (ab_st_mono hG (fun pc2 ls2 st2 M2 N2 h2 => ih pc2 ls2 st2 M2 N2 h2 X hU hX) h)
/-- a first step, then up to n more -/
theorem ab_Run_s (hG : ab_MG G) {sp : List (Nat × List Bool)} (n : Nat) {pc : Nat} {ls : List (Option Value)} {st : List Value} {M : ab_M} {N : ab_N} (h : ab_st G P ret nL Q (ab_k G P ret nL Q sp (ab_Run G P ret nL Q) n) pc ls st M N) : ab_Run G P ret nL Q pc ls st M N := fun X hU hX =>
  hX pc ls st M N (ab_st_mono hG (fun pc2 ls2 st2 M2 N2 h2 => ab_Run_k hG n pc2 ls2 st2 M2 N2 h2 X hU hX) h)
end AbRun
