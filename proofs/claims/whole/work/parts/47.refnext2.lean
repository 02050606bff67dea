/-! the reference: the next token, whole *)
-/
section TkEq
variable {B : Nat → Int32} {n i pl : Nat}
theorem zTk_e (hp : zRun zbS B (n - i) i = pl) (h : n ≤ pl) : zTk B n i = (-1, 0, pl, pl + 1) := by unfold zTk; dsimp only; rw [hp, if_pos h]
theorem zTk_w (hp : zRun zbS B (n - i) i = pl) (h : pl < n) (hl : zbL (B pl) = true) : zTk B n i = (zWd B pl (zRun zbL B (n - (pl + 1)) (pl + 1)), 0, pl, zRun zbL B (n - (pl + 1)) (pl + 1)) := by unfold zTk; dsimp only; rw [hp, if_neg (by omega), if_pos hl]
theorem zTk_d (hp : zRun zbS B (n - i) i = pl) (h : pl < n) (hl : ¬ zbL (B pl) = true) (hd : zbD (B pl) = true) : zTk B n i = (if 4 < zRun zbD B (n - (pl + 1)) (pl + 1) - pl then -2 else 0, zNumF B (zRun zbD B (n - (pl + 1)) (pl + 1) - (pl + 1)) (pl + 1) (B pl - 48), pl, zRun zbD B (n - (pl + 1)) (pl + 1)) := by unfold zTk; dsimp only; rw [hp, if_neg (by omega), if_neg hl, if_pos hd]
theorem zTk_s (hp : zRun zbS B (n - i) i = pl) (h : pl < n) (hl : ¬ zbL (B pl) = true) (hd : ¬ zbD (B pl) = true) : zTk B n i = (if zSign (B pl) then B pl else -2, 0, pl, pl + 1) := by unfold zTk; dsimp only; rw [hp, if_neg (by omega), if_neg hl, if_neg hd]
end TkEq
theorem zTR_w {pl el k : Nat} {wd tok val : Int32} (hw : (k < 3 ∧ wd = nI (7 + k)) ∨ (3 ≤ k ∧ k < 9 ∧ wd = nI (k - 2)) ∨ (9 ≤ k ∧ k < 12 ∧ wd = nI (k + 1)) ∨ (k = 12 ∧ wd = -2)) (ht : (k < 3 ∧ tok = 3 ∧ val = nI k) ∨ (3 ≤ k ∧ k < 9 ∧ tok = 2 ∧ val = nI (k - 3)) ∨ (9 ≤ k ∧ k < 12 ∧ tok = nI (k - 5)) ∨ (k = 12 ∧ tok = -1)) : zTR (wd, 0, pl, el) tok val (nI el) := by
  refine Or.inr ⟨?_, rfl, ?_⟩
  · show ¬ wd = -1
    rcases hw with ⟨h1, e⟩ | ⟨h1, h2, e⟩ | ⟨h1, h2, e⟩ | ⟨h1, e⟩
    · rw [e]; exact nI_m1 (by omega)
    · rw [e]; exact nI_m1 (by omega)
    · rw [e]; exact nI_m1 (by omega)
    · rw [e]; decide
  · rcases hw with ⟨h1, e⟩ | ⟨h1, h2, e⟩ | ⟨h1, h2, e⟩ | ⟨h1, e⟩
    · have t := ht.resolve_right (fun z => by rcases z with z | z | z <;> omega)
      exact Or.inr (Or.inr (Or.inl ⟨k, h1, e, t.2⟩))
    · have t := (ht.resolve_left (fun z => by omega)).resolve_right (fun z => by rcases z with z | z <;> omega)
      exact Or.inr (Or.inl ⟨k, h1, h2, e, t.2.2⟩)
    · have t := ((ht.resolve_left (fun z => by omega)).resolve_left (fun z => by omega)).resolve_right (fun z => by omega)
      exact Or.inr (Or.inr (Or.inr (Or.inl ⟨k, h1, h2, e, t.2.2⟩)))
    · have t := ((ht.resolve_left (fun z => by omega)).resolve_left (fun z => by omega)).resolve_left (fun z => by omega)
      exact Or.inr (Or.inr (Or.inr (Or.inr (Or.inr ⟨e, t.2⟩))))
theorem zWds_m {wl : List Int32} {L : Nat} (hl : wl.length = L) (hb : ∀ c ∈ wl, zbL c = true) : ∀ j, j < 12 → (zWds j = (if 5 < L then 0 else lN (zPk wl.reverse)) ↔ wl = zKwR.getD j []) := by
  intro j hj
  obtain ⟨w1, w2, w3, w4, w5⟩ := zWds_pk j hj
  rw [w1]
  by_cases c : 5 < L
  · rw [if_pos c]
    constructor
    · intro z
      have := (pk_lEQ (b := 0) (by omega) (by decide)).mp (show _ = lN 0 from z)
      omega
    · intro z
      rw [← z] at w5
      omega
  · rw [if_neg c]
    have lt := zPk_lt wl.reverse (fun x hx => hb x (List.mem_reverse.mp hx))
    rw [List.length_reverse, hl] at lt
    have lt5 : zPk wl.reverse < 256 ^ 5 := Nat.lt_of_lt_of_le lt (Nat.pow_le_pow_right (by decide) (by omega))
    have lt6 : zPk wl.reverse < 1099511627776 := lt5
    constructor
    · intro z
      have e := (pk_lEQ (by omega) (by omega)).mp z
      have e2 := zPk_inj _ _ (fun x hx => w4 x (List.mem_reverse.mp hx)) (fun x hx => hb x (List.mem_reverse.mp hx)) e
      exact (List.reverse_inj.mp e2).symm
    · intro z
      rw [← z]
theorem zE_X12_next (as : List Value) (M : ab_M) (N : ab_N) (k : ab_R) (hT : zt_X12_next as M N k) : ab_cs as ≤ 5 ∧ zr_X12_next k 0 (ab_en as) [] M N := by
  obtain ⟨⟨n, i⟩, r, rfl, ⟨rfl, hT, hi, h50⟩, hk⟩ := hT
  dsimp only at hT hi h50 hk ⊢
  obtain ⟨hn, h20, hB, hWd⟩ := id hT
  refine ⟨Nat.le_of_ble_eq_true rfl, ?_⟩
  -- what is told at the end
  have fin : ∀ g : Nat → Int32, (∀ j, j ≠ 50 → j ≠ 51 → j ≠ 52 → j ≠ 53 → g j = M 0 j) → g 51 = nI (zTk (M 12) n i).2.2.1 → zTR (zTk (M 12) n i) (g 52) (g 53) (g 50) → k none (ab_u M 0 g) N := fun g a b c => hk _ _ _ ⟨rfl, rfl, g, rfl, a, b, c⟩
  have mid : ∀ (pl : Nat) (f : Nat → Int32), zRun zbS (M 12) (n - i) i = pl → pl ≤ n → (∀ j, j ≠ 50 → j ≠ 51 → j ≠ 52 → j ≠ 53 → f j = M 0 j) → f 50 = nI pl → zr_X12_next k 52 [some (.ref 0), none, none, none, none] [] (ab_u M 0 f) N := by
    intro pl f hp hpn f0 f50
    refine zv_X12_next_52 ?_
    rw [ab_u_eq, ab_u_ne _ _ (show (12 : Nat) ≠ 0 by decide)]
    intro z1 z2 z3
    have g0 : ∀ j, j ≠ 50 → j ≠ 51 → j ≠ 52 → j ≠ 53 → z3 j = M 0 j := fun j a b c d => by simp only [z3, z2, z1]; rw [upd_ne _ _ d, upd_ne _ _ c, upd_ne _ _ b]; exact f0 j a b c d
    have g50 : z3 50 = nI pl := by simp only [z3, z2, z1]; rw [upd_ne _ _ (by decide), upd_ne _ _ (by decide), upd_ne _ _ (by decide), f50]
    have g51 : z3 51 = nI pl := by simp only [z3, z2, z1]; rw [upd_ne _ _ (by decide), upd_ne _ _ (by decide), upd_eq, f50]
    have g52 : z3 52 = 0 := by simp only [z3, z2]; rw [upd_ne _ _ (by decide), upd_eq]
    have g53 : z3 53 = 0 := by simp only [z3]; rw [upd_eq]
    have g20 : z3 20 = nI n := by rw [g0 20 (by decide) (by decide) (by decide) (by decide), h20]
    clear_value z3
    rw [ab_u_u, ab_u_u, ab_u_u, g50, g20, nI_clamp (show pl < 2 ^ 31 by omega)]
    refine ⟨fun c => ?_, fun c => ?_⟩
    · have e : pl = n := (nI_eq (by omega) (by omega)).mp c
      have et := zTk_e hp (show n ≤ pl by omega)
      rw [et] at fin
      exact fin z3 g0 g51 (Or.inl ⟨rfl, g52, g50⟩)
    · have hlt : pl < n := by
        rcases Nat.lt_or_eq_of_le hpn with q | q
        · exact q
        · exact absurd (by rw [q]) c
      have hb0 := hB pl hlt
      refine ⟨nI_in_ (by omega), fun cL => ⟨fun cD => ?_, fun cD => ?_⟩, fun cL => ?_⟩
      · -- a sign, or none
        have et := zTk_s hp hlt (zbL_b.mp cL) (zbD_b.mp cD)
        rw [et] at fin
        have ne1 : ¬ M 12 pl = -1 := fun z => by rw [z] at hb0; exact absurd hb0 (by decide)
        have one : zSign (M 12 pl) → zr_X12_next k 363 [some (.ref 0), some (.int (M 12 pl)), none, none, none] [.int (1 : Int32)] (ab_u M 0 z3) N := by
          intro hs
          rw [if_pos hs] at fin
          refine zv_X12_next_363 _ _ ⟨fun z => absurd z (by decide), fun _ => ?_⟩
          rw [ab_u_eq]
          intro z4 z5
          rw [ab_u_u, ab_u_u]
          refine fin z5 (fun j a b c d => by simp only [z5, z4]; rw [upd_ne _ _ a, upd_ne _ _ c]; exact g0 j a b c d) (by simp only [z5, z4]; rw [upd_ne _ _ (by decide), upd_ne _ _ (by decide), g51]) (Or.inr ⟨ne1, ?_, Or.inr (Or.inr (Or.inr (Or.inr (Or.inl ⟨hs, ?_⟩))))⟩)
          · simp only [z5, z4]; rw [upd_eq, upd_ne _ _ (by decide), g50, nI_1]
          · simp only [z5, z4]; rw [upd_ne _ _ (by decide), upd_eq]
        have zero : ¬ zSign (M 12 pl) → zr_X12_next k 363 [some (.ref 0), some (.int (M 12 pl)), none, none, none] [.int (0 : Int32)] (ab_u M 0 z3) N := by
          intro hs
          rw [if_neg hs] at fin
          refine zv_X12_next_363 _ _ ⟨fun _ => ?_, fun z => absurd rfl z⟩
          rw [ab_u_eq]
          intro z4 z5
          rw [ab_u_u, ab_u_u]
          refine fin z5 (fun j a b c d => by simp only [z5, z4]; rw [upd_ne _ _ a, upd_ne _ _ c]; exact g0 j a b c d) (by simp only [z5, z4]; rw [upd_ne _ _ (by decide), upd_ne _ _ (by decide), g51]) (Or.inr ⟨show ¬ (-2 : Int32) = -1 by decide, ?_, Or.inr (Or.inr (Or.inr (Or.inr (Or.inr ⟨rfl, ?_⟩))))⟩)
          · simp only [z5, z4]; rw [upd_eq, upd_ne _ _ (by decide), g50, nI_1]
          · simp only [z5, z4]; rw [upd_ne _ _ (by decide), upd_eq]
        exact ⟨fun c1 => one (by simp [zSign, c1]), fun d1 => ⟨fun c1 => one (by simp [zSign, c1]), fun d2 => ⟨fun c1 => one (by simp [zSign, c1]), fun d3 => ⟨fun c1 => one (by simp [zSign, c1]), fun d4 => ⟨fun c1 => one (by simp [zSign, c1]), fun d5 => ⟨fun c1 => one (by simp [zSign, c1]), fun d6 => ⟨fun c1 => one (by simp [zSign, c1]), fun d7 => ⟨fun c1 => one (by simp [zSign, c1]), fun d8 => zero (fun z => by simp only [zSign] at z; grind)⟩⟩⟩⟩⟩⟩⟩⟩
      · -- a number
        have hd : zbD (M 12 pl) = true := Decidable.byContradiction fun z => cD (zbD_b.mpr z)
        have et := zTk_d hp hlt (zbL_b.mp cL) hd
        have ge := zRun_ge zbD (M 12) (n - (pl + 1)) (pl + 1)
        have le : zRun zbD (M 12) (n - (pl + 1)) (pl + 1) ≤ n := zRun_lt (by omega)
        have go := zRun_go (n := n) hlt hd
        generalize zRun zbD (M 12) (n - (pl + 1)) (pl + 1) = e at et ge le go
        rw [et] at fin
        have := zL_next_d (Q := k) hT (show pl < e by omega) le (num := zNumF (M 12) (e - (pl + 1)) (pl + 1) (M 12 pl - 48)) (fun g a b c d => fin g (fun j x y z w => a j x z w y) b ?_) (n - pl) pl z3 (by omega) (Nat.le_refl _) go (fun j a b c d => g0 j a d b c) g51 g50 (fun z => ?_)
        · rw [Nat.sub_self] at this
          exact this
        · rw [c]
          rcases d with ⟨d1, d2, d3⟩ | ⟨d1, d2⟩
          · rw [if_neg (by omega), d2, d3]
            exact Or.inr ⟨show ¬ (0 : Int32) = -1 by decide, rfl, Or.inl ⟨rfl, rfl, rfl⟩⟩
          · rw [if_pos d1, d2]
            exact Or.inr ⟨show ¬ (-2 : Int32) = -1 by decide, rfl, Or.inr (Or.inr (Or.inr (Or.inr (Or.inr ⟨rfl, rfl⟩))))⟩
        · rw [show e - pl = (e - (pl + 1)) + 1 by omega, g53]
          show zNumF (M 12) (e - (pl + 1)) (pl + 1) (0 * 10 + M 12 pl - 48) = _
          rw [Int32.zero_mul, Int32.zero_add]
      · -- a word
        have hl : zbL (M 12 pl) = true := Decidable.byContradiction fun z => cL (zbL_b.mpr z)
        have et := zTk_w hp hlt hl
        have ge := zRun_ge zbL (M 12) (n - (pl + 1)) (pl + 1)
        have le : zRun zbL (M 12) (n - (pl + 1)) (pl + 1) ≤ n := zRun_lt (by omega)
        have go := zRun_go (n := n) hlt hl
        have m12 : ab_u M 0 z3 12 = M 12 := ab_u_ne _ _ (by decide)
        refine ⟨(n, pl), _, rfl, ⟨rfl, ⟨hn, by rw [ab_u_eq, g20], by rw [m12]; exact hB, hWd⟩, hlt, by rw [ab_u_eq, g50]⟩, ?_⟩
        rintro o M2 N2 ⟨rfl, rfl, rfl⟩
        dsimp only
        rw [m12, go]
        generalize hel : zRun zbL (M 12) (n - (pl + 1)) (pl + 1) = el at et ge le go
        rw [et] at fin
        rw [ab_u_u, ab_u_eq]
        have hall : ∀ c ∈ zFw (M 12) pl (el - pl), zbL c = true := fun c hc => by
          obtain ⟨t, t1, t2, t3⟩ := zFw_mem _ _ hc
          rw [← t3]
          have al : ∀ (fu j : Nat), j ≤ t → t < zRun zbL (M 12) fu j → zbL (M 12 t) = true := by
            intro fu
            induction fu with
            | zero => intro j h1 h2; exact absurd h2 (by show ¬ t < j; omega)
            | succ fu ihf =>
              intro j h1 h2
              unfold zRun at h2
              by_cases q : zbL (M 12 j) = true
              · rw [if_pos q] at h2
                by_cases q2 : t = j
                · rw [q2]; exact q
                · exact ihf (j + 1) (by omega) h2
              · rw [if_neg q] at h2; omega
          exact al (n - pl) pl t1 (by rw [go]; omega)
        have hm := zWds_m (zFw_len (M 12) (el - pl) pl) hall
        refine zv_X12_next_107 _ ?_
        refine zL_next_k hWd hm ?_ zKwR 0 rfl rfl rfl
        have kb := (zKx_ge (zFw (M 12) pl (el - pl)) zKwR 0).2
        refine zL_next_t _ _ (by simpa [zKwR] using kb) (fun g a b => ?_)
        have rel := zKx_rel (zFw (M 12) pl (el - pl))
        rw [← zWd_kw (show pl ≤ el by omega)] at rel
        refine fin g (fun j x y z w => by rw [a j z w, upd_ne _ _ x]; exact g0 j x y z w) (by rw [a 51 (by decide) (by decide), upd_ne _ _ (by decide), g51]) ?_
        rw [a 50 (by decide) (by decide), upd_eq]
        exact zTR_w rel b
  -- the spaces
  have lp : ∀ (r j : Nat) (f : Nat → Int32), j + r = n → i ≤ j → zRun zbS (M 12) (n - j) j = zRun zbS (M 12) (n - i) i → (∀ q, q ≠ 50 → q ≠ 51 → q ≠ 52 → q ≠ 53 → f q = M 0 q) → f 50 = nI j → zr_X12_next k 0 [some (.ref 0), none, none, none, none] [] (ab_u M 0 f) N := by
    intro r
    induction r with
    | zero =>
      intro j f hj hij hr f0 f50
      refine zv_X12_next_0 ⟨fun _ => mid j f (by rw [← hr, show n - j = 0 by omega]; rfl) (by omega) f0 f50, fun c => absurd ?_ c⟩
      rw [ab_u_eq, f50, f0 20 (by decide) (by decide) (by decide) (by decide), h20]
      exact nI_le (by omega) (by omega)
    | succ r ih =>
      intro j f hj hij hr f0 f50
      have hjn : j < n := by omega
      have hs := fun z => mid j f z (show j ≤ n by omega) f0 f50
      refine zv_X12_next_0 ?_
      rw [ab_u_eq, f50, f0 20 (by decide) (by decide) (by decide) (by decide), h20, nI_clamp (show j < 2 ^ 31 by omega), ab_u_ne _ _ (show (12 : Nat) ≠ 0 by decide), nI_1]
      have goon : zbS (M 12 j) = true → let z1 : Nat → Int32 := upd f 50 (nI (j + 1)); zr_X12_next k 0 [some (.ref 0), none, none, none, none] [] (ab_u (ab_u M 0 f) 0 z1) N := by
        intro hd z1
        rw [zRun_go hjn hd] at hr
        rw [ab_u_u]
        exact ih (j + 1) z1 (by omega) (by omega) hr (fun q a b c d => by simp only [z1]; rw [upd_ne _ _ a]; exact f0 q a b c d) (by simp only [z1]; rw [upd_eq])
      have hin : vp_in (nI j) 160 := nI_in_ (by omega)
      refine ⟨fun c => absurd c (nI_ge (by omega) (by omega)), fun _ => ⟨hin, fun c => goon (zbS_b.mpr (Or.inl c)), fun c => ⟨hin, fun c2 => goon (zbS_b.mpr (Or.inr c2)), fun c2 => hs ?_⟩⟩⟩
      rw [← hr, zRun_st (fun z => (zbS_b.mp z.2).elim c c2)]
  have := lp (n - i) i (M 0) (by omega) (Nat.le_refl _) rfl (fun _ _ _ _ _ => rfl) h50
  rw [ab_u_self] at this
  refine ab_Run_up _ _ _ _ _ _ (fun j v hj => ?_) this
  match j, hj with
  | 0, hj => exact hj
  | 1, hj => cases hj
  | 2, hj => cases hj
  | 3, hj => cases hj
  | 4, hj => cases hj
  | j + 5, hj => exact absurd hj (by rw [show ab_g [some (Value.ref 0), none, none, none, none] (j + 5) = ab_g [] j from rfl, ab_g_nil]; exact fun z => by cases z)
abbrev zR_X12_next : Room := { frames := 2, cells := 0, slots := 0, locals := 45 }
set_option maxRecDepth 20000 in
theorem zM_X12_next (l : Launch) : ab_Met l zw_M vwCl zZ_M yX12_next cX12_next 5 none zR_X12_next zt_X12_next := ab_ofRun (G := zg_X12_next) (P := zp_X12_next) rfl zo_X12_next (by decide +kernel) zl_cl zl_lamM zf_X12_ok ab_Tab_nil zc_X12_ok ab_Sta_nil (List.forall_mem_cons.mpr ⟨ab_callV zZ_M_ok (zM_X12_letters l) (ab_in 1238 (by decide +kernel) rfl) (ab_in 1235 (by decide +kernel) rfl) (ab_in 1237 (by decide +kernel) rfl) (ab_inS (List.mem_of_getElem? (i := 29) (by decide +kernel)) rfl) (ab_in 17 (by decide +kernel) rfl) (by unfold ab_yok; decide +kernel) ⟨rfl, rfl⟩ (by decide) zV_X12_letters, List.forall_mem_nil _⟩) (List.forall_mem_cons.mpr ⟨ab_callS zZ_M_ok (zM_X12_in l) (ab_in 1200 (by decide +kernel) rfl) (ab_in 1198 (by decide +kernel) rfl) (ab_in 1199 (by decide +kernel) rfl) (ab_in 17 (by decide +kernel) rfl) (by unfold ab_yok; decide +kernel) ⟨rfl, rfl⟩ (by decide), List.forall_mem_nil _⟩) zE_X12_next
