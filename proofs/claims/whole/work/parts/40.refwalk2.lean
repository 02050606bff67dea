/-! the reference: who looks in an hour; the night's walk *)
-/
section RefConds
variable {d M : ab_M}
theorem zDoes_r (hR : zRN d M) {m : Nat} (hm : m < zMen d) (h : Nat) : ab_b (¬ nI m = M 0 30 ∧ (¬ M 6 m = 5 ∨ ¬ nI h - nI h / (M 10 m + 2) * (M 10 m + 2) = M 10 m + 1)) = 0 ↔ ¬ zDoes d m h := by
  obtain ⟨kd, po, en, pa, mo, q1, q2, q3, q4, q5, q6, e1, e2, e3, e4, e5, f1, f2, f3, f4, f5⟩ := zMan_n hR hm
  rw [ab_b_0, ← hR.1.2.2.1.1, f1, f5]
  unfold zDoes zAwk
  rw [e1, e5]
  have hmo : ¬ nI mo + 2 ≤ 0 := by
    rw [show nI mo + 2 = nI (mo + 2) from nI_add mo 2]
    exact nI_nle (by omega) (by omega)
  constructor
  · exact fun z w => z ⟨w.1, w.2.elim Or.inl (fun q => q.elim (fun x => absurd x hmo) Or.inr)⟩
  · exact fun z w => z ⟨w.1, w.2.elim Or.inl (fun q => Or.inr (Or.inr q))⟩
theorem zMo_ne (hR : zRN d M) {m : Nat} (hm : m < zMen d) : ¬ M 10 m + 2 = 0 := by
  obtain ⟨kd, po, en, pa, mo, q1, q2, q3, q4, q5, q6, e1, e2, e3, e4, e5, f1, f2, f3, f4, f5⟩ := zMan_n hR hm
  rw [f5, show nI mo + 2 = nI (mo + 2) from nI_add mo 2]
  exact nI_ne0 (by omega) (by omega)
theorem zVil_r (hR : zRN d M) (p h : Nat) : ab_b (0 ≤ M 0 5 ∧ nI p < M 0 3 ∧ M 0 5 + M 0 4 ≤ nI h) = 0 ↔ ¬ zVil d p h := by
  obtain ⟨⟨⟨a1, a2, a3, a4, a5, a6, a7, a8⟩, -⟩, -⟩ := hR
  rw [ab_b_0, ← a4, ← a5, ← a6]
theorem zMor_r (hR : zRN d M) {p : Nat} (hp : p < 2 ^ 31) (h : Nat) : (nI p = M 0 25 ∧ nI h = M 0 26) ↔ zMor d p h := by
  obtain ⟨⟨-, -, ⟨-, -, -, c4, c5⟩, -⟩, -⟩ := hR
  unfold zMor
  rw [← c4]
  rcases c5 with z | z
  · rw [z]
    exact ⟨fun q => absurd q.1 (nI_m1 hp), fun q => absurd q.1 (nI_m1 hp)⟩
  · rw [z]
theorem zTry_r (hR : zRN d M) {m : Nat} (hm : m < 2 ^ 31) (h : Nat) : (nI m = M 0 27 ∧ nI h = M 0 28) ↔ (nI m = d 6 8 ∧ nI h = d 6 9) := by
  obtain ⟨⟨-, -, ⟨-, c2, c3, -, -⟩, -⟩, -⟩ := hR
  rw [← c2]
  rcases c3 with z | ⟨z, -⟩
  · rw [z]
    exact ⟨fun q => absurd q.1 (nI_m1 hm), fun q => absurd q.1 (nI_m1 hm)⟩
  · rw [z]
theorem zTry_r2 (hR : zRN d M) {m : Nat} (hm : m < 2 ^ 31) (h : nI m = d 6 8) : M 0 29 = d 6 10 := by
  obtain ⟨⟨-, -, ⟨-, c2, c3, -, -⟩, -⟩, -⟩ := hR
  rcases c3 with z | ⟨-, z⟩
  · rw [z] at h
    exact absurd h (nI_m1 hm)
  · exact z.symm
theorem zLamp_r (hR : zRN d M) {p : Nat} (hp : p < 8) : M 5 p = 1 ↔ ¬ d 16 p = 0 := by
  rw [← hR.1.2.1.2.2.2.2.1]
  rcases hR.2.2.2.2 p hp with z | z
  · rw [z]; decide
  · rw [z]; decide
end RefConds
/-- men, then others, as bits of pieces -/
def zMB (d : ab_M) (h : Nat) (pn : Nat → Nat) : Nat → Nat
  | 0 => 0
  | i + 1 => if zDoes d i h then zMB d h pn i ||| 2 ^ pn i else zMB d h pn i
def zPB (d : ab_M) (h B0 : Nat) : Nat → Nat
  | 0 => B0
  | p + 1 => if ¬ d 16 p = 0 ∨ zVil d p h ∨ zMor d p h then zPB d h B0 p ||| 2 ^ p else zPB d h B0 p
theorem zMB_bit {d : ab_M} {h : Nat} {pn : Nat → Nat} {w : Nat} : ∀ i, ((zMB d h pn i).testBit w = true ↔ ∃ m, m < i ∧ zDoes d m h ∧ pn m = w)
  | 0 => by
    show (0 : Nat).testBit w = true ↔ _
    rw [Nat.zero_testBit]
    constructor
    · exact fun z => by cases z
    · rintro ⟨m, z, -⟩
      exact absurd z (Nat.not_lt_zero m)
  | i + 1 => by
    have ih := zMB_bit (d := d) (h := h) (pn := pn) (w := w) i
    show (if zDoes d i h then zMB d h pn i ||| 2 ^ pn i else zMB d h pn i).testBit w = true ↔ _
    by_cases c : zDoes d i h
    · rw [if_pos c, Nat.testBit_or, Bool.or_eq_true, ih, Nat.testBit_two_pow]
      simp only [decide_eq_true_eq]
      constructor
      · rintro (⟨m, z, z2⟩ | z)
        · exact ⟨m, by omega, z2⟩
        · exact ⟨i, by omega, c, z⟩
      · rintro ⟨m, z, z2⟩
        by_cases e : m = i
        · subst e; exact Or.inr z2.2
        · exact Or.inl ⟨m, by omega, z2⟩
    · rw [if_neg c, ih]
      constructor
      · rintro ⟨m, z, z2⟩
        exact ⟨m, by omega, z2⟩
      · rintro ⟨m, z, z2⟩
        by_cases e : m = i
        · subst e; exact absurd z2.1 c
        · exact ⟨m, by omega, z2⟩
theorem zMB_lt {d : ab_M} {h : Nat} {pn : Nat → Nat} : ∀ i, (∀ m, m < i → pn m < 8) → zMB d h pn i < 256
  | 0, _ => by show (0 : Nat) < 256; decide
  | i + 1, hp => by
    have ih := zMB_lt (d := d) (h := h) i (fun m hm => hp m (by omega))
    show (if zDoes d i h then zMB d h pn i ||| 2 ^ pn i else zMB d h pn i) < 256
    split
    · exact zB_lt _ ih _ (hp i (by omega))
    · exact ih
theorem zPB_bit {d : ab_M} {h B0 w : Nat} : ∀ i, ((zPB d h B0 i).testBit w = true ↔ B0.testBit w = true ∨ (w < i ∧ (¬ d 16 w = 0 ∨ zVil d w h ∨ zMor d w h)))
  | 0 => by
    show B0.testBit w = true ↔ _
    exact ⟨Or.inl, fun z => z.elim id (fun q => absurd q.1 (Nat.not_lt_zero w))⟩
  | p + 1 => by
    have ih := zPB_bit (d := d) (h := h) (B0 := B0) (w := w) p
    show (if ¬ d 16 p = 0 ∨ zVil d p h ∨ zMor d p h then zPB d h B0 p ||| 2 ^ p else zPB d h B0 p).testBit w = true ↔ _
    by_cases c : ¬ d 16 p = 0 ∨ zVil d p h ∨ zMor d p h
    · rw [if_pos c, Nat.testBit_or, Bool.or_eq_true, ih, Nat.testBit_two_pow]
      simp only [decide_eq_true_eq]
      constructor
      · rintro ((z | z) | z)
        · exact Or.inl z
        · exact Or.inr ⟨by omega, z.2⟩
        · subst z; exact Or.inr ⟨by omega, c⟩
      · rintro (z | z)
        · exact Or.inl (Or.inl z)
        · by_cases e : w = p
          · exact Or.inr e.symm
          · exact Or.inl (Or.inr ⟨by omega, z.2⟩)
    · rw [if_neg c, ih]
      constructor
      · rintro (z | z)
        · exact Or.inl z
        · exact Or.inr ⟨by omega, z.2⟩
      · rintro (z | z)
        · exact Or.inl z
        · by_cases e : w = p
          · subst e; exact absurd z.2 c
          · exact Or.inr ⟨by omega, z.2⟩
theorem zPB_lt {d : ab_M} {h B0 : Nat} (hB : B0 < 256) : ∀ i, i ≤ 8 → zPB d h B0 i < 256
  | 0, _ => hB
  | p + 1, hp => by
    have ih := zPB_lt (d := d) (h := h) hB p (by omega)
    show (if ¬ d 16 p = 0 ∨ zVil d p h ∨ zMor d p h then zPB d h B0 p ||| 2 ^ p else zPB d h B0 p) < 256
    split
    · exact zB_lt _ ih p (by omega)
    · exact ih
theorem zPB_end {d : ab_M} {h : Nat} {pn : Nat → Nat} {pl : Nat → Int32} (h5 : zMen d ≤ 5) (h8 : zPcs d ≤ 8) (hpl : ∀ m, m < zMen d → pl m = nI (pn m) ∧ pn m < zPcs d) : zPB d h (zMB d h pn (zMen d)) (zPcs d) = zBits (zLk d h pl (zMen d)) (zPcs d) := zBits_eq fun w => by
  rw [zPB_bit, zMB_bit]
  obtain ⟨l1, l2⟩ := zLk_N (d := d) (h := h) (p := w) (pl := pl) (zMen d) h5
  have l3 : zLk d h pl (zMen d) w = 0 ↔ zLkN d h pl (zMen d) w = 0 := by
    rw [l1]
    exact nI_eq (b := 0) (by omega) (by omega)
  have l4 := zLkN_0 (d := d) (h := h) (p := w) (pl := pl) (zMen d)
  rw [l3, l4]
  constructor
  · rintro (⟨m, z1, z2, z3⟩ | ⟨z, z2⟩)
    · obtain ⟨p1, p2⟩ := hpl m z1
      exact ⟨by omega, Or.inr ⟨m, z1, z2, by rw [p1, z3]⟩⟩
    · exact ⟨z, Or.inl (by rcases z2 with q | q | q; exact Or.inr (Or.inl q); exact Or.inl q; exact Or.inr (Or.inr q))⟩
  · rintro ⟨z, z2 | ⟨m, z1, z2, z3⟩⟩
    · exact Or.inr ⟨z, by rcases z2 with q | q | q; exact Or.inr (Or.inl q); exact Or.inl q; exact Or.inr (Or.inr q)⟩
    · obtain ⟨p1, p2⟩ := hpl m z1
      exact Or.inl ⟨m, z1, z2, (nI_eq (by omega) (by omega)).mp (p1.symm.trans z3)⟩
def zt_X12_looks : ab_T := ab_lq (α := ab_M × Nat × (Nat → Int32)) (fun x r M _ => r = [.int (nI x.2.1)] ∧ zRN x.1 M ∧ x.2.1 < 12 ∧ ∀ m, m < zMen x.1 → M 28 (12 * m + x.2.1) = x.2.2 m ∧ ∃ q, q < zPcs x.1 ∧ x.2.2 m = nI q)
  (fun x M N o M2 N2 => N2 = N ∧ o = none ∧ M2 = ab_u M 29 (upd (M 29) x.2.1 (nI (zBits (zLk x.1 x.2.1 x.2.2 (zMen x.1)) (zPcs x.1)))))
theorem zt_X12_looks_mono : ab_mono zt_X12_looks := ab_lq_mono _ _
theorem zV_X12_looks : ab_recv zw_M vwCl RX12 zt_X12_looks := ab_lq_v
def zp_X12_looks : ab_P := [(0, .iconst 0, 1, [], [0]),
  (1, .istore_n 2, 2, [2], []),
  (2, .iconst 0, 3, [], [0]),
  (3, .istore_n 3, 4, [3], []),
  (4, .iload_n 3, 5, [3], []),
  (5, .aload_n 0, 6, [0], []),
  (6, .getfield 179, 9, [], []),
  (9, .if_icmp .ge 38, 12, [47], []),
  (12, .iload_n 2, 13, [2], []),
  (13, .aload_n 0, 14, [0], []),
  (14, .iload_n 3, 15, [3], []),
  (15, .iload_n 1, 16, [1], []),
  (16, .invokevirtual 282, 19, [], []),
  (19, .ifCond .eq 19, 22, [38], []),
  (22, .iconst 1, 23, [], [1]),
  (23, .aload_n 0, 24, [0], []),
  (24, .getfield 144, 27, [], []),
  (27, .bipush 12, 29, [], [12]),
  (29, .iload_n 3, 30, [3], []),
  (30, .imul, 31, [], []),
  (31, .iload_n 1, 32, [1], []),
  (32, .iadd, 33, [], []),
  (33, .iaload, 34, [], []),
  (34, .ishl, 35, [], []),
  (35, .goto 4, 38, [39], []),
  (38, .iconst 0, 39, [], [0]),
  (39, .ior, 40, [], []),
  (40, .istore_n 2, 41, [2], []),
  (41, .iinc 3 1, 44, [], [1]),
  (44, .goto (-40), 47, [4], []),
  (47, .iconst 0, 48, [], [0]),
  (48, .istore_n 3, 49, [3], []),
  (49, .iload_n 3, 50, [3], []),
  (50, .aload_n 0, 51, [0], []),
  (51, .getfield 172, 54, [], []),
  (54, .if_icmp .ge 54, 57, [108], []),
  (57, .iload_n 2, 58, [2], []),
  (58, .aload_n 0, 59, [0], []),
  (59, .getfield 38, 62, [], []),
  (62, .iload_n 3, 63, [3], []),
  (63, .iaload, 64, [], []),
  (64, .iconst 1, 65, [], [1]),
  (65, .if_icmp .eq 28, 68, [93], []),
  (68, .aload_n 0, 69, [0], []),
  (69, .iload_n 3, 70, [3], []),
  (70, .iload_n 1, 71, [1], []),
  (71, .invokevirtual 286, 74, [], []),
  (74, .ifCond .ne 19, 77, [93], []),
  (77, .iload_n 3, 78, [3], []),
  (78, .aload_n 0, 79, [0], []),
  (79, .getfield 71, 82, [], []),
  (82, .if_icmp .ne 17, 85, [99], []),
  (85, .iload_n 1, 86, [1], []),
  (86, .aload_n 0, 87, [0], []),
  (87, .getfield 289, 90, [], []),
  (90, .if_icmp .ne 9, 93, [99], []),
  (93, .iconst 1, 94, [], [1]),
  (94, .iload_n 3, 95, [3], []),
  (95, .ishl, 96, [], []),
  (96, .goto 4, 99, [100], []),
  (99, .iconst 0, 100, [], [0]),
  (100, .ior, 101, [], []),
  (101, .istore_n 2, 102, [2], []),
  (102, .iinc 3 1, 105, [], [1]),
  (105, .goto (-56), 108, [49], []),
  (108, .aload_n 0, 109, [0], []),
  (109, .getfield 147, 112, [], []),
  (112, .iload_n 1, 113, [1], []),
  (113, .iload_n 2, 114, [2], []),
  (114, .iastore, 115, [], []),
  (115, .return_, 116, [], [])]
theorem zo_X12_looks : ab_ok cX12_looks zp_X12_looks = true := by decide +kernel
def zg_X12_looks : ab_G := (zw_M, [], zf_X12, zc_X12, [], [(282, 3, zt_X12_doesLook), (286, 3, zt_X12_isVillage)], [])
theorem zm_X12_looks : ab_MG zg_X12_looks := ab_MGof (List.forall_mem_cons.mpr ⟨ab_pp_mono _, List.forall_mem_cons.mpr ⟨ab_pure_mono _, List.forall_mem_nil _⟩⟩) (List.forall_mem_nil _)
abbrev zr_X12_looks (Q : ab_R) : ab_K := ab_Run zg_X12_looks zp_X12_looks none 4 Q
set_option maxRecDepth 20000 in
theorem zv_X12_looks_0 {Q : ab_R} {M : ab_M} {N : ab_N} (l1 : Int32) (h : zr_X12_looks Q 4 [some (.ref 0), some (.int l1), some (.int (0 : Int32)), some (.int (0 : Int32))] [] M N) : zr_X12_looks Q 0 [some (.ref 0), some (.int l1)] [] M N := ab_Run_s zm_X12_looks (sp := [(4, [true, true, true, true]), (49, [true, true, true, true])]) 73 h
set_option maxRecDepth 20000 in
theorem zv_X12_looks_4 {Q : ab_R} {M : ab_M} {N : ab_N} (l1 : Int32) (l2 : Int32) (l3 : Int32) (h : ((M 0 12) ≤ l3 → zr_X12_looks Q 49 [some (.ref 0), some (.int l1), some (.int l2), some (.int (0 : Int32))] [] M N) ∧ (¬ ((M 0 12) ≤ l3) → (vp_in l3 5 ∧ ¬ (M 10) l3.toNatClampNeg + 2 = 0) ∧ (((ab_b (¬ l3 = (M 0) 30 ∧ (¬ (M 6) l3.toNatClampNeg = 5 ∨ ¬ l1 - l1 / ((M 10) l3.toNatClampNeg + 2) * ((M 10) l3.toNatClampNeg + 2) = (M 10) l3.toNatClampNeg + 1))) = 0 → zr_X12_looks Q 4 [some (.ref 0), some (.int l1), some (.int (l2 ||| (0 : Int32))), some (.int (l3 + (1 : Int32)))] [] M N) ∧ (¬ ((ab_b (¬ l3 = (M 0) 30 ∧ (¬ (M 6) l3.toNatClampNeg = 5 ∨ ¬ l1 - l1 / ((M 10) l3.toNatClampNeg + 2) * ((M 10) l3.toNatClampNeg + 2) = (M 10) l3.toNatClampNeg + 1))) = 0) → vp_in (((12 : Int32) * l3) + l1) 60 ∧ (zr_X12_looks Q 4 [some (.ref 0), some (.int l1), some (.int (l2 ||| ((1 : Int32) <<< ((M 28 (((12 : Int32) * l3) + l1).toNatClampNeg) &&& 31)))), some (.int (l3 + (1 : Int32)))] [] M N))))) : zr_X12_looks Q 4 [some (.ref 0), some (.int l1), some (.int l2), some (.int l3)] [] M N := ab_Run_s zm_X12_looks (sp := [(4, [true, true, true, true]), (49, [true, true, true, true])]) 73 h
set_option maxRecDepth 20000 in
theorem zv_X12_looks_49 {Q : ab_R} {M : ab_M} {N : ab_N} (l1 : Int32) (l2 : Int32) (l3 : Int32) (h : ((M 0 7) ≤ l3 → vp_in l1 12 ∧ (let z1 : Nat → Int32 := upd (M 29) l1.toNatClampNeg l2; Q none (ab_u M 29 z1) N)) ∧ (¬ ((M 0 7) ≤ l3) → vp_in l3 8 ∧ (((M 5 l3.toNatClampNeg) = (1 : Int32) → zr_X12_looks Q 49 [some (.ref 0), some (.int l1), some (.int (l2 ||| ((1 : Int32) <<< (l3 &&& 31)))), some (.int (l3 + (1 : Int32)))] [] M N) ∧ (¬ ((M 5 l3.toNatClampNeg) = (1 : Int32)) → ((ab_b (0 ≤ (M 0) 5 ∧ l3 < (M 0) 3 ∧ (M 0) 5 + (M 0) 4 ≤ l1)) = 0 → (l3 = (M 0 25) → (l1 = (M 0 26) → zr_X12_looks Q 49 [some (.ref 0), some (.int l1), some (.int (l2 ||| ((1 : Int32) <<< (l3 &&& 31)))), some (.int (l3 + (1 : Int32)))] [] M N) ∧ (¬ (l1 = (M 0 26)) → zr_X12_looks Q 49 [some (.ref 0), some (.int l1), some (.int (l2 ||| (0 : Int32))), some (.int (l3 + (1 : Int32)))] [] M N)) ∧ (¬ (l3 = (M 0 25)) → zr_X12_looks Q 49 [some (.ref 0), some (.int l1), some (.int (l2 ||| (0 : Int32))), some (.int (l3 + (1 : Int32)))] [] M N)) ∧ (¬ ((ab_b (0 ≤ (M 0) 5 ∧ l3 < (M 0) 3 ∧ (M 0) 5 + (M 0) 4 ≤ l1)) = 0) → zr_X12_looks Q 49 [some (.ref 0), some (.int l1), some (.int (l2 ||| ((1 : Int32) <<< (l3 &&& 31)))), some (.int (l3 + (1 : Int32)))] [] M N))))) : zr_X12_looks Q 49 [some (.ref 0), some (.int l1), some (.int l2), some (.int l3)] [] M N := ab_Run_s zm_X12_looks (sp := [(4, [true, true, true, true]), (49, [true, true, true, true])]) 73 h
theorem zB_or0 (b : Nat) : nI b ||| (0 : Int32) = nI b := Int32.or_zero
theorem zL_X12_looks2 {k : ab_R} {N : ab_N} {d M : ab_M} {h B0 : Nat} (hR : zRN d M) (hh : h < 12) (hB : B0 < 256) (hk : k none (ab_u M 29 (upd (M 29) h (nI (zPB d h B0 (zPcs d))))) N) : ∀ (r p : Nat), p + r = zPcs d → zr_X12_looks k 49 [some (.ref 0), some (.int (nI h)), some (.int (nI (zPB d h B0 p))), some (.int (nI p))] [] M N := by
  obtain ⟨n1, n2, n3, n4, -⟩ := zNI_n hR
  intro r
  induction r with
  | zero =>
    intro p hp
    refine zv_X12_looks_49 _ _ _ ?_
    rw [n1, nI_clamp (by omega), show p = zPcs d by omega]
    exact ⟨fun _ => ⟨nI_in_ hh, hk⟩, fun c => absurd (nI_le (Nat.le_refl _) (by omega)) c⟩
  | succ r ih =>
    intro p hp
    have ih := ih (p + 1) (by omega)
    have hB2 := zPB_lt (d := d) (h := h) hB p (by omega)
    refine zv_X12_looks_49 _ _ _ ?_
    rw [n1, nI_clamp (show p < 2 ^ 31 by omega)]
    have yes : (¬ d 16 p = 0 ∨ zVil d p h ∨ zMor d p h) → zr_X12_looks k 49 [some (.ref 0), some (.int (nI h)), some (.int (nI (zPB d h B0 p) ||| ((1 : Int32) <<< (nI p &&& 31)))), some (.int (nI p + 1))] [] M N := by
      intro c
      have e : zPB d h B0 (p + 1) = zPB d h B0 p ||| 2 ^ p := if_pos c
      rw [e] at ih
      rw [zB_or _ hB2 p (by omega), nI_1]
      exact ih
    have no : ¬ (¬ d 16 p = 0 ∨ zVil d p h ∨ zMor d p h) → zr_X12_looks k 49 [some (.ref 0), some (.int (nI h)), some (.int (nI (zPB d h B0 p) ||| (0 : Int32))), some (.int (nI p + 1))] [] M N := by
      intro c
      have e : zPB d h B0 (p + 1) = zPB d h B0 p := if_neg c
      rw [e] at ih
      rw [zB_or0, nI_1]
      exact ih
    have mor := zMor_r hR (show p < 2 ^ 31 by omega) h
    have vil := zVil_r hR p h
    have lam := zLamp_r hR (show p < 8 by omega)
    refine ⟨fun c => absurd c (nI_ge (by omega) (by omega)), fun _ => ⟨nI_in_ (by omega), fun c => yes (Or.inl (lam.mp c)), fun c => ⟨fun c2 => ⟨fun c3 => ⟨fun c4 => yes (Or.inr (Or.inr (mor.mp ⟨c3, c4⟩))), fun c4 => no ?_⟩, fun c3 => no ?_⟩, fun c2 => yes (Or.inr (Or.inl (Decidable.byContradiction fun z => c2 (vil.mpr z))))⟩⟩⟩
    · rintro (z | z | z)
      · exact c (lam.mpr z)
      · exact vil.mp c2 z
      · exact c4 (mor.mpr z).2
    · rintro (z | z | z)
      · exact c (lam.mpr z)
      · exact vil.mp c2 z
      · exact c3 (mor.mpr z).1
theorem zL_X12_looks {k : ab_R} {N : ab_N} {d M : ab_M} {h : Nat} {pl : Nat → Int32} (hR : zRN d M) (hh : h < 12) (hpl : ∀ m, m < zMen d → M 28 (12 * m + h) = pl m ∧ ∃ q, q < zPcs d ∧ pl m = nI q) (hk : k none (ab_u M 29 (upd (M 29) h (nI (zBits (zLk d h pl (zMen d)) (zPcs d))))) N) : zr_X12_looks k 0 [some (.ref 0), some (.int (nI h))] [] M N := by
  obtain ⟨n1, n2, n3, n4, -⟩ := zNI_n hR
  have hpn : ∀ m, m < zMen d → pl m = nI ((pl m).toNatClampNeg) ∧ (pl m).toNatClampNeg < zPcs d := fun m hm => by
    obtain ⟨q, q1, q2⟩ := (hpl m hm).2
    rw [q2, nI_clamp (by omega)]
    exact ⟨rfl, q1⟩
  rw [← zPB_end (pn := fun m => (pl m).toNatClampNeg) n4 n2 hpn] at hk
  have hB := fun i (hi : i ≤ zMen d) => zMB_lt (d := d) (h := h) (pn := fun m => (pl m).toNatClampNeg) i (fun m hm => by have := (hpn m (by omega)).2; omega)
  have loop : ∀ (r m : Nat), m + r = zMen d → zr_X12_looks k 4 [some (.ref 0), some (.int (nI h)), some (.int (nI (zMB d h (fun m => (pl m).toNatClampNeg) m))), some (.int (nI m))] [] M N := by
    intro r
    induction r with
    | zero =>
      intro m hm
      refine zv_X12_looks_4 _ _ _ ?_
      rw [n3, show m = zMen d by omega]
      exact ⟨fun _ => zL_X12_looks2 hR hh (hB _ (Nat.le_refl _)) hk (zPcs d) 0 (by omega), fun c => absurd (nI_le (Nat.le_refl _) (by omega)) c⟩
    | succ r ih =>
      intro m hm
      have ih := ih (m + 1) (by omega)
      have hB2 := hB m (by omega)
      obtain ⟨p1, p2⟩ := hpn m (by omega)
      refine zv_X12_looks_4 _ _ _ ?_
      rw [n3, nI_clamp (show m < 2 ^ 31 by omega), e12, nI_clamp (show 12 * m + h < 2 ^ 31 by omega), (hpl m (by omega)).1, nI_1]
      have dz := zDoes_r hR (show m < zMen d by omega) h
      refine ⟨fun c => absurd c (nI_ge (by omega) (by omega)), fun _ => ⟨⟨nI_in_ (by omega), zMo_ne hR (by omega)⟩, fun c => ?_, fun c => ⟨nI_in_ (by omega), ?_⟩⟩⟩
      · have e : zMB d h (fun m => (pl m).toNatClampNeg) (m + 1) = zMB d h (fun m => (pl m).toNatClampNeg) m := if_neg (dz.mp c)
        rw [e] at ih
        rw [zB_or0]
        exact ih
      · have e : zMB d h (fun m => (pl m).toNatClampNeg) (m + 1) = zMB d h (fun m => (pl m).toNatClampNeg) m ||| 2 ^ (pl m).toNatClampNeg := if_pos (Decidable.byContradiction fun z => c (dz.mpr z))
        rw [e] at ih
        rw [p1, zB_or _ hB2 _ (by omega)]
        exact ih
  refine zv_X12_looks_0 _ ?_
  exact loop (zMen d) 0 (by omega)
theorem zE_X12_looks (as : List Value) (M : ab_M) (N : ab_N) (k : ab_R) (hT : zt_X12_looks as M N k) : ab_cs as ≤ 4 ∧ zr_X12_looks k 0 (ab_en as) [] M N := by
  obtain ⟨⟨d, h, pl⟩, r, rfl, ⟨rfl, hR, hh, hpl⟩, hk⟩ := hT
  exact ⟨Nat.le_of_ble_eq_true rfl, zL_X12_looks hR hh hpl (hk _ _ _ ⟨rfl, rfl, rfl⟩)⟩
abbrev zR_X12_looks : Room := { frames := 1, cells := 0, slots := 0, locals := 22 }
set_option maxRecDepth 20000 in
theorem zM_X12_looks (l : Launch) : ab_Met l zw_M vwCl zZ_M yX12_looks cX12_looks 4 none zR_X12_looks zt_X12_looks := ab_ofRun (G := zg_X12_looks) (P := zp_X12_looks) rfl zo_X12_looks (by decide +kernel) zl_cl zl_lamM zf_X12_ok ab_Tab_nil zc_X12_ok ab_Sta_nil (List.forall_mem_cons.mpr ⟨ab_callV zZ_M_ok (zM_X12_doesLook l) (ab_in 1329 (by decide +kernel) rfl) (ab_in 1326 (by decide +kernel) rfl) (ab_in 1328 (by decide +kernel) rfl) (ab_inS (List.mem_of_getElem? (i := 44) (by decide +kernel)) rfl) (ab_in 17 (by decide +kernel) rfl) (by unfold ab_yok; decide +kernel) ⟨rfl, rfl⟩ (by decide) zV_X12_doesLook, List.forall_mem_cons.mpr ⟨ab_callV zZ_M_ok (zM_X12_isVillage l) (ab_in 1333 (by decide +kernel) rfl) (ab_in 1330 (by decide +kernel) rfl) (ab_in 1332 (by decide +kernel) rfl) (ab_inS (List.mem_of_getElem? (i := 45) (by decide +kernel)) rfl) (ab_in 17 (by decide +kernel) rfl) (by unfold ab_yok; decide +kernel) ⟨rfl, rfl⟩ (by decide) zV_X12_isVillage, List.forall_mem_nil _⟩⟩) (List.forall_mem_nil _) zE_X12_looks
