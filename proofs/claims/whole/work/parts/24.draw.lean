/-! Drawing *)
-/
/-- cells that the night doesn't see -/
abbrev zGx : List Nat := [4, 8, 9, 10, 11, 12, 19, 20, 21, 22, 23, 24, 33, 34, 35, 36, 37, 38, 39, 40, 41, 42, 43, 44, 45, 46]
abbrev zGy : List Nat := [4, 8, 9, 10, 11, 12, 19, 20, 21, 22, 23, 24, 33, 34, 35, 37, 38, 39, 40, 41, 42, 43, 44, 45, 46]
theorem zNight_gx {M M2 : ab_M} (hN : zNight M) (hA : zAsks M2) (hF : zFr zGx M M2) : zNight M2 := by
  obtain ⟨-, h0, h1⟩ := hN
  refine ⟨hA, ?_, ?_⟩
  · unfold zI0 at h0 ⊢
    rw [hF 17 (by decide), hF 1 (by decide), hF 2 (by decide)]
    exact h0
  · unfold zI1 zMen at h1 ⊢
    rw [hF 2 (by decide), hF 25 (by decide), hF 26 (by decide), hF 27 (by decide), hF 28 (by decide), hF 29 (by decide), hF 1 (by decide), hF 6 (by decide)]
    exact h1
theorem zAsk_gx {M M2 : ab_M} (h : zFr zGx M M2) : zAsk M2 = zAsk M := by
  funext th p h2 st pc
  unfold zAsk zIs
  rw [zAskN_fr (h 3 (by decide)) (h 13 (by decide)) (h 14 (by decide)) (h 17 (by decide)) (h 18 (by decide)) (h 31 (by decide)) (h 32 (by decide)), h 15 (by decide)]
theorem zAsks_gy {M M2 : ab_M} (h : zAsks M) (hF : zFr zGy M M2) : zAsks M2 := by
  obtain ⟨h1, h2, h3⟩ := h
  refine ⟨?_, zCache_fr h2 (hF 3 (by decide)) (by rw [hF 5 (by decide)]) (hF 13 (by decide)) (hF 14 (by decide)) (hF 17 (by decide)) (hF 18 (by decide)) (hF 31 (by decide)) (hF 32 (by decide)) (hF 36 (by decide)), ?_⟩
  · unfold zLawOK at h1 ⊢
    rw [hF 3 (by decide), hF 32 (by decide)]
    exact h1
  · rw [hF 15 (by decide)]
    exact h3
theorem zEqv_gx {M M2 : ab_M} (hF : zFr zGx M M2) : zEqv M M2 := ⟨zAsk_gx hF, hF 1 (by decide), hF 2 (by decide), zEqT_rf (hF 6 (by decide)), hF 16 (by decide), hF 17 (by decide), hF 25 (by decide), hF 26 (by decide), hF 27 (by decide), hF 28 (by decide), hF 29 (by decide), hF 30 (by decide)⟩
/-- holes, the lot, harm, how many broke, how many were found -/
abbrev zDs : Type := (Nat → Nat) × Int64 × Int64 × Int32 × Int32
def zUp (f : Nat → Nat) (k v : Nat) : Nat → Nat := fun j => if j = k then v else f j
def zLot (l : Int64) : Int64 := l * 48271 - l * 48271 / 2147483647 * 2147483647
def zDGrow (d : ab_M) (p h sc : Nat) (s : zDs) : zDs :=
  if s.1 p = 0 then (zUp s.1 p (if zLot s.2.1 - zLot s.2.1 / 1000 * 1000 < lN (zAsk d 0 p h sc 0) then 1 else 0), zLot s.2.1, s.2.2)
  else if s.1 p + 1 = zBrk d then (zUp s.1 p (s.1 p + 1), s.2.1, s.2.2.1 + lN (zAsk d 2 p h (s.1 p + 1) 0), s.2.2.2.1 + 1, s.2.2.2.2)
  else (zUp s.1 p (s.1 p + 1), s.2)
def zDLook1 (d : ab_M) (p h pc : Nat) (s : zDs) : zDs :=
  if s.1 p = 0 ∨ s.1 p = zBrk d then s
  else if zLot s.2.1 - zLot s.2.1 / 100 * 100 < lN (zAsk d 1 p h (s.1 p) pc) then (zUp s.1 p 0, zLot s.2.1, s.2.2.1 + lN (zAsk d 2 p h (s.1 p) 0), s.2.2.2.1, s.2.2.2.2 + 1)
  else (s.1, zLot s.2.1, s.2.2)
def zDLooks (d : ab_M) (p h : Nat) (lk : Int32) : Nat → zDs → zDs
  | 0, s => s
  | w + 1, s => if zBit lk w then zDLook1 d p h (zPace d w) (zDLooks d p h lk w s) else zDLooks d p h lk w s
def zDP (d : ab_M) (h p : Nat) (s : zDs) : zDs := if s.1 p < zBrk d then zDLooks d p h ((zWk d h).2.2.2 p) 8 (zDGrow d p h (zSc d h p) s) else s
def zDHour (d : ab_M) (h : Nat) : Nat → zDs → zDs
  | 0, s => s
  | p + 1, s => zDP d h p (zDHour d h p s)
def zDAll (d : ab_M) (s : zDs) : Nat → zDs
  | 0 => s
  | h + 1 => zDHour d h (zPcs d) (zDAll d s h)
def zDs0 (seed : Int32) : zDs := (fun _ => 0, seed.toInt64 + 1, 0, 0, 0)
/-- the drawing's rows hold a state -/
def zHd (b : Nat) (M : ab_M) (N : ab_N) (s : zDs) : Prop := (∀ p, p < 8 → M 42 p = nI (s.1 p) ∧ s.1 p ≤ b) ∧ N 8 4 = s.2.1 ∧ N 8 5 = s.2.2.1 ∧ M 8 6 = s.2.2.2.1 ∧ M 8 7 = s.2.2.2.2
def zt_X3_look : ab_T := ab_m3 8 (fun p h w M N => zNight M ∧ zWalked M ∧ ∃ q g u : Nat, q < zPcs M ∧ g < zHrs M ∧ u < 8 ∧ p = nI q ∧ h = nI g ∧ w = nI u ∧ ∃ s, zHd (zBrk M) M N s)
  (fun p h w M N o M2 N2 => o = none ∧ zFr [8, 33, 35, 36, 42] M M2 ∧ zAsks M2 ∧ zNfr [8] N N2 ∧ ∀ s, zHd (zBrk M) M N s → zHd (zBrk M) M2 N2 (if zBit ((zWk M h.toNatClampNeg).2.2.2 p.toNatClampNeg) w.toNatClampNeg then zDLook1 M p.toNatClampNeg h.toNatClampNeg (zPace M w.toNatClampNeg) s else s))
theorem zt_X3_look_mono : ab_mono zt_X3_look := ab_m3_mono _ _ _
theorem zV_X3_look : ab_recv zw_C vwCl RX3 zt_X3_look := ab_m3_v rfl rfl
def zt_X3_grow : ab_T := ab_m2 8 (fun p h M N => zNight M ∧ zWalked M ∧ ∃ q g : Nat, q < zPcs M ∧ g < zHrs M ∧ p = nI q ∧ h = nI g ∧ ∃ s, zHd (zBrk M) M N s ∧ s.1 q < zBrk M)
  (fun p h M N o M2 N2 => o = none ∧ zFr [8, 33, 35, 36, 42] M M2 ∧ zAsks M2 ∧ zNfr [8] N N2 ∧ ∀ s, zHd (zBrk M) M N s → zHd (zBrk M) M2 N2 (zDGrow M p.toNatClampNeg h.toNatClampNeg (zSc M h.toNatClampNeg p.toNatClampNeg) s))
theorem zt_X3_grow_mono : ab_mono zt_X3_grow := ab_m2_mono _ _ _
theorem zV_X3_grow : ab_recv zw_C vwCl RX3 zt_X3_grow := ab_m2_v rfl rfl
def zt_X3_go : ab_T := ab_m1 8 (fun _ M _ => zNight M ∧ zWalked M)
  (fun x M N o M2 N2 => o = none ∧ zFr [8, 33, 35, 36, 42] M M2 ∧ zAsks M2 ∧ zNfr [8] N N2 ∧ zHd (zBrk M) M2 N2 (zDAll M (zDs0 x) (zHrs M)))
theorem zt_X3_go_mono : ab_mono zt_X3_go := ab_m1_mono _ _ _
theorem zV_X3_go : ab_recv zw_C vwCl RX3 zt_X3_go := ab_m1_v rfl rfl
theorem zHd_mk {b : Nat} {M : ab_M} {N : ab_N} {f : Nat → Nat} {l ha : Int64} {br fo : Int32} (h1 : ∀ p, p < 8 → M 42 p = nI (f p) ∧ f p ≤ b) (h2 : N 8 4 = l) (h3 : N 8 5 = ha) (h4 : M 8 6 = br) (h5 : M 8 7 = fo) : zHd b M N (f, l, ha, br, fo) := ⟨h1, h2, h3, h4, h5⟩
theorem zHd_eq {b : Nat} {M : ab_M} {N : ab_N} {f f2 : Nat → Nat} {l ha : Int64} {br fo : Int32} {t : Int64 × Int64 × Int32 × Int32} (h : zHd b M N (f, l, ha, br, fo)) (h2 : zHd b M N (f2, t)) (hb : b ≤ 6) : (∀ p, p < 8 → f2 p = f p) ∧ t = (l, ha, br, fo) := by
  obtain ⟨a1, a2, a3, a4, a5⟩ := h
  obtain ⟨l2, ha2, br2, fo2⟩ := t
  obtain ⟨c1, c2, c3, c4, c5⟩ := h2
  dsimp only at a1 a2 a3 a4 a5 c1 c2 c3 c4 c5
  refine ⟨fun p hp => ?_, ?_⟩
  · have e1 := (a1 p hp).2
    have e2 := (c1 p hp).2
    exact (nI_eq (by omega) (by omega)).mp ((c1 p hp).1.symm.trans (a1 p hp).1)
  · rw [← a2, ← a3, ← a4, ← a5, ← c2, ← c3, ← c4, ← c5]
theorem zDLook1_0 {d : ab_M} {p h pc : Nat} {f : Nat → Nat} {l ha : Int64} {br fo : Int32} (c : f p = 0 ∨ f p = zBrk d) : zDLook1 d p h pc (f, l, ha, br, fo) = (f, l, ha, br, fo) := by
  unfold zDLook1
  rw [if_pos c]
theorem zDLook1_1 {d : ab_M} {p h pc : Nat} {f : Nat → Nat} {l L ha : Int64} {br fo : Int32} (c : ¬ (f p = 0 ∨ f p = zBrk d)) (e : zLot l = L) (c2 : ¬ (L - L / 100 * 100 < lN (zAsk d 1 p h (f p) pc))) : zDLook1 d p h pc (f, l, ha, br, fo) = (f, L, ha, br, fo) := by
  unfold zDLook1
  dsimp only
  rw [if_neg c, e, if_neg c2]
theorem zDLook1_2 {d : ab_M} {p h pc : Nat} {f : Nat → Nat} {l L ha : Int64} {br fo : Int32} (c : ¬ (f p = 0 ∨ f p = zBrk d)) (e : zLot l = L) (c2 : L - L / 100 * 100 < lN (zAsk d 1 p h (f p) pc)) : zDLook1 d p h pc (f, l, ha, br, fo) = (zUp f p 0, L, ha + lN (zAsk d 2 p h (f p) 0), br, fo + 1) := by
  unfold zDLook1
  dsimp only
  rw [if_neg c, e, if_pos c2]
theorem zPace_ep {M : ab_M} (h0 : zI0 M) (h1 : zI1 M) {w : Nat} (hw : w < 8) : (if 0 ≤ nI w ∧ nI w < (M 2) 6 ∧ nI w < 5 then (M 28) (nI w).toNatClampNeg else if nI w = 7 then 1 else 0) = nI (zPace M w) := by
  obtain ⟨hMe, hM5⟩ := zM_eq h0
  rw [nI_clamp (show w < 2 ^ 31 by omega), hMe]
  unfold zPace
  by_cases c4 : w < zMen M
  · rw [if_pos ⟨nI_pos' (by omega), nI_lt c4 (by omega), nI_lt (a := w) (b := 5) (by omega) (by omega)⟩, if_pos c4]
    obtain ⟨-, -, -, g4, -⟩ := h1 w c4
    exact (zNat 3 3 (by grind) g4.2).1
  · rw [if_neg (fun z => c4 ((nI_ltI (by omega) (by omega)).mp z.2.1)), if_neg c4]
    by_cases c5 : w = 7
    · rw [c5]; rfl
    · have c6 : ¬ nI w = 7 := fun z => c5 ((nI_eq (by omega) (by omega)).mp (show nI w = nI 7 from z))
      simp only [c5, c6, if_false]; rfl
def zp_X3_look : ab_P := [(0, .aload_n 0, 1, [0], []),
  (1, .getfield 19, 4, [], []),
  (4, .iload_n 3, 5, [3], []),
  (5, .iload_n 1, 6, [1], []),
  (6, .iload_n 2, 7, [2], []),
  (7, .invokevirtual 81, 10, [], []),
  (10, .ifCond .eq 30, 13, [40], []),
  (13, .aload_n 0, 14, [0], []),
  (14, .getfield 9, 17, [], []),
  (17, .iload_n 1, 18, [1], []),
  (18, .iaload, 19, [], []),
  (19, .ifCond .eq 21, 22, [40], []),
  (22, .aload_n 0, 23, [0], []),
  (23, .getfield 9, 26, [], []),
  (26, .iload_n 1, 27, [1], []),
  (27, .iaload, 28, [], []),
  (28, .aload_n 0, 29, [0], []),
  (29, .getfield 15, 32, [], []),
  (32, .getfield 47, 35, [], []),
  (35, .iconst 1, 36, [], [1]),
  (36, .iaload, 37, [], []),
  (37, .if_icmp .ne 4, 40, [41], []),
  (40, .return_, 41, [], []),
  (41, .aload_n 0, 42, [0], []),
  (42, .invokevirtual 63, 45, [], []),
  (45, .ldc2_w 85, 48, [], []),
  (48, .lrem, 49, [], []),
  (49, .aload_n 0, 50, [0], []),
  (50, .getfield 23, 53, [], []),
  (53, .iconst 1, 54, [], [1]),
  (54, .iload_n 1, 55, [1], []),
  (55, .iload_n 2, 56, [2], []),
  (56, .aload_n 0, 57, [0], []),
  (57, .getfield 9, 60, [], []),
  (60, .iload_n 1, 61, [1], []),
  (61, .iaload, 62, [], []),
  (62, .aload_n 0, 63, [0], []),
  (63, .getfield 19, 66, [], []),
  (66, .iload_n 3, 67, [3], []),
  (67, .invokevirtual 87, 70, [], []),
  (70, .invokevirtual 75, 73, [], []),
  (73, .i2l, 74, [], []),
  (74, .lcmp, 75, [], []),
  (75, .ifCond .ge 47, 78, [122], []),
  (78, .aload_n 0, 79, [0], []),
  (79, .dup, 80, [], []),
  (80, .getfield 44, 83, [], []),
  (83, .iconst 1, 84, [], [1]),
  (84, .iadd, 85, [], []),
  (85, .putfield 44, 88, [], []),
  (88, .aload_n 0, 89, [0], []),
  (89, .dup, 90, [], []),
  (90, .getfield 37, 93, [], []),
  (93, .aload_n 0, 94, [0], []),
  (94, .getfield 23, 97, [], []),
  (97, .iconst 2, 98, [], [2]),
  (98, .iload_n 1, 99, [1], []),
  (99, .iload_n 2, 100, [2], []),
  (100, .aload_n 0, 101, [0], []),
  (101, .getfield 9, 104, [], []),
  (104, .iload_n 1, 105, [1], []),
  (105, .iaload, 106, [], []),
  (106, .iconst 0, 107, [], [0]),
  (107, .invokevirtual 75, 110, [], []),
  (110, .i2l, 111, [], []),
  (111, .ladd, 112, [], []),
  (112, .putfield 37, 115, [], []),
  (115, .aload_n 0, 116, [0], []),
  (116, .getfield 9, 119, [], []),
  (119, .iload_n 1, 120, [1], []),
  (120, .iconst 0, 121, [], [0]),
  (121, .iastore, 122, [], []),
  (122, .return_, 123, [], [])]
theorem zo_X3_look : ab_ok cX3_look zp_X3_look = true := by decide +kernel
def zg_X3_look : ab_G := (zw_C, zs_tab, zf_X3, zc_X3, [], [(63, 1, zt_X3_nextLot), (75, 6, zt_X1_ask), (81, 4, zt_X10_looksAt), (87, 2, zt_X10_paceOf)], [])
theorem zm_X3_look : ab_MG zg_X3_look := ab_MGof (List.forall_mem_cons.mpr ⟨zt_X3_nextLot_mono, List.forall_mem_cons.mpr ⟨zt_X1_ask_mono, List.forall_mem_cons.mpr ⟨ab_pp_mono _, List.forall_mem_cons.mpr ⟨ab_pure_mono _, List.forall_mem_nil _⟩⟩⟩⟩) (List.forall_mem_nil _)
abbrev zr_X3_look (Q : ab_R) : ab_K := ab_Run zg_X3_look zp_X3_look none 4 Q
set_option maxRecDepth 20000 in
theorem zv_X3_look_0 {Q : ab_R} {M : ab_M} {N : ab_N} (l1 : Int32) (l2 : Int32) (l3 : Int32) (h : (vp_in (l2 * 8 + l1) 96) ∧ (((ab_b (¬ ((M 38) (l2 * 8 + l1).toNatClampNeg >>> (l3 &&& 31)) &&& 1 = 0)) = 0 → Q none M N) ∧ (¬ ((ab_b (¬ ((M 38) (l2 * 8 + l1).toNatClampNeg >>> (l3 &&& 31)) &&& 1 = 0)) = 0) → vp_in l1 8 ∧ (((M 42 l1.toNatClampNeg) = 0 → Q none M N) ∧ (¬ ((M 42 l1.toNatClampNeg) = 0) → vp_in l1 8 ∧ (vp_in (1 : Int32) 5 ∧ (((M 42 l1.toNatClampNeg) = (M 17 1) → Q none M N) ∧ (¬ ((M 42 l1.toNatClampNeg) = (M 17 1)) → zt_X3_nextLot [.ref 8] M N (fun r M2 N2 => zr_X3_look Q 45 [some (.ref 8), some (.int l1), some (.int l2), some (.int l3)] (ab_ol r []) M2 N2))))))))) : zr_X3_look Q 0 [some (.ref 8), some (.int l1), some (.int l2), some (.int l3)] [] M N := ab_Run_s zm_X3_look (sp := [(45, [true, true, true, true]), (73, [true, true, true, false]), (110, [true, true, false, false])]) 75 h
set_option maxRecDepth 20000 in
theorem zv_X3_look_45 {Q : ab_R} {M : ab_M} {N : ab_N} (l1 : Int32) (l2 : Int32) (l3 : Int32) (s0 : Int64) (h : ¬ (100 : Int64) = 0 ∧ (vp_in l1 8 ∧ (zt_X1_ask [.ref 5, .int (1 : Int32), .int l1, .int l2, .int (M 42 l1.toNatClampNeg), .int (if 0 ≤ l3 ∧ l3 < (M 2) 6 ∧ l3 < 5 then (M 28) l3.toNatClampNeg else if l3 = 7 then 1 else 0)] M N (fun r M2 N2 => zr_X3_look Q 73 [some (.ref 8), some (.int l1), some (.int l2), none] (ab_ol r [.long (s0 - s0 / (100 : Int64) * (100 : Int64))]) M2 N2)))) : zr_X3_look Q 45 [some (.ref 8), some (.int l1), some (.int l2), some (.int l3)] [.long s0] M N := ab_Run_s zm_X3_look (sp := [(45, [true, true, true, true]), (73, [true, true, true, false]), (110, [true, true, false, false])]) 75 h
set_option maxRecDepth 20000 in
theorem zv_X3_look_73 {Q : ab_R} {M : ab_M} {N : ab_N} (l1 : Int32) (l2 : Int32) (s0 : Int64) (s1 : Int32) (h : (0 ≤ (lg_cmp s0 (s1.toInt64)) → Q none M N) ∧ (¬ (0 ≤ (lg_cmp s0 (s1.toInt64))) → let z1 : Nat → Int32 := upd (M 8) 7 ((M 8 7) + (1 : Int32)); vp_in l1 8 ∧ (zt_X1_ask [.ref 5, .int (2 : Int32), .int l1, .int l2, .int (M 42 l1.toNatClampNeg), .int (0 : Int32)] (ab_u M 8 z1) N (fun r M2 N2 => zr_X3_look Q 110 [some (.ref 8), some (.int l1), none, none] (ab_ol r [.long (N 8 5), .ref 8]) M2 N2)))) : zr_X3_look Q 73 [some (.ref 8), some (.int l1), some (.int l2), none] [.int s1, .long s0] M N := ab_Run_s zm_X3_look (sp := [(45, [true, true, true, true]), (73, [true, true, true, false]), (110, [true, true, false, false])]) 75 h
set_option maxRecDepth 20000 in
theorem zv_X3_look_110 {Q : ab_R} {M : ab_M} {N : ab_N} (l1 : Int32) (s1 : Int64) (s2 : Int32) (h : let y1 : Nat → Int64 := vp_updL (N 8) 5 (s1 + (s2.toInt64)); vp_in l1 8 ∧ (let z2 : Nat → Int32 := upd (M 42) l1.toNatClampNeg (0 : Int32); Q none (ab_u M 42 z2) (ab_u N 8 y1))) : zr_X3_look Q 110 [some (.ref 8), some (.int l1), none, none] [.int s2, .long s1, .ref 8] M N := ab_Run_s zm_X3_look (sp := [(45, [true, true, true, true]), (73, [true, true, true, false]), (110, [true, true, false, false])]) 75 h
theorem zE_X3_look (as : List Value) (M : ab_M) (N : ab_N) (k : ab_R) (hT : zt_X3_look as M N k) : ab_cs as ≤ 4 ∧ zr_X3_look k 0 (ab_en as) [] M N := by
  obtain ⟨p, h, w, rfl, ⟨hN, hW, q, g, u, hq, hg, hu, rfl, rfl, rfl, ⟨f, l, ha, br, fo⟩, hs⟩, hk⟩ := ab_m3_e hT
  obtain ⟨hA, h0, h1⟩ := id hN
  obtain ⟨hB, hB6, hB2⟩ := zB_eq h0
  obtain ⟨hP, hP8⟩ := zP_eq h0
  obtain ⟨hHe, hH12⟩ := zH_eq h0
  rw [nI_clamp (show q < 2 ^ 31 by omega), nI_clamp (show g < 2 ^ 31 by omega), nI_clamp (show u < 2 ^ 31 by omega)] at hk
  have s1 : ∀ p, p < 8 → M 42 p = nI (f p) ∧ f p ≤ zBrk M := hs.1
  have s2 : N 8 4 = l := hs.2.1
  have s3 : N 8 5 = ha := hs.2.2.1
  have s4 : M 8 6 = br := hs.2.2.2.1
  have s5 : M 8 7 = fo := hs.2.2.2.2
  obtain ⟨s1q, s1b⟩ := s1 q (by omega)
  have same : ∀ tf t2, zHd (zBrk M) M N (tf, t2) → tf q = f q ∧ t2 = (l, ha, br, fo) := fun tf t2 ht => ⟨(zHd_eq hs ht hB6).1 q (by omega), (zHd_eq hs ht hB6).2⟩
  have ei : nI g * 8 + nI q = nI (g * 8 + q) := by rw [zN_mul g 8 8, nI_add]
  refine ⟨Nat.le_of_ble_eq_true rfl, zv_X3_look_0 _ _ _ ?_⟩
  rw [ei, nI_clamp (show g * 8 + q < 2 ^ 31 by omega), nI_clamp (show q < 2 ^ 31 by omega), ((hW g hg).2 q hq).2, s1q, hB]
  refine ⟨nI_in_ (by omega), fun c => ?_, fun c => ⟨nI_in_ (by omega), fun c2 => ?_, fun c2 => ⟨nI_in_ (by omega), ab_vpk (by decide), fun c3 => ?_, fun c3 => ?_⟩⟩⟩
  · have c1 : ¬ zBit ((zWk M g).2.2.2 q) u := ab_b_0.mp c
    exact hk _ _ _ ⟨rfl, zFr_rf _ _, hA, zNfr_rf _ _, fun t ht => by rw [if_neg c1]; exact ht⟩
  · refine hk _ _ _ ⟨rfl, zFr_rf _ _, hA, zNfr_rf _ _, fun ⟨tf, t2⟩ ht => ?_⟩
    have c4 : f q = 0 := (nI_eq (by omega) (by omega)).mp (show nI (f q) = nI 0 from c2)
    obtain ⟨t1, rfl⟩ := same tf t2 ht
    rw [zDLook1_0 (Or.inl (by rw [t1, c4]))]
    split <;> exact ht
  · refine hk _ _ _ ⟨rfl, zFr_rf _ _, hA, zNfr_rf _ _, fun ⟨tf, t2⟩ ht => ?_⟩
    have c4 : f q = zBrk M := (nI_eq (by omega) (by omega)).mp c3
    obtain ⟨t1, rfl⟩ := same tf t2 ht
    rw [zDLook1_0 (Or.inr (by rw [t1, c4]))]
    split <;> exact ht
  · have c1 : zBit ((zWk M g).2.2.2 q) u := Decidable.not_not.mp (fun z => c (ab_b_0.mpr z))
    have c4 : ¬ (f q = 0 ∨ f q = zBrk M) := fun z => z.elim (fun z => c2 (by rw [z]; rfl)) (fun z => c3 (by rw [z]))
    have hp3 := zPace_le h1 u
    refine ab_m0_i trivial ?_
    rintro o M2 N2 ⟨ho, rfl, hN2⟩
    have hl : N2 8 4 = zLot l := by rw [hN2, ab_u_eq, updL_eq, s2, zLot]
    generalize hz : zLot l = L at hl
    rw [hl] at ho
    subst ho
    refine zv_X3_look_45 _ _ _ _ ⟨by decide, nI_in_ (by omega), ?_⟩
    rw [nI_clamp (show q < 2 ^ 31 by omega), s1q, zPace_ep h0 h1 hu]
    refine ab_m5_i ⟨hA, 1, q, g, f q, zPace M2 u, zPcs M2, by omega, hq, hP8, by omega, by omega, hp3, rfl, rfl, rfl, rfl, rfl, hP⟩ ?_
    rintro o M3 N3 ⟨hNe3, hF3, hA3, rfl⟩
    have hle1 := zAsk_le M2 (th := 1) (by omega) q g (f q) (zPace M2 u)
    rw [show (1 : Int32).toNatClampNeg = 1 from rfl, nI_clamp (show q < 2 ^ 31 by omega), nI_clamp (show g < 2 ^ 31 by omega), nI_clamp (show f q < 2 ^ 31 by omega), nI_clamp (show zPace M2 u < 2 ^ 31 by omega)]
    refine zv_X3_look_73 _ _ _ _ ?_
    rw [nI_l (by omega)]
    have hNf3 : zNfr [8] N N3 := by rw [hNe3, hN2]; exact zNfr_u (zNfr_rf _ _) (by decide) _
    have h84 : N3 8 4 = L := by rw [hNe3]; exact hl
    have h85 : N3 8 5 = ha := by rw [hNe3, hN2, ab_u_eq, updL_ne _ _ (by decide)]; exact s3
    refine ⟨fun c5 => ?_, fun c5 => ?_⟩
    · have c6 := (lg_cmp_ge _ _).mp c5
      refine hk _ _ _ ⟨rfl, zFr_mono hF3 (by decide), hA3, hNf3, fun ⟨tf, t2⟩ ht => ?_⟩
      obtain ⟨t1, rfl⟩ := same tf t2 ht
      rw [if_pos c1, zDLook1_1 (by rw [t1]; exact c4) hz (by rw [t1]; exact Int64.not_lt.mpr c6)]
      refine zHd_mk (fun p hp => ?_) h84 h85 ?_ ?_
      · rw [hF3 42 (by decide)]
        exact ht.1 p hp
      · rw [hF3 8 (by decide)]; exact s4
      · rw [hF3 8 (by decide)]; exact s5
    · have c6 := Int64.not_le.mp (fun z => c5 ((lg_cmp_ge _ _).mpr z))
      intro z1
      have hz1 : z1 = upd (M3 8) 7 (M3 8 7 + 1) := rfl
      clear_value z1
      refine ⟨nI_in_ (by omega), ?_⟩
      have e42 : ab_u M3 8 z1 42 (nI q).toNatClampNeg = nI (f q) := by rw [ab_u_ne _ _ (by decide), nI_clamp (by omega), hF3 42 (by decide), s1q]
      have hF4 : zFr [8, 33, 35, 36, 42] M2 (ab_u M3 8 z1) := zFr_u (zFr_mono hF3 (by decide)) (by decide) _
      show zt_X1_ask [.ref 5, .int 2, .int (nI q), .int (nI g), .int (ab_u M3 8 z1 42 (nI q).toNatClampNeg), .int 0] _ _ _
      rw [e42]
      refine ab_m5_i ⟨zAsks_gy hA3 (zFr_u (zFr_rf _ _) (by decide) _), 2, q, g, f q, 0, zPcs M2, by omega, hq, hP8, by omega, by omega, by omega, rfl, rfl, rfl, rfl, rfl, by rw [hF4 1 (by decide), hP]⟩ ?_
      rintro o M5 N5 ⟨hNe5, hF5, hA5, rfl⟩
      have hle2 := zAsk_le M2 (th := 2) (by omega) q g (f q) 0
      rw [zAsk_gx (zFr_mono hF4 (by decide)), show (2 : Int32).toNatClampNeg = 2 from rfl, show (0 : Int32).toNatClampNeg = 0 from rfl, nI_clamp (show q < 2 ^ 31 by omega), nI_clamp (show g < 2 ^ 31 by omega), nI_clamp (show f q < 2 ^ 31 by omega)]
      refine zv_X3_look_110 _ _ _ ?_
      rw [nI_l (by omega), h85]
      intro y1
      have hy1 : y1 = vp_updL (N3 8) 5 (ha + lN (zAsk M2 2 q g (f q) 0)) := by rw [← hNe5]
      clear_value y1
      refine ⟨nI_in_ (by omega), ?_⟩
      intro z2
      have hz2 : z2 = upd (M3 42) q 0 := by
        show upd (M5 42) _ _ = _
        rw [nI_clamp (by omega), hF5 42 (by decide), ab_u_ne _ _ (by decide)]
      clear_value z2
      have hF6 : zFr [8, 33, 35, 36, 42] M2 (ab_u M5 42 z2) := zFr_u (zFr_tr hF4 (zFr_mono hF5 (by decide))) (by decide) _
      refine hk _ _ _ ⟨rfl, hF6, zAsks_gy hA5 (zFr_u (zFr_rf _ _) (by decide) _), zNfr_u (by rw [hNe5]; exact hNf3) (by decide) _, fun ⟨tf, t2⟩ ht => ?_⟩
      obtain ⟨t1, rfl⟩ := same tf t2 ht
      rw [if_pos c1, zDLook1_2 (by rw [t1]; exact c4) hz (by rw [t1]; exact c6), t1]
      refine zHd_mk (fun p hp => ?_) ?_ ?_ ?_ ?_
      · rw [ab_u_eq, hz2]
        unfold zUp
        by_cases e : p = q
        · rw [e, upd_eq, if_pos rfl]; exact ⟨rfl, by omega⟩
        · rw [upd_ne _ _ e, if_neg e, hF3 42 (by decide)]; exact ht.1 p hp
      · rw [ab_u_eq, hy1, updL_ne _ _ (by decide)]; exact h84
      · rw [ab_u_eq, hy1, updL_eq]
      · rw [ab_u_ne _ _ (by decide), hF5 8 (by decide), ab_u_eq, hz1, upd_ne _ _ (by decide), hF3 8 (by decide), s4]
      · rw [ab_u_ne _ _ (by decide), hF5 8 (by decide), ab_u_eq, hz1, upd_eq, hF3 8 (by decide), s5]
abbrev zR_X3_look : Room := { frames := 3, cells := 0, slots := 0, locals := 80 }
set_option maxRecDepth 20000 in
theorem zM_X3_look (l : Launch) : ab_Met l zw_C vwCl zZ_C yX3_look cX3_look 4 none zR_X3_look zt_X3_look := ab_ofRun (G := zg_X3_look) (P := zp_X3_look) rfl zo_X3_look (by decide +kernel) zl_cl zl_lamC zf_X3_ok zs_tabOK zc_X3_ok ab_Sta_nil (List.forall_mem_cons.mpr ⟨ab_callV zZ_C_ok (zM_X3_nextLot l) (ab_in 891 (by decide +kernel) rfl) (ab_in 888 (by decide +kernel) rfl) (ab_in 890 (by decide +kernel) rfl) (ab_inS (List.mem_of_getElem? (i := 24) (by decide +kernel)) rfl) (ab_in 9 (by decide +kernel) rfl) (by unfold ab_yok; decide +kernel) ⟨rfl, rfl⟩ (by decide) zV_X3_nextLot, List.forall_mem_cons.mpr ⟨ab_callV zZ_C_ok (zM_X1_ask l) (ab_in 590 (by decide +kernel) rfl) (ab_in 896 (by decide +kernel) rfl) (ab_in 588 (by decide +kernel) rfl) (ab_in 589 (by decide +kernel) rfl) (ab_in 6 (by decide +kernel) rfl) (by unfold ab_yok; decide +kernel) ⟨rfl, rfl⟩ (by decide) zV_X1_ask, List.forall_mem_cons.mpr ⟨ab_callV zZ_C_ok (zM_X10_looksAt l) (ab_in 753 (by decide +kernel) rfl) (ab_in 901 (by decide +kernel) rfl) (ab_in 751 (by decide +kernel) rfl) (ab_in 752 (by decide +kernel) rfl) (ab_in 7 (by decide +kernel) rfl) (by unfold ab_yok; decide +kernel) ⟨rfl, rfl⟩ (by decide) zV_X10_looksAt, List.forall_mem_cons.mpr ⟨ab_callV zZ_C_ok (zM_X10_paceOf l) (ab_in 757 (by decide +kernel) rfl) (ab_in 903 (by decide +kernel) rfl) (ab_in 755 (by decide +kernel) rfl) (ab_in 756 (by decide +kernel) rfl) (ab_in 7 (by decide +kernel) rfl) (by unfold ab_yok; decide +kernel) ⟨rfl, rfl⟩ (by decide) zV_X10_paceOf, List.forall_mem_nil _⟩⟩⟩⟩) (List.forall_mem_nil _) zE_X3_look
