/-! the reference: a row of a sheet, a piece *)
-/
def zTotR (f : Nat → Int32) : Nat → Int32
  | 0 => 0
  | p + 1 => zTotR f p + f p
def zPlB (f : Nat → Int32) (n : Nat) (tot : Int32) : Nat → Int32
  | 0 => 0
  | p + 1 => zPlB f n tot p ||| (if f p * nI n ≤ 2 * tot then (0 : Int32) else (1 : Int32) <<< (nI p &&& 31))
def zt_X12_placesBy : ab_T := ab_lq (α := Nat × Nat) (fun x r M _ => r = [.int (nI x.1)] ∧ x.1 < 4 ∧ M 0 7 = nI x.2 ∧ x.2 ≤ 8)
  (fun x M N o M2 N2 => M2 = M ∧ N2 = N ∧ o = some (.int (zPlB (fun j => M 23 (40 * x.1 + j)) x.2 (zTotR (fun j => M 23 (40 * x.1 + j)) x.2) x.2)))
theorem zt_X12_placesBy_mono : ab_mono zt_X12_placesBy := ab_lq_mono _ _
theorem zV_X12_placesBy : ab_recv zw_M vwCl RX12 zt_X12_placesBy := ab_lq_v
def zp_X12_placesBy : ab_P := [(0, .iconst 0, 1, [], [0]),
  (1, .istore_n 2, 2, [2], []),
  (2, .iconst 0, 3, [], [0]),
  (3, .istore_n 3, 4, [3], []),
  (4, .iload_n 3, 5, [3], []),
  (5, .aload_n 0, 6, [0], []),
  (6, .getfield 172, 9, [], []),
  (9, .if_icmp .ge 23, 12, [32], []),
  (12, .iload_n 2, 13, [2], []),
  (13, .aload_n 0, 14, [0], []),
  (14, .getfield 104, 17, [], []),
  (17, .bipush 40, 19, [], [40]),
  (19, .iload_n 1, 20, [1], []),
  (20, .imul, 21, [], []),
  (21, .iload_n 3, 22, [3], []),
  (22, .iadd, 23, [], []),
  (23, .iaload, 24, [], []),
  (24, .iadd, 25, [], []),
  (25, .istore_n 2, 26, [2], []),
  (26, .iinc 3 1, 29, [], [1]),
  (29, .goto (-25), 32, [4], []),
  (32, .iconst 0, 33, [], [0]),
  (33, .istore_n 3, 34, [3], []),
  (34, .iconst 0, 35, [], [0]),
  (35, .istore 4, 37, [], []),
  (37, .iload 4, 39, [], []),
  (39, .aload_n 0, 40, [0], []),
  (40, .getfield 172, 43, [], []),
  (43, .if_icmp .ge 43, 46, [86], []),
  (46, .iload_n 3, 47, [3], []),
  (47, .aload_n 0, 48, [0], []),
  (48, .getfield 104, 51, [], []),
  (51, .bipush 40, 53, [], [40]),
  (53, .iload_n 1, 54, [1], []),
  (54, .imul, 55, [], []),
  (55, .iload 4, 57, [], []),
  (57, .iadd, 58, [], []),
  (58, .iaload, 59, [], []),
  (59, .aload_n 0, 60, [0], []),
  (60, .getfield 172, 63, [], []),
  (63, .imul, 64, [], []),
  (64, .iconst 2, 65, [], [2]),
  (65, .iload_n 2, 66, [2], []),
  (66, .imul, 67, [], []),
  (67, .if_icmp .le 10, 70, [77], []),
  (70, .iconst 1, 71, [], [1]),
  (71, .iload 4, 73, [], []),
  (73, .ishl, 74, [], []),
  (74, .goto 4, 77, [78], []),
  (77, .iconst 0, 78, [], [0]),
  (78, .ior, 79, [], []),
  (79, .istore_n 3, 80, [3], []),
  (80, .iinc 4 1, 83, [], [1]),
  (83, .goto (-46), 86, [37], []),
  (86, .iload_n 3, 87, [3], []),
  (87, .ireturn, 88, [], [])]
theorem zo_X12_placesBy : ab_ok cX12_placesBy zp_X12_placesBy = true := by decide +kernel
def zg_X12_placesBy : ab_G := (zw_M, [], zf_X12, zc_X12, [], [], [])
theorem zm_X12_placesBy : ab_MG zg_X12_placesBy := ab_MGof (List.forall_mem_nil _) (List.forall_mem_nil _)
abbrev zr_X12_placesBy (Q : ab_R) : ab_K := ab_Run zg_X12_placesBy zp_X12_placesBy (some .int) 5 Q
set_option maxRecDepth 20000 in
theorem zv_X12_placesBy_0 {Q : ab_R} {M : ab_M} {N : ab_N} (l1 : Int32) (h : zr_X12_placesBy Q 4 [some (.ref 0), some (.int l1), some (.int (0 : Int32)), some (.int (0 : Int32)), none] [] M N) : zr_X12_placesBy Q 0 [some (.ref 0), some (.int l1)] [] M N := ab_Run_s zm_X12_placesBy (sp := [(4, [true, true, true, true, false]), (37, [true, true, true, true, true])]) 58 h
set_option maxRecDepth 20000 in
theorem zv_X12_placesBy_4 {Q : ab_R} {M : ab_M} {N : ab_N} (l1 : Int32) (l2 : Int32) (l3 : Int32) (h : ((M 0 7) ≤ l3 → zr_X12_placesBy Q 37 [some (.ref 0), some (.int l1), some (.int l2), some (.int (0 : Int32)), some (.int (0 : Int32))] [] M N) ∧ (¬ ((M 0 7) ≤ l3) → vp_in (((40 : Int32) * l1) + l3) 160 ∧ (zr_X12_placesBy Q 4 [some (.ref 0), some (.int l1), some (.int (l2 + (M 23 (((40 : Int32) * l1) + l3).toNatClampNeg))), some (.int (l3 + (1 : Int32))), none] [] M N))) : zr_X12_placesBy Q 4 [some (.ref 0), some (.int l1), some (.int l2), some (.int l3), none] [] M N := ab_Run_s zm_X12_placesBy (sp := [(4, [true, true, true, true, false]), (37, [true, true, true, true, true])]) 58 h
set_option maxRecDepth 20000 in
theorem zv_X12_placesBy_37 {Q : ab_R} {M : ab_M} {N : ab_N} (l1 : Int32) (l2 : Int32) (l3 : Int32) (l4 : Int32) (h : ((M 0 7) ≤ l4 → Q (some (.int l3)) M N) ∧ (¬ ((M 0 7) ≤ l4) → vp_in (((40 : Int32) * l1) + l4) 160 ∧ ((((M 23 (((40 : Int32) * l1) + l4).toNatClampNeg) * (M 0 7)) ≤ ((2 : Int32) * l2) → zr_X12_placesBy Q 37 [some (.ref 0), some (.int l1), some (.int l2), some (.int (l3 ||| (0 : Int32))), some (.int (l4 + (1 : Int32)))] [] M N) ∧ (¬ (((M 23 (((40 : Int32) * l1) + l4).toNatClampNeg) * (M 0 7)) ≤ ((2 : Int32) * l2)) → zr_X12_placesBy Q 37 [some (.ref 0), some (.int l1), some (.int l2), some (.int (l3 ||| ((1 : Int32) <<< (l4 &&& 31)))), some (.int (l4 + (1 : Int32)))] [] M N)))) : zr_X12_placesBy Q 37 [some (.ref 0), some (.int l1), some (.int l2), some (.int l3), some (.int l4)] [] M N := ab_Run_s zm_X12_placesBy (sp := [(4, [true, true, true, true, false]), (37, [true, true, true, true, true])]) 58 h
section Pb
variable {Q : ab_R} {M : ab_M} {N : ab_N} {s n : Nat}
theorem zSh_i (s p : Nat) : (40 : Int32) * nI s + nI p = nI (40 * s + p) := by
  rw [show (40 : Int32) = nI 40 from rfl, pk_mul, nI_add]
theorem zL_X12_placesBy_b (hs : s < 4) (h7 : M 0 7 = nI n) (hn : n ≤ 8) (tot : Int32) (hk : Q (some (.int (zPlB (fun j => M 23 (40 * s + j)) n tot n))) M N) : ∀ (r p : Nat), p + r = n → zr_X12_placesBy Q 37 [some (.ref 0), some (.int (nI s)), some (.int tot), some (.int (zPlB (fun j => M 23 (40 * s + j)) n tot p)), some (.int (nI p))] [] M N := by
  intro r
  induction r with
  | zero =>
    intro p hr
    have e : p = n := by omega
    subst e
    exact zv_X12_placesBy_37 _ _ _ _ ⟨fun _ => hk, fun c => absurd (by rw [h7]; exact nI_le (Nat.le_refl _) (by omega)) c⟩
  | succ r ih =>
    intro p hr
    have ih := ih (p + 1) (by omega)
    have e : zPlB (fun j => M 23 (40 * s + j)) n tot (p + 1) = zPlB (fun j => M 23 (40 * s + j)) n tot p ||| (if M 23 (40 * s + p) * nI n ≤ 2 * tot then (0 : Int32) else (1 : Int32) <<< (nI p &&& 31)) := rfl
    rw [e] at ih
    refine zv_X12_placesBy_37 _ _ _ _ ?_
    rw [h7, zSh_i, nI_clamp (show 40 * s + p < 2 ^ 31 by omega), nI_1]
    refine ⟨fun c => absurd c (nI_ge (by omega) (by omega)), fun _ => ⟨nI_in_ (by omega), fun c => ?_, fun c => ?_⟩⟩
    · rw [if_pos c] at ih; exact ih
    · rw [if_neg c] at ih; exact ih
theorem zL_X12_placesBy (hs : s < 4) (h7 : M 0 7 = nI n) (hn : n ≤ 8) (hk : Q (some (.int (zPlB (fun j => M 23 (40 * s + j)) n (zTotR (fun j => M 23 (40 * s + j)) n) n))) M N) : ∀ (r p : Nat), p + r = n → zr_X12_placesBy Q 4 [some (.ref 0), some (.int (nI s)), some (.int (zTotR (fun j => M 23 (40 * s + j)) p)), some (.int (nI p)), none] [] M N := by
  intro r
  induction r with
  | zero =>
    intro p hr
    have e : p = n := by omega
    subst e
    exact zv_X12_placesBy_4 _ _ _ ⟨fun _ => zL_X12_placesBy_b hs h7 hn _ hk p 0 (by omega), fun c => absurd (by rw [h7]; exact nI_le (Nat.le_refl _) (by omega)) c⟩
  | succ r ih =>
    intro p hr
    have ih := ih (p + 1) (by omega)
    refine zv_X12_placesBy_4 _ _ _ ?_
    rw [h7, zSh_i, nI_clamp (show 40 * s + p < 2 ^ 31 by omega), nI_1]
    exact ⟨fun c => absurd c (nI_ge (by omega) (by omega)), fun _ => ⟨nI_in_ (by omega), ih⟩⟩
end Pb
theorem zE_X12_placesBy (as : List Value) (M : ab_M) (N : ab_N) (k : ab_R) (hT : zt_X12_placesBy as M N k) : ab_cs as ≤ 5 ∧ zr_X12_placesBy k 0 (ab_en as) [] M N := by
  obtain ⟨⟨s, n⟩, q, rfl, ⟨rfl, hs, h7, hn⟩, hk⟩ := hT
  dsimp only at hs h7 hn hk ⊢
  exact ⟨Nat.le_of_ble_eq_true rfl, zv_X12_placesBy_0 _ (zL_X12_placesBy hs h7 hn (hk _ _ _ ⟨rfl, rfl, rfl⟩) n 0 (by omega))⟩
abbrev zR_X12_placesBy : Room := { frames := 0, cells := 0, slots := 0, locals := 0 }
set_option maxRecDepth 20000 in
theorem zM_X12_placesBy (l : Launch) : ab_Met l zw_M vwCl zZ_M yX12_placesBy cX12_placesBy 5 (some .int) zR_X12_placesBy zt_X12_placesBy := ab_ofRun (G := zg_X12_placesBy) (P := zp_X12_placesBy) rfl zo_X12_placesBy (by decide +kernel) zl_cl zl_lamM zf_X12_ok ab_Tab_nil zc_X12_ok ab_Sta_nil (List.forall_mem_nil _) (List.forall_mem_nil _) zE_X12_placesBy
abbrev zRwO (f : Nat → Int32) (n : Nat) : Prop := ∀ j, j < n → 0 ≤ f j ∧ f j ≤ 9999
def zHwA (M : ab_M) (l : Int32) (n : Nat) : Int32 := if 0 ≤ l ∧ l ≤ 3 then (if M 21 l.toNatClampNeg = -1 then -11 else if M 22 l.toNatClampNeg = nI n ∧ zRwO (fun j => M 23 (40 * l.toNatClampNeg + j)) n then 0 else -2) else -2
def zt_X12_holesWrong : ab_T := ab_lq (α := Nat × Int32) (fun x r M _ => r = [.int x.2] ∧ M 0 7 = nI x.1 ∧ x.1 ≤ 8)
  (fun x M N o M2 N2 => M2 = M ∧ N2 = N ∧ o = some (.int (zHwA M x.2 x.1)))
theorem zt_X12_holesWrong_mono : ab_mono zt_X12_holesWrong := ab_lq_mono _ _
theorem zV_X12_holesWrong : ab_recv zw_M vwCl RX12 zt_X12_holesWrong := ab_lq_v
def zp_X12_holesWrong : ab_P := [(0, .iload_n 1, 1, [1], []),
  (1, .iconst 0, 2, [], [0]),
  (2, .iconst 3, 3, [], [3]),
  (3, .invokestatic 175, 6, [], []),
  (6, .ifCond .ne 6, 9, [12], []),
  (9, .bipush (-2), 11, [], [(-2)]),
  (11, .ireturn, 12, [], []),
  (12, .aload_n 0, 13, [0], []),
  (13, .getfield 98, 16, [], []),
  (16, .iload_n 1, 17, [1], []),
  (17, .iaload, 18, [], []),
  (18, .iconst (-1), 19, [], [(-1)]),
  (19, .if_icmp .ne 6, 22, [25], []),
  (22, .bipush (-11), 24, [], [(-11)]),
  (24, .ireturn, 25, [], []),
  (25, .aload_n 0, 26, [0], []),
  (26, .getfield 101, 29, [], []),
  (29, .iload_n 1, 30, [1], []),
  (30, .iaload, 31, [], []),
  (31, .aload_n 0, 32, [0], []),
  (32, .getfield 172, 35, [], []),
  (35, .if_icmp .ne 7, 38, [42], []),
  (38, .iconst 1, 39, [], [1]),
  (39, .goto 4, 42, [43], []),
  (42, .iconst 0, 43, [], [0]),
  (43, .istore_n 2, 44, [2], []),
  (44, .iconst 0, 45, [], [0]),
  (45, .istore_n 3, 46, [3], []),
  (46, .iload_n 3, 47, [3], []),
  (47, .aload_n 0, 48, [0], []),
  (48, .getfield 172, 51, [], []),
  (51, .if_icmp .ge 32, 54, [83], []),
  (54, .iload_n 2, 55, [2], []),
  (55, .ifCond .eq 28, 58, [83], []),
  (58, .aload_n 0, 59, [0], []),
  (59, .getfield 104, 62, [], []),
  (62, .bipush 40, 64, [], [40]),
  (64, .iload_n 1, 65, [1], []),
  (65, .imul, 66, [], []),
  (66, .iload_n 3, 67, [3], []),
  (67, .iadd, 68, [], []),
  (68, .iaload, 69, [], []),
  (69, .iconst 0, 70, [], [0]),
  (70, .sipush 9999, 73, [], [9999]),
  (73, .invokestatic 175, 76, [], []),
  (76, .istore_n 2, 77, [2], []),
  (77, .iinc 3 1, 80, [], [1]),
  (80, .goto (-34), 83, [46], []),
  (83, .iload_n 2, 84, [2], []),
  (84, .ifCond .eq 7, 87, [91], []),
  (87, .iconst 0, 88, [], [0]),
  (88, .goto 5, 91, [93], []),
  (91, .bipush (-2), 93, [], [(-2)]),
  (93, .ireturn, 94, [], [])]
theorem zo_X12_holesWrong : ab_ok cX12_holesWrong zp_X12_holesWrong = true := by decide +kernel
def zg_X12_holesWrong : ab_G := (zw_M, [], zf_X12, zc_X12, [], [], [(175, 3, zt_X12_in)])
theorem zm_X12_holesWrong : ab_MG zg_X12_holesWrong := ab_MGof (List.forall_mem_nil _) (List.forall_mem_cons.mpr ⟨ab_pure_mono _, List.forall_mem_nil _⟩)
abbrev zr_X12_holesWrong (Q : ab_R) : ab_K := ab_Run zg_X12_holesWrong zp_X12_holesWrong (some .int) 4 Q
set_option maxRecDepth 20000 in
theorem zv_X12_holesWrong_0 {Q : ab_R} {M : ab_M} {N : ab_N} (l1 : Int32) (h : ((ab_b ((0 : Int32) ≤ l1 ∧ l1 ≤ (3 : Int32))) = 0 → Q (some (.int (-2 : Int32))) M N) ∧ (¬ ((ab_b ((0 : Int32) ≤ l1 ∧ l1 ≤ (3 : Int32))) = 0) → vp_in l1 4 ∧ (((M 21 l1.toNatClampNeg) = (-1 : Int32) → Q (some (.int (-11 : Int32))) M N) ∧ (¬ ((M 21 l1.toNatClampNeg) = (-1 : Int32)) → vp_in l1 4 ∧ (((M 22 l1.toNatClampNeg) = (M 0 7) → zr_X12_holesWrong Q 46 [some (.ref 0), some (.int l1), some (.int (1 : Int32)), some (.int (0 : Int32))] [] M N) ∧ (¬ ((M 22 l1.toNatClampNeg) = (M 0 7)) → zr_X12_holesWrong Q 46 [some (.ref 0), some (.int l1), some (.int (0 : Int32)), some (.int (0 : Int32))] [] M N)))))) : zr_X12_holesWrong Q 0 [some (.ref 0), some (.int l1)] [] M N := ab_Run_s zm_X12_holesWrong (sp := [(46, [true, true, true, true])]) 56 h
set_option maxRecDepth 20000 in
theorem zv_X12_holesWrong_46 {Q : ab_R} {M : ab_M} {N : ab_N} (l1 : Int32) (l2 : Int32) (l3 : Int32) (h : ((M 0 7) ≤ l3 → (l2 = 0 → Q (some (.int (-2 : Int32))) M N) ∧ (¬ (l2 = 0) → Q (some (.int (0 : Int32))) M N)) ∧ (¬ ((M 0 7) ≤ l3) → (l2 = 0 → (l2 = 0 → Q (some (.int (-2 : Int32))) M N) ∧ (¬ (l2 = 0) → Q (some (.int (0 : Int32))) M N)) ∧ (¬ (l2 = 0) → vp_in (((40 : Int32) * l1) + l3) 160 ∧ (zr_X12_holesWrong Q 46 [some (.ref 0), some (.int l1), some (.int (ab_b ((0 : Int32) ≤ (M 23 (((40 : Int32) * l1) + l3).toNatClampNeg) ∧ (M 23 (((40 : Int32) * l1) + l3).toNatClampNeg) ≤ (9999 : Int32)))), some (.int (l3 + (1 : Int32)))] [] M N)))) : zr_X12_holesWrong Q 46 [some (.ref 0), some (.int l1), some (.int l2), some (.int l3)] [] M N := ab_Run_s zm_X12_holesWrong (sp := [(46, [true, true, true, true])]) 56 h
theorem zL_X12_holesWrong {Q : ab_R} {M : ab_M} {N : ab_N} {s n : Nat} (hs : s < 4) (h7 : M 0 7 = nI n) (hn : n ≤ 8) {A : Prop} (hA : A → Q (some (.int 0)) M N) (hB : ¬ A → Q (some (.int (-2))) M N) : ∀ (r p : Nat) (l : Int32), p + r = n → (l = 0 → ¬ A) → (¬ l = 0 → (A ↔ ∀ j, p ≤ j → j < n → 0 ≤ M 23 (40 * s + j) ∧ M 23 (40 * s + j) ≤ 9999)) → zr_X12_holesWrong Q 46 [some (.ref 0), some (.int (nI s)), some (.int l), some (.int (nI p))] [] M N := by
  intro r
  induction r with
  | zero =>
    intro p l hr h0 h1
    have e : p = n := by omega
    subst e
    exact zv_X12_holesWrong_46 _ _ _ ⟨fun _ => ⟨fun c => hB (h0 c), fun c => hA ((h1 c).mpr (fun j a b => by omega))⟩, fun c => absurd (by rw [h7]; exact nI_le (Nat.le_refl _) (by omega)) c⟩
  | succ r ih =>
    intro p l hr h0 h1
    refine zv_X12_holesWrong_46 _ _ _ ?_
    rw [h7, zSh_i, nI_clamp (show 40 * s + p < 2 ^ 31 by omega), nI_1]
    refine ⟨fun c => absurd c (nI_ge (by omega) (by omega)), fun _ => ⟨fun c => ⟨fun _ => hB (h0 c), fun z => absurd c z⟩, fun c => ⟨nI_in_ (by omega), ih (p + 1) _ (by omega) (fun z a => ?_) (fun z => ?_)⟩⟩⟩
    · exact ab_b_0.mp z ((h1 c).mp a p (Nat.le_refl _) (by omega))
    · have z1 : 0 ≤ M 23 (40 * s + p) ∧ M 23 (40 * s + p) ≤ 9999 := Classical.byContradiction fun q => z (ab_b_0.mpr q)
      refine (h1 c).trans ⟨fun a j x y => a j (by omega) y, fun a j x y => ?_⟩
      by_cases e : j = p
      · rw [e]; exact z1
      · exact a j (by omega) y
theorem zE_X12_holesWrong (as : List Value) (M : ab_M) (N : ab_N) (k : ab_R) (hT : zt_X12_holesWrong as M N k) : ab_cs as ≤ 4 ∧ zr_X12_holesWrong k 0 (ab_en as) [] M N := by
  obtain ⟨⟨n, l⟩, q, rfl, ⟨rfl, h7, hn⟩, hk⟩ := hT
  dsimp only at h7 hn hk ⊢
  have hk := hk _ _ _ ⟨rfl, rfl, rfl⟩
  refine ⟨Nat.le_of_ble_eq_true rfl, zv_X12_holesWrong_0 _ ⟨fun c => ?_, fun c => ?_⟩⟩
  · rw [show zHwA M l n = -2 from if_neg (ab_b_0.mp c)] at hk
    exact hk
  · have c2 : 0 ≤ l ∧ l ≤ 3 := Classical.byContradiction fun q => c (ab_b_0.mpr q)
    obtain ⟨s, hs, rfl⟩ := nI_ex c2.1
    have s4 : s ≤ 3 := (nI_leI (b := 3) hs (by decide)).mp c2.2
    rw [show zHwA M (nI s) n = _ from if_pos c2, nI_clamp hs] at hk
    rw [nI_clamp hs]
    refine ⟨nI_in_ (by omega), fun c3 => ?_, fun c3 => ⟨nI_in_ (by omega), fun c4 => ?_, fun c4 => ?_⟩⟩
    · rw [if_pos c3] at hk; exact hk
    · rw [if_neg c3] at hk
      refine zL_X12_holesWrong (s := s) (by omega) h7 hn (A := M 22 s = nI n ∧ zRwO (fun j => M 23 (40 * s + j)) n) (fun a => by rw [if_pos a] at hk; exact hk) (fun a => by rw [if_neg a] at hk; exact hk) n 0 1 (by omega) (fun z => absurd z (by decide)) (fun _ => ⟨fun a j _ y => a.2 j y, fun a => ⟨c4.trans h7, fun j y => a j (Nat.zero_le _) y⟩⟩)
    · rw [if_neg c3] at hk
      refine zL_X12_holesWrong (s := s) (by omega) h7 hn (A := M 22 s = nI n ∧ zRwO (fun j => M 23 (40 * s + j)) n) (fun a => by rw [if_pos a] at hk; exact hk) (fun a => by rw [if_neg a] at hk; exact hk) n 0 0 (by omega) (fun _ a => c4 (a.1.trans h7.symm)) (fun z => absurd rfl z)
abbrev zR_X12_holesWrong : Room := { frames := 1, cells := 0, slots := 0, locals := 22 }
set_option maxRecDepth 20000 in
theorem zM_X12_holesWrong (l : Launch) : ab_Met l zw_M vwCl zZ_M yX12_holesWrong cX12_holesWrong 4 (some .int) zR_X12_holesWrong zt_X12_holesWrong := ab_ofRun (G := zg_X12_holesWrong) (P := zp_X12_holesWrong) rfl zo_X12_holesWrong (by decide +kernel) zl_cl zl_lamM zf_X12_ok ab_Tab_nil zc_X12_ok ab_Sta_nil (List.forall_mem_nil _) (List.forall_mem_cons.mpr ⟨ab_callS zZ_M_ok (zM_X12_in l) (ab_in 1200 (by decide +kernel) rfl) (ab_in 1198 (by decide +kernel) rfl) (ab_in 1199 (by decide +kernel) rfl) (ab_in 17 (by decide +kernel) rfl) (by unfold ab_yok; decide +kernel) ⟨rfl, rfl⟩ (by decide), List.forall_mem_nil _⟩) zE_X12_holesWrong
def zPcA (a b : Int32) (n : Nat) : Int32 := if 0 ≤ a ∧ a ≤ 1 then (if 0 ≤ b ∧ b ≤ 99 then (if n = 8 then -4 else nI n) else -2) else -2
def zPcM (M : ab_M) (a b : Int32) (n : Nat) : ab_M := if (0 ≤ a ∧ a ≤ 1) ∧ (0 ≤ b ∧ b ≤ 99) ∧ ¬ n = 8 then ab_u (ab_u (ab_u M 2 (upd (M 2) n a)) 3 (upd (M 3) n b)) 0 (upd (M 0) 7 (nI (n + 1))) else M
def zt_X12_piece : ab_T := ab_lq (α := Nat × Int32 × Int32) (fun x r M _ => r = [.int x.2.1, .int x.2.2] ∧ M 0 7 = nI x.1 ∧ x.1 ≤ 8)
  (fun x M N o M2 N2 => M2 = zPcM M x.2.1 x.2.2 x.1 ∧ N2 = N ∧ o = some (.int (zPcA x.2.1 x.2.2 x.1)))
theorem zt_X12_piece_mono : ab_mono zt_X12_piece := ab_lq_mono _ _
theorem zV_X12_piece : ab_recv zw_M vwCl RX12 zt_X12_piece := ab_lq_v
def zp_X12_piece : ab_P := [(0, .iload_n 1, 1, [1], []),
  (1, .iconst 0, 2, [], [0]),
  (2, .iconst 1, 3, [], [1]),
  (3, .invokestatic 175, 6, [], []),
  (6, .ifCond .eq 13, 9, [19], []),
  (9, .iload_n 2, 10, [2], []),
  (10, .iconst 0, 11, [], [0]),
  (11, .bipush 99, 13, [], [99]),
  (13, .invokestatic 175, 16, [], []),
  (16, .ifCond .ne 6, 19, [22], []),
  (19, .bipush (-2), 21, [], [(-2)]),
  (21, .ireturn, 22, [], []),
  (22, .aload_n 0, 23, [0], []),
  (23, .getfield 172, 26, [], []),
  (26, .bipush 8, 28, [], [8]),
  (28, .if_icmp .ne 6, 31, [34], []),
  (31, .bipush (-4), 33, [], [(-4)]),
  (33, .ireturn, 34, [], []),
  (34, .aload_n 0, 35, [0], []),
  (35, .getfield 29, 38, [], []),
  (38, .aload_n 0, 39, [0], []),
  (39, .getfield 172, 42, [], []),
  (42, .iload_n 1, 43, [1], []),
  (43, .iastore, 44, [], []),
  (44, .aload_n 0, 45, [0], []),
  (45, .getfield 32, 48, [], []),
  (48, .aload_n 0, 49, [0], []),
  (49, .getfield 172, 52, [], []),
  (52, .iload_n 2, 53, [2], []),
  (53, .iastore, 54, [], []),
  (54, .aload_n 0, 55, [0], []),
  (55, .dup, 56, [], []),
  (56, .getfield 172, 59, [], []),
  (59, .iconst 1, 60, [], [1]),
  (60, .iadd, 61, [], []),
  (61, .putfield 172, 64, [], []),
  (64, .aload_n 0, 65, [0], []),
  (65, .getfield 172, 68, [], []),
  (68, .iconst 1, 69, [], [1]),
  (69, .isub, 70, [], []),
  (70, .ireturn, 71, [], [])]
theorem zo_X12_piece : ab_ok cX12_piece zp_X12_piece = true := by decide +kernel
def zg_X12_piece : ab_G := (zw_M, [], zf_X12, zc_X12, [], [], [(175, 3, zt_X12_in)])
theorem zm_X12_piece : ab_MG zg_X12_piece := ab_MGof (List.forall_mem_nil _) (List.forall_mem_cons.mpr ⟨ab_pure_mono _, List.forall_mem_nil _⟩)
abbrev zr_X12_piece (Q : ab_R) : ab_K := ab_Run zg_X12_piece zp_X12_piece (some .int) 3 Q
set_option maxRecDepth 20000 in
theorem zv_X12_piece_0 {Q : ab_R} {M : ab_M} {N : ab_N} (l1 : Int32) (l2 : Int32) (h : ((ab_b ((0 : Int32) ≤ l1 ∧ l1 ≤ (1 : Int32))) = 0 → Q (some (.int (-2 : Int32))) M N) ∧ (¬ ((ab_b ((0 : Int32) ≤ l1 ∧ l1 ≤ (1 : Int32))) = 0) → ((ab_b ((0 : Int32) ≤ l2 ∧ l2 ≤ (99 : Int32))) = 0 → Q (some (.int (-2 : Int32))) M N) ∧ (¬ ((ab_b ((0 : Int32) ≤ l2 ∧ l2 ≤ (99 : Int32))) = 0) → ((M 0 7) = (8 : Int32) → Q (some (.int (-4 : Int32))) M N) ∧ (¬ ((M 0 7) = (8 : Int32)) → vp_in (M 0 7) 8 ∧ (let z1 : Nat → Int32 := upd (M 2) (M 0 7).toNatClampNeg l1; vp_in (M 0 7) 8 ∧ (let z2 : Nat → Int32 := upd (M 3) (M 0 7).toNatClampNeg l2; let z3 : Nat → Int32 := upd (M 0) 7 ((M 0 7) + (1 : Int32)); Q (some (.int ((z3 7) - (1 : Int32)))) (ab_u (ab_u (ab_u M 2 z1) 3 z2) 0 z3) N)))))) : zr_X12_piece Q 0 [some (.ref 0), some (.int l1), some (.int l2)] [] M N := ab_Run_s zm_X12_piece (sp := []) 43 h
theorem zE_X12_piece (as : List Value) (M : ab_M) (N : ab_N) (k : ab_R) (hT : zt_X12_piece as M N k) : ab_cs as ≤ 3 ∧ zr_X12_piece k 0 (ab_en as) [] M N := by
  obtain ⟨⟨n, a, b⟩, q, rfl, ⟨rfl, h7, hn⟩, hk⟩ := hT
  dsimp only at h7 hn hk ⊢
  have hk := hk _ _ _ ⟨rfl, rfl, rfl⟩
  unfold zPcA zPcM at hk
  refine ⟨Nat.le_of_ble_eq_true rfl, zv_X12_piece_0 _ _ ⟨fun c => ?_, fun c => ⟨fun d => ?_, fun d => ?_⟩⟩⟩
  · have c := ab_b_0.mp c
    rw [if_neg c, if_neg (fun z => c z.1)] at hk
    exact hk
  · have c : 0 ≤ a ∧ a ≤ 1 := Classical.byContradiction fun q => c (ab_b_0.mpr q)
    have d := ab_b_0.mp d
    rw [if_pos c, if_neg d, if_neg (fun z => d z.2.1)] at hk
    exact hk
  · have c : 0 ≤ a ∧ a ≤ 1 := Classical.byContradiction fun q => c (ab_b_0.mpr q)
    have d : 0 ≤ b ∧ b ≤ 99 := Classical.byContradiction fun q => d (ab_b_0.mpr q)
    rw [if_pos c, if_pos d] at hk
    rw [h7, nI_clamp (show n < 2 ^ 31 by omega)]
    refine ⟨fun e => ?_, fun e => ?_⟩
    · have e : n = 8 := (nI_eq (b := 8) (by omega) (by decide)).mp e
      rw [if_pos e, if_neg (fun z => z.2.2 e)] at hk
      exact hk
    · have e : ¬ n = 8 := fun z => e (by rw [z]; rfl)
      rw [if_neg e, if_pos ⟨c, d, e⟩] at hk
      refine ⟨nI_in_ (by omega), ?_⟩
      intro z1
      refine ⟨nI_in_ (by omega), ?_⟩
      intro z2 z3
      have e3 : z3 = upd (M 0) 7 (nI (n + 1)) := by simp only [z3]; rw [nI_1]
      rw [e3, upd_eq, nI_pred]
      exact hk
abbrev zR_X12_piece : Room := { frames := 1, cells := 0, slots := 0, locals := 22 }
set_option maxRecDepth 20000 in
theorem zM_X12_piece (l : Launch) : ab_Met l zw_M vwCl zZ_M yX12_piece cX12_piece 3 (some .int) zR_X12_piece zt_X12_piece := ab_ofRun (G := zg_X12_piece) (P := zp_X12_piece) rfl zo_X12_piece (by decide +kernel) zl_cl zl_lamM zf_X12_ok ab_Tab_nil zc_X12_ok ab_Sta_nil (List.forall_mem_nil _) (List.forall_mem_cons.mpr ⟨ab_callS zZ_M_ok (zM_X12_in l) (ab_in 1200 (by decide +kernel) rfl) (ab_in 1198 (by decide +kernel) rfl) (ab_in 1199 (by decide +kernel) rfl) (ab_in 17 (by decide +kernel) rfl) (by unfold ab_yok; decide +kernel) ⟨rfl, rfl⟩ (by decide), List.forall_mem_nil _⟩) zE_X12_piece
