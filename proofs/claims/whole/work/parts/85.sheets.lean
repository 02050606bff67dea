/-! sheet, cell, copy *)
-/
abbrev zQ4 (s : Int32) : Prop := 0 ≤ s ∧ s ≤ 3
theorem zQ4_c {s : Int32} : (0 ≤ s ∧ s < 4) ↔ zQ4 s := by
  unfold zQ4
  grind
theorem zQ4_n {s : Int32} (h : zQ4 s) : ∃ q : Nat, q < 4 ∧ s = nI q := by
  obtain ⟨q, y, e⟩ := zIxM (n := 3) (by decide) h
  exact ⟨q, by omega, e⟩
abbrev zSeV (s t n : Int32) : Prop := zQ4 s ∧ (-1 ≤ t ∧ t ≤ 2) ∧ (t = -1 ∨ (n ≤ 40 ∧ 0 ≤ n))
def zSeA (s t n : Int32) : Int32 := if zSeV s t n then 1 else if zQ4 s ∧ (-1 ≤ t ∧ t ≤ 2) ∧ n ≤ 40 then -14 else -2
def zSeW (f : Nat → Int32) (q : Nat) : Nat → Int32 := fun j => if q * 40 ≤ j ∧ j < q * 40 + 40 then 0 else f j
def zSeF (f : Nat → Int32) (s x : Int32) : Nat → Int32 := upd f s.toNatClampNeg x
def zSeC (M : ab_M) (s t n : Int32) : ab_M := if zSeV s t n then ab_u (ab_u (ab_u M 43 (zSeF (M 43) s t)) 44 (zSeF (M 44) s (if t = -1 then 0 else n))) 45 (zSeW (M 45) s.toNatClampNeg) else M
def zSeR (M : ab_M) (s t n : Int32) : ab_M := if zSeV s t n then ab_u (ab_u (ab_u M 21 (zSeF (M 21) s t)) 22 (zSeF (M 22) s (if t = -1 then 0 else n))) 23 (zSeW (M 23) s.toNatClampNeg) else M
theorem zSe_leaf {k : ab_R} {s t n : Int32} {M X : ab_M} {N : ab_N} (hk : k (some (.int (zSeA s t n))) (if zSeV s t n then X else M) N) : (zSeV s t n → k (some (.int 1)) X N) ∧ (¬ zSeV s t n → (zQ4 s ∧ (-1 ≤ t ∧ t ≤ 2) ∧ n ≤ 40) → k (some (.int (-14))) M N) ∧ (¬ (zQ4 s ∧ (-1 ≤ t ∧ t ≤ 2)) → k (some (.int (-2))) M N) ∧ (¬ t = -1 → ¬ n ≤ 40 → k (some (.int (-2))) M N) := by
  unfold zSeA at hk
  refine ⟨fun h => ?_, fun h h2 => ?_, fun h => ?_, fun h h2 => ?_⟩
  · rw [if_pos h, if_pos h] at hk; exact hk
  · rw [if_neg h, if_neg h, if_pos h2] at hk; exact hk
  · have nv : ¬ zSeV s t n := fun z => h ⟨z.1, z.2.1⟩
    have nv2 : ¬ (zQ4 s ∧ (-1 ≤ t ∧ t ≤ 2) ∧ n ≤ 40) := fun z => h ⟨z.1, z.2.1⟩
    rw [if_neg nv, if_neg nv, if_neg nv2] at hk; exact hk
  · have nv : ¬ zSeV s t n := fun z => z.2.2.elim h (fun q => h2 q.1)
    have nv2 : ¬ (zQ4 s ∧ (-1 ≤ t ∧ t ≤ 2) ∧ n ≤ 40) := fun z => h2 z.2.2
    rw [if_neg nv, if_neg nv, if_neg nv2] at hk; exact hk
def zt_X11_sheet : ab_T := ab_m3 0 (fun _ _ _ _ _ => True) (fun s t n M N o M2 N2 => M2 = zSeC M s t n ∧ N2 = N ∧ o = some (.int (zSeA s t n)))
theorem zt_X11_sheet_mono : ab_mono zt_X11_sheet := ab_m3_mono _ _ _
theorem zV_X11_sheet : ab_recv zw_C vwCl RX11 zt_X11_sheet := ab_m3_v rfl rfl
def zp_X11_sheet : ab_P := [(0, .aload_n 0, 1, [0], []),
  (1, .getfield 76, 4, [], []),
  (4, .iload_n 1, 5, [1], []),
  (5, .invokevirtual 278, 8, [], []),
  (8, .ifCond .eq 23, 11, [31], []),
  (11, .iload_n 2, 12, [2], []),
  (12, .iconst (-1), 13, [], [(-1)]),
  (13, .iconst 2, 14, [], [2]),
  (14, .invokestatic 117, 17, [], []),
  (17, .ifCond .eq 14, 20, [31], []),
  (20, .iload_n 2, 21, [2], []),
  (21, .iconst (-1), 22, [], [(-1)]),
  (22, .if_icmp .eq 12, 25, [34], []),
  (25, .iload_n 3, 26, [3], []),
  (26, .bipush 40, 28, [], [40]),
  (28, .if_icmp .le 6, 31, [34], []),
  (31, .bipush (-2), 33, [], [(-2)]),
  (33, .ireturn, 34, [], []),
  (34, .iload_n 2, 35, [2], []),
  (35, .iconst (-1), 36, [], [(-1)]),
  (36, .if_icmp .eq 10, 39, [46], []),
  (39, .iload_n 3, 40, [3], []),
  (40, .ifCond .ge 6, 43, [46], []),
  (43, .bipush (-14), 45, [], [(-14)]),
  (45, .ireturn, 46, [], []),
  (46, .aload_n 0, 47, [0], []),
  (47, .getfield 76, 50, [], []),
  (50, .iload_n 1, 51, [1], []),
  (51, .iload_n 2, 52, [2], []),
  (52, .iload_n 2, 53, [2], []),
  (53, .iconst (-1), 54, [], [(-1)]),
  (54, .if_icmp .ne 7, 57, [61], []),
  (57, .iconst 0, 58, [], [0]),
  (58, .goto 4, 61, [62], []),
  (61, .iload_n 3, 62, [3], []),
  (62, .invokevirtual 326, 65, [], []),
  (65, .iconst 1, 66, [], [1]),
  (66, .ireturn, 67, [], [])]
theorem zo_X11_sheet : ab_ok cX11_sheet zp_X11_sheet = true := by decide +kernel
def zg_X11_sheet : ab_G := (zw_C, zs_tab, zf_X11, zc_X11, [(144, 50), (147, 51)], [(278, 2, zt_X7_has), (326, 4, zt_X7_renew)], [(117, 3, zt_X11_within)])
theorem zm_X11_sheet : ab_MG zg_X11_sheet := ab_MGof (List.forall_mem_cons.mpr ⟨ab_pure_mono _, List.forall_mem_cons.mpr ⟨zt_X7_renew_mono, List.forall_mem_nil _⟩⟩) (List.forall_mem_cons.mpr ⟨ab_pure_mono _, List.forall_mem_nil _⟩)
abbrev zr_X11_sheet (Q : ab_R) : ab_K := ab_Run zg_X11_sheet zp_X11_sheet (some .int) 4 Q
set_option maxRecDepth 20000 in
theorem zv_X11_sheet_0 {Q : ab_R} {M : ab_M} {N : ab_N} (l1 : Int32) (l2 : Int32) (l3 : Int32) (h : ((ab_b (0 ≤ l1 ∧ l1 < 4)) = 0 → Q (some (.int (-2 : Int32))) M N) ∧ (¬ ((ab_b (0 ≤ l1 ∧ l1 < 4)) = 0) → ((ab_b ((-1 : Int32) ≤ l2 ∧ l2 ≤ (2 : Int32))) = 0 → Q (some (.int (-2 : Int32))) M N) ∧ (¬ ((ab_b ((-1 : Int32) ≤ l2 ∧ l2 ≤ (2 : Int32))) = 0) → (l2 = (-1 : Int32) → (l2 = (-1 : Int32) → zr_X11_sheet Q 46 [some (.ref 0), some (.int l1), some (.int l2), some (.int l3)] [] M N) ∧ (¬ (l2 = (-1 : Int32)) → (0 ≤ l3 → zr_X11_sheet Q 46 [some (.ref 0), some (.int l1), some (.int l2), some (.int l3)] [] M N) ∧ (¬ (0 ≤ l3) → Q (some (.int (-14 : Int32))) M N))) ∧ (¬ (l2 = (-1 : Int32)) → (l3 ≤ (40 : Int32) → (l2 = (-1 : Int32) → zr_X11_sheet Q 46 [some (.ref 0), some (.int l1), some (.int l2), some (.int l3)] [] M N) ∧ (¬ (l2 = (-1 : Int32)) → (0 ≤ l3 → zr_X11_sheet Q 46 [some (.ref 0), some (.int l1), some (.int l2), some (.int l3)] [] M N) ∧ (¬ (0 ≤ l3) → Q (some (.int (-14 : Int32))) M N))) ∧ (¬ (l3 ≤ (40 : Int32)) → Q (some (.int (-2 : Int32))) M N))))) : zr_X11_sheet Q 0 [some (.ref 0), some (.int l1), some (.int l2), some (.int l3)] [] M N := ab_Run_s zm_X11_sheet (sp := [(46, [true, true, true, true]), (65, [false, false, false, false])]) 40 h
set_option maxRecDepth 20000 in
theorem zv_X11_sheet_46 {Q : ab_R} {M : ab_M} {N : ab_N} (l1 : Int32) (l2 : Int32) (l3 : Int32) (h : (l2 = (-1 : Int32) → zt_X7_renew [.ref 9, .int l1, .int l2, .int (0 : Int32)] M N (fun r M2 N2 => zr_X11_sheet Q 65 [none, none, none, none] (ab_ol r []) M2 N2)) ∧ (¬ (l2 = (-1 : Int32)) → zt_X7_renew [.ref 9, .int l1, .int l2, .int l3] M N (fun r M2 N2 => zr_X11_sheet Q 65 [none, none, none, none] (ab_ol r []) M2 N2))) : zr_X11_sheet Q 46 [some (.ref 0), some (.int l1), some (.int l2), some (.int l3)] [] M N := ab_Run_s zm_X11_sheet (sp := [(46, [true, true, true, true]), (65, [false, false, false, false])]) 40 h
set_option maxRecDepth 20000 in
theorem zv_X11_sheet_65 {Q : ab_R} {M : ab_M} {N : ab_N}  (h : Q (some (.int (1 : Int32))) M N) : zr_X11_sheet Q 65 [none, none, none, none] [] M N := ab_Run_s zm_X11_sheet (sp := [(46, [true, true, true, true]), (65, [false, false, false, false])]) 40 h
theorem zE_X11_sheet (as : List Value) (M : ab_M) (N : ab_N) (k : ab_R) (hT : zt_X11_sheet as M N k) : ab_cs as ≤ 4 ∧ zr_X11_sheet k 0 (ab_en as) [] M N := by
  obtain ⟨s, t, n, rfl, -, hk⟩ := ab_m3_e hT
  obtain ⟨g1, g2, g3, g4⟩ := zSe_leaf (hk _ _ _ ⟨rfl, rfl, rfl⟩)
  have b46 : zSeV s t n → zr_X11_sheet k 46 [some (.ref 0), some (.int s), some (.int t), some (.int n)] [] M N := fun hv => by
    obtain ⟨q, hq, rfl⟩ := zQ4_n hv.1
    have g1 := g1 hv
    refine zv_X11_sheet_46 _ _ _ ⟨fun c => ab_m3_i ⟨q, hq, rfl⟩ ?_, fun c => ab_m3_i ⟨q, hq, rfl⟩ ?_⟩
    · rintro o M2 N2 ⟨rfl, rfl, rfl⟩
      rw [if_pos c] at g1
      exact zv_X11_sheet_65 g1
    · rintro o M2 N2 ⟨rfl, rfl, rfl⟩
      rw [if_neg c] at g1
      exact zv_X11_sheet_65 g1
  refine ⟨Nat.le_of_ble_eq_true rfl, zv_X11_sheet_0 _ _ _ ⟨fun c => g3 (fun z => ab_b_0.mp c (zQ4_c.mpr z.1)), fun c => ⟨fun c2 => g3 (fun z => ab_b_0.mp c2 z.2), fun c2 => ?_⟩⟩⟩
  have a1 := zQ4_c.mp (zIx0 c)
  have a2 := zIx0 c2
  refine ⟨fun c3 => ⟨fun _ => b46 ⟨a1, a2, Or.inl c3⟩, fun z => absurd c3 z⟩, fun c3 => ⟨fun c4 => ⟨fun z => absurd z c3, fun _ => ⟨fun c5 => b46 ⟨a1, a2, Or.inr ⟨c4, c5⟩⟩, fun c5 => g2 (fun z => z.2.2.elim c3 (fun q => c5 q.2)) ⟨a1, a2, c4⟩⟩⟩, fun c4 => g4 c3 c4⟩⟩
abbrev zR_X11_sheet : Room := { frames := 1, cells := 0, slots := 0, locals := 24 }
set_option maxRecDepth 20000 in
theorem zM_X11_sheet (l : Launch) : ab_Met l zw_C vwCl zZ_C yX11_sheet cX11_sheet 4 (some .int) zR_X11_sheet zt_X11_sheet := ab_ofRun (G := zg_X11_sheet) (P := zp_X11_sheet) rfl zo_X11_sheet (by decide +kernel) zl_cl zl_lamC zf_X11_ok zs_tabOK zc_X11_ok zs_X11_ok (List.forall_mem_cons.mpr ⟨ab_callV zZ_C_ok (zM_X7_has l) (ab_in 621 (by decide +kernel) rfl) (ab_in 618 (by decide +kernel) rfl) (ab_in 619 (by decide +kernel) rfl) (ab_in 620 (by decide +kernel) rfl) (ab_in 10 (by decide +kernel) rfl) (by unfold ab_yok; decide +kernel) ⟨rfl, rfl⟩ (by decide) zV_X7_has, List.forall_mem_cons.mpr ⟨ab_callV zZ_C_ok (zM_X7_renew l) (ab_in 927 (by decide +kernel) rfl) (ab_in 924 (by decide +kernel) rfl) (ab_in 925 (by decide +kernel) rfl) (ab_in 926 (by decide +kernel) rfl) (ab_in 10 (by decide +kernel) rfl) (by unfold ab_yok; decide +kernel) ⟨rfl, rfl⟩ (by decide) zV_X7_renew, List.forall_mem_nil _⟩⟩) (List.forall_mem_cons.mpr ⟨ab_callS zZ_C_ok (zM_X11_within l) (ab_in 538 (by decide +kernel) rfl) (ab_in 536 (by decide +kernel) rfl) (ab_in 537 (by decide +kernel) rfl) (ab_in 1 (by decide +kernel) rfl) (by unfold ab_yok; decide +kernel) ⟨rfl, rfl⟩ (by decide), List.forall_mem_nil _⟩) zE_X11_sheet
def zt_X12_sheet : ab_T := ab_lq (α := Int32 × Int32 × Int32) (fun x r _ _ => r = [.int x.1, .int x.2.1, .int x.2.2])
  (fun x M N o M2 N2 => M2 = zSeR M x.1 x.2.1 x.2.2 ∧ N2 = N ∧ o = some (.int (zSeA x.1 x.2.1 x.2.2)))
theorem zt_X12_sheet_mono : ab_mono zt_X12_sheet := ab_lq_mono _ _
theorem zV_X12_sheet : ab_recv zw_M vwCl RX12 zt_X12_sheet := ab_lq_v
def zp_X12_sheet : ab_P := [(0, .iload_n 1, 1, [1], []),
  (1, .iconst 0, 2, [], [0]),
  (2, .iconst 3, 3, [], [3]),
  (3, .invokestatic 175, 6, [], []),
  (6, .ifCond .eq 23, 9, [29], []),
  (9, .iload_n 2, 10, [2], []),
  (10, .iconst (-1), 11, [], [(-1)]),
  (11, .iconst 2, 12, [], [2]),
  (12, .invokestatic 175, 15, [], []),
  (15, .ifCond .eq 14, 18, [29], []),
  (18, .iload_n 2, 19, [2], []),
  (19, .iconst (-1), 20, [], [(-1)]),
  (20, .if_icmp .eq 12, 23, [32], []),
  (23, .iload_n 3, 24, [3], []),
  (24, .bipush 40, 26, [], [40]),
  (26, .if_icmp .le 6, 29, [32], []),
  (29, .bipush (-2), 31, [], [(-2)]),
  (31, .ireturn, 32, [], []),
  (32, .iload_n 2, 33, [2], []),
  (33, .iconst (-1), 34, [], [(-1)]),
  (34, .if_icmp .eq 10, 37, [44], []),
  (37, .iload_n 3, 38, [3], []),
  (38, .ifCond .ge 6, 41, [44], []),
  (41, .bipush (-14), 43, [], [(-14)]),
  (43, .ireturn, 44, [], []),
  (44, .aload_n 0, 45, [0], []),
  (45, .getfield 98, 48, [], []),
  (48, .iload_n 1, 49, [1], []),
  (49, .iload_n 2, 50, [2], []),
  (50, .iastore, 51, [], []),
  (51, .aload_n 0, 52, [0], []),
  (52, .getfield 101, 55, [], []),
  (55, .iload_n 1, 56, [1], []),
  (56, .iload_n 2, 57, [2], []),
  (57, .iconst (-1), 58, [], [(-1)]),
  (58, .if_icmp .ne 7, 61, [65], []),
  (61, .iconst 0, 62, [], [0]),
  (62, .goto 4, 65, [66], []),
  (65, .iload_n 3, 66, [3], []),
  (66, .iastore, 67, [], []),
  (67, .iconst 0, 68, [], [0]),
  (68, .istore 4, 70, [], []),
  (70, .iload 4, 72, [], []),
  (72, .bipush 40, 74, [], [40]),
  (74, .if_icmp .ge 22, 77, [96], []),
  (77, .aload_n 0, 78, [0], []),
  (78, .getfield 104, 81, [], []),
  (81, .bipush 40, 83, [], [40]),
  (83, .iload_n 1, 84, [1], []),
  (84, .imul, 85, [], []),
  (85, .iload 4, 87, [], []),
  (87, .iadd, 88, [], []),
  (88, .iconst 0, 89, [], [0]),
  (89, .iastore, 90, [], []),
  (90, .iinc 4 1, 93, [], [1]),
  (93, .goto (-23), 96, [70], []),
  (96, .iconst 1, 97, [], [1]),
  (97, .ireturn, 98, [], [])]
theorem zo_X12_sheet : ab_ok cX12_sheet zp_X12_sheet = true := by decide +kernel
def zg_X12_sheet : ab_G := (zw_M, [], zf_X12, zc_X12, [], [], [(175, 3, zt_X12_in)])
theorem zm_X12_sheet : ab_MG zg_X12_sheet := ab_MGof (List.forall_mem_nil _) (List.forall_mem_cons.mpr ⟨ab_pure_mono _, List.forall_mem_nil _⟩)
abbrev zr_X12_sheet (Q : ab_R) : ab_K := ab_Run zg_X12_sheet zp_X12_sheet (some .int) 5 Q
set_option maxRecDepth 20000 in
theorem zv_X12_sheet_0 {Q : ab_R} {M : ab_M} {N : ab_N} (l1 : Int32) (l2 : Int32) (l3 : Int32) (h : ((ab_b ((0 : Int32) ≤ l1 ∧ l1 ≤ (3 : Int32))) = 0 → Q (some (.int (-2 : Int32))) M N) ∧ (¬ ((ab_b ((0 : Int32) ≤ l1 ∧ l1 ≤ (3 : Int32))) = 0) → ((ab_b ((-1 : Int32) ≤ l2 ∧ l2 ≤ (2 : Int32))) = 0 → Q (some (.int (-2 : Int32))) M N) ∧ (¬ ((ab_b ((-1 : Int32) ≤ l2 ∧ l2 ≤ (2 : Int32))) = 0) → (l2 = (-1 : Int32) → (l2 = (-1 : Int32) → zr_X12_sheet Q 44 [some (.ref 0), some (.int l1), some (.int l2), some (.int l3), none] [] M N) ∧ (¬ (l2 = (-1 : Int32)) → (0 ≤ l3 → zr_X12_sheet Q 44 [some (.ref 0), some (.int l1), some (.int l2), some (.int l3), none] [] M N) ∧ (¬ (0 ≤ l3) → Q (some (.int (-14 : Int32))) M N))) ∧ (¬ (l2 = (-1 : Int32)) → (l3 ≤ (40 : Int32) → (l2 = (-1 : Int32) → zr_X12_sheet Q 44 [some (.ref 0), some (.int l1), some (.int l2), some (.int l3), none] [] M N) ∧ (¬ (l2 = (-1 : Int32)) → (0 ≤ l3 → zr_X12_sheet Q 44 [some (.ref 0), some (.int l1), some (.int l2), some (.int l3), none] [] M N) ∧ (¬ (0 ≤ l3) → Q (some (.int (-14 : Int32))) M N))) ∧ (¬ (l3 ≤ (40 : Int32)) → Q (some (.int (-2 : Int32))) M N))))) : zr_X12_sheet Q 0 [some (.ref 0), some (.int l1), some (.int l2), some (.int l3)] [] M N := ab_Run_s zm_X12_sheet (sp := [(44, [true, true, true, true, false]), (70, [true, true, false, false, true])]) 60 h
set_option maxRecDepth 20000 in
theorem zv_X12_sheet_44 {Q : ab_R} {M : ab_M} {N : ab_N} (l1 : Int32) (l2 : Int32) (l3 : Int32) (h : vp_in l1 4 ∧ (let z1 : Nat → Int32 := upd (M 21) l1.toNatClampNeg l2; (l2 = (-1 : Int32) → vp_in l1 4 ∧ (let z2 : Nat → Int32 := upd (M 22) l1.toNatClampNeg (0 : Int32); zr_X12_sheet Q 70 [some (.ref 0), some (.int l1), none, none, some (.int (0 : Int32))] [] (ab_u (ab_u M 21 z1) 22 z2) N)) ∧ (¬ (l2 = (-1 : Int32)) → vp_in l1 4 ∧ (let z3 : Nat → Int32 := upd (M 22) l1.toNatClampNeg l3; zr_X12_sheet Q 70 [some (.ref 0), some (.int l1), none, none, some (.int (0 : Int32))] [] (ab_u (ab_u M 21 z1) 22 z3) N)))) : zr_X12_sheet Q 44 [some (.ref 0), some (.int l1), some (.int l2), some (.int l3), none] [] M N := ab_Run_s zm_X12_sheet (sp := [(44, [true, true, true, true, false]), (70, [true, true, false, false, true])]) 60 h
set_option maxRecDepth 20000 in
theorem zv_X12_sheet_70 {Q : ab_R} {M : ab_M} {N : ab_N} (l1 : Int32) (l4 : Int32) (h : ((40 : Int32) ≤ l4 → Q (some (.int (1 : Int32))) M N) ∧ (¬ ((40 : Int32) ≤ l4) → vp_in (((40 : Int32) * l1) + l4) 160 ∧ (let z1 : Nat → Int32 := upd (M 23) (((40 : Int32) * l1) + l4).toNatClampNeg (0 : Int32); zr_X12_sheet Q 70 [some (.ref 0), some (.int l1), none, none, some (.int (l4 + (1 : Int32)))] [] (ab_u M 23 z1) N))) : zr_X12_sheet Q 70 [some (.ref 0), some (.int l1), none, none, some (.int l4)] [] M N := ab_Run_s zm_X12_sheet (sp := [(44, [true, true, true, true, false]), (70, [true, true, false, false, true])]) 60 h
theorem zL_X12_sheet {Q : ab_R} {N : ab_N} (M0 : ab_M) (q : Nat) (hq : q < 4) (hk : Q (some (.int 1)) (ab_u M0 23 (zSeW (M0 23) q)) N) : ∀ (r i : Nat) (f : Nat → Int32), i + r = 40 → (∀ j, f j = if q * 40 ≤ j ∧ j < q * 40 + i then 0 else M0 23 j) → zr_X12_sheet Q 70 [some (.ref 0), some (.int (nI q)), none, none, some (.int (nI i))] [] (ab_u M0 23 f) N := by
  intro r
  induction r with
  | zero =>
    intro i f hi hf
    have ei : i = 40 := by omega
    subst ei
    refine zv_X12_sheet_70 _ _ ⟨fun _ => ?_, fun c => absurd (show nI 40 ≤ nI 40 from nI_le (by omega) (by omega)) c⟩
    rw [show f = zSeW (M0 23) q from funext hf]
    exact hk
  | succ r ih =>
    intro i f hi hf
    refine zv_X12_sheet_70 _ _ ⟨fun c => absurd c (show ¬ nI 40 ≤ nI i from nI_ge (by omega) (by omega)), fun _ => ?_⟩
    have ei : (40 : Int32) * nI q + nI i = nI (q * 40 + i) := by rw [Int32.mul_comm, zN_mul q 40 40, nI_add]
    rw [ei, nI_1]
    refine ⟨nI_in_ (by omega), ?_⟩
    intro z1
    have e1 : z1 = upd f (q * 40 + i) 0 := by
      show upd (ab_u M0 23 f 23) _ _ = _
      rw [ab_u_eq, nI_clamp (show q * 40 + i < 2 ^ 31 by omega)]
    clear_value z1
    subst e1
    rw [ab_u_u]
    refine ih (i + 1) _ (by omega) (fun j => ?_)
    by_cases e : j = q * 40 + i
    · rw [e, upd_eq, if_pos (by omega)]
    · rw [upd_ne _ _ e, hf j]
      by_cases c : q * 40 ≤ j ∧ j < q * 40 + i
      · rw [if_pos c, if_pos (by omega)]
      · rw [if_neg c, if_neg (by omega)]
theorem zE_X12_sheet (as : List Value) (M : ab_M) (N : ab_N) (k : ab_R) (hT : zt_X12_sheet as M N k) : ab_cs as ≤ 5 ∧ zr_X12_sheet k 0 (ab_en as) [] M N := by
  obtain ⟨⟨s, t, n⟩, r, rfl, rfl, hk⟩ := hT
  dsimp only at hk ⊢
  obtain ⟨g1, g2, g3, g4⟩ := zSe_leaf (hk _ _ _ ⟨rfl, rfl, rfl⟩)
  have b44 : zSeV s t n → zr_X12_sheet k 44 [some (.ref 0), some (.int s), some (.int t), some (.int n), none] [] M N := fun hv => by
    obtain ⟨q, hq, rfl⟩ := zQ4_n hv.1
    have g1 := g1 hv
    have hin : vp_in (nI q) 4 := nI_in_ hq
    have cq : (nI q).toNatClampNeg = q := nI_clamp (by omega)
    unfold zSeF at g1
    rw [cq] at g1
    refine zv_X12_sheet_44 _ _ _ ?_
    rw [cq]
    refine ⟨hin, ?_⟩
    intro z1
    have go : ∀ x : Int32, x = (if t = -1 then 0 else n) → zr_X12_sheet k 70 [some (.ref 0), some (.int (nI q)), none, none, some (.int (0 : Int32))] [] (ab_u (ab_u M 21 z1) 22 (upd (M 22) q x)) N := fun x hx => by
      have := zL_X12_sheet (Q := k) (N := N) (ab_u (ab_u M 21 z1) 22 (upd (M 22) q x)) q hq (by rw [hx]; exact g1) 40 0 (ab_u (ab_u M 21 z1) 22 (upd (M 22) q x) 23) (by omega) (fun j => by rw [if_neg (by omega)])
      rw [ab_u_id rfl] at this
      exact this
    refine ⟨fun c => ⟨hin, ?_⟩, fun c => ⟨hin, ?_⟩⟩
    · exact go 0 (by rw [if_pos c])
    · exact go n (by rw [if_neg c])
  refine ⟨Nat.le_of_ble_eq_true rfl, zv_X12_sheet_0 _ _ _ ⟨fun c => g3 (fun z => ab_b_0.mp c z.1), fun c => ⟨fun c2 => g3 (fun z => ab_b_0.mp c2 z.2), fun c2 => ?_⟩⟩⟩
  have a1 := zIx0 c
  have a2 := zIx0 c2
  refine ⟨fun c3 => ⟨fun _ => b44 ⟨a1, a2, Or.inl c3⟩, fun z => absurd c3 z⟩, fun c3 => ⟨fun c4 => ⟨fun z => absurd z c3, fun _ => ⟨fun c5 => b44 ⟨a1, a2, Or.inr ⟨c4, c5⟩⟩, fun c5 => g2 (fun z => z.2.2.elim c3 (fun q => c5 q.2)) ⟨a1, a2, c4⟩⟩⟩, fun c4 => g4 c3 c4⟩⟩
abbrev zR_X12_sheet : Room := { frames := 1, cells := 0, slots := 0, locals := 22 }
set_option maxRecDepth 20000 in
theorem zM_X12_sheet (l : Launch) : ab_Met l zw_M vwCl zZ_M yX12_sheet cX12_sheet 5 (some .int) zR_X12_sheet zt_X12_sheet := ab_ofRun (G := zg_X12_sheet) (P := zp_X12_sheet) rfl zo_X12_sheet (by decide +kernel) zl_cl zl_lamM zf_X12_ok ab_Tab_nil zc_X12_ok ab_Sta_nil (List.forall_mem_nil _) (List.forall_mem_cons.mpr ⟨ab_callS zZ_M_ok (zM_X12_in l) (ab_in 1200 (by decide +kernel) rfl) (ab_in 1198 (by decide +kernel) rfl) (ab_in 1199 (by decide +kernel) rfl) (ab_in 17 (by decide +kernel) rfl) (by unfold ab_yok; decide +kernel) ⟨rfl, rfl⟩ (by decide), List.forall_mem_nil _⟩) zE_X12_sheet
def zCeX (t v : Int32) : Int32 := if t = 0 then v.toInt8.toInt32 else if t = 1 then v.toInt16.toInt32 else v
def zCeA (S Z : Nat → Int32) (s i : Int32) : Int32 := if zQ4 s then (if S s.toNatClampNeg = -1 then -11 else if zHasN i (Z s.toNatClampNeg).toNatClampNeg then 1 else -12) else -2
abbrev zCeV (S Z : Nat → Int32) (s i : Int32) : Prop := zQ4 s ∧ ¬ S s.toNatClampNeg = -1 ∧ zHasN i (Z s.toNatClampNeg).toNatClampNeg
def zCeF (S Z f : Nat → Int32) (s i v : Int32) : Nat → Int32 := if zCeV S Z s i then upd f (40 * s.toNatClampNeg + i.toNatClampNeg) (zCeX (S s.toNatClampNeg) v) else f
def zt_X11_cell : ab_T := ab_m3 0 (fun _ _ _ M _ => zSh M) (fun s i v M N o M2 N2 => M2 = ab_u M 45 (zCeF (M 43) (M 44) (M 45) s i v) ∧ N2 = N ∧ o = some (.int (zCeA (M 43) (M 44) s i)))
theorem zt_X11_cell_mono : ab_mono zt_X11_cell := ab_m3_mono _ _ _
theorem zV_X11_cell : ab_recv zw_C vwCl RX11 zt_X11_cell := ab_m3_v rfl rfl
def zp_X11_cell : ab_P := [(0, .aload_n 0, 1, [0], []),
  (1, .getfield 76, 4, [], []),
  (4, .iload_n 1, 5, [1], []),
  (5, .invokevirtual 278, 8, [], []),
  (8, .ifCond .ne 6, 11, [14], []),
  (11, .bipush (-2), 13, [], [(-2)]),
  (13, .ireturn, 14, [], []),
  (14, .aload_n 0, 15, [0], []),
  (15, .getfield 76, 18, [], []),
  (18, .getfield 279, 21, [], []),
  (21, .iload_n 1, 22, [1], []),
  (22, .iaload, 23, [], []),
  (23, .iconst (-1), 24, [], [(-1)]),
  (24, .if_icmp .ne 6, 27, [30], []),
  (27, .bipush (-11), 29, [], [(-11)]),
  (29, .ireturn, 30, [], []),
  (30, .aload_n 0, 31, [0], []),
  (31, .getfield 76, 34, [], []),
  (34, .iload_n 1, 35, [1], []),
  (35, .iload_n 2, 36, [2], []),
  (36, .invokevirtual 330, 39, [], []),
  (39, .ifCond .ne 6, 42, [45], []),
  (42, .bipush (-12), 44, [], [(-12)]),
  (44, .ireturn, 45, [], []),
  (45, .aload_n 0, 46, [0], []),
  (46, .getfield 76, 49, [], []),
  (49, .getfield 279, 52, [], []),
  (52, .iload_n 1, 53, [1], []),
  (53, .iaload, 54, [], []),
  (54, .istore 4, 56, [], []),
  (56, .aload_n 0, 57, [0], []),
  (57, .getfield 76, 60, [], []),
  (60, .getfield 333, 63, [], []),
  (63, .iload_n 1, 64, [1], []),
  (64, .bipush 40, 66, [], [40]),
  (66, .imul, 67, [], []),
  (67, .iload_n 2, 68, [2], []),
  (68, .iadd, 69, [], []),
  (69, .iload 4, 71, [], []),
  (71, .ifCond .ne 8, 74, [79], []),
  (74, .iload_n 3, 75, [3], []),
  (75, .i2b, 76, [], []),
  (76, .goto 15, 79, [91], []),
  (79, .iload 4, 81, [], []),
  (81, .iconst 1, 82, [], [1]),
  (82, .if_icmp .ne 8, 85, [90], []),
  (85, .iload_n 3, 86, [3], []),
  (86, .i2s, 87, [], []),
  (87, .goto 4, 90, [91], []),
  (90, .iload_n 3, 91, [3], []),
  (91, .iastore, 92, [], []),
  (92, .iconst 1, 93, [], [1]),
  (93, .ireturn, 94, [], [])]
theorem zo_X11_cell : ab_ok cX11_cell zp_X11_cell = true := by decide +kernel
def zg_X11_cell : ab_G := (zw_C, zs_tab, zf_X11, zc_X11, [(144, 50), (147, 51)], [(278, 2, zt_X7_has), (330, 3, zt_X7_holds)], [])
theorem zm_X11_cell : ab_MG zg_X11_cell := ab_MGof (List.forall_mem_cons.mpr ⟨ab_pure_mono _, List.forall_mem_cons.mpr ⟨ab_pure_mono _, List.forall_mem_nil _⟩⟩) (List.forall_mem_nil _)
abbrev zr_X11_cell (Q : ab_R) : ab_K := ab_Run zg_X11_cell zp_X11_cell (some .int) 5 Q
set_option maxRecDepth 20000 in
theorem zv_X11_cell_0 {Q : ab_R} {M : ab_M} {N : ab_N} (l1 : Int32) (l2 : Int32) (l3 : Int32) (h : ((ab_b (0 ≤ l1 ∧ l1 < 4)) = 0 → Q (some (.int (-2 : Int32))) M N) ∧ (¬ ((ab_b (0 ≤ l1 ∧ l1 < 4)) = 0) → vp_in l1 4 ∧ (((M 43 l1.toNatClampNeg) = (-1 : Int32) → Q (some (.int (-11 : Int32))) M N) ∧ (¬ ((M 43 l1.toNatClampNeg) = (-1 : Int32)) → ((ab_b (0 ≤ l1 ∧ l1 < 4 ∧ 0 ≤ l2 ∧ l2 < (M 44) l1.toNatClampNeg)) = 0 → Q (some (.int (-12 : Int32))) M N) ∧ (¬ ((ab_b (0 ≤ l1 ∧ l1 < 4 ∧ 0 ≤ l2 ∧ l2 < (M 44) l1.toNatClampNeg)) = 0) → vp_in l1 4 ∧ (((M 43 l1.toNatClampNeg) = 0 → vp_in ((l1 * (40 : Int32)) + l2) 160 ∧ (let z1 : Nat → Int32 := upd (M 45) ((l1 * (40 : Int32)) + l2).toNatClampNeg (l3.toInt8.toInt32); Q (some (.int (1 : Int32))) (ab_u M 45 z1) N)) ∧ (¬ ((M 43 l1.toNatClampNeg) = 0) → ((M 43 l1.toNatClampNeg) = (1 : Int32) → vp_in ((l1 * (40 : Int32)) + l2) 160 ∧ (let z2 : Nat → Int32 := upd (M 45) ((l1 * (40 : Int32)) + l2).toNatClampNeg (l3.toInt16.toInt32); Q (some (.int (1 : Int32))) (ab_u M 45 z2) N)) ∧ (¬ ((M 43 l1.toNatClampNeg) = (1 : Int32)) → vp_in ((l1 * (40 : Int32)) + l2) 160 ∧ (let z3 : Nat → Int32 := upd (M 45) ((l1 * (40 : Int32)) + l2).toNatClampNeg l3; Q (some (.int (1 : Int32))) (ab_u M 45 z3) N))))))))) : zr_X11_cell Q 0 [some (.ref 0), some (.int l1), some (.int l2), some (.int l3)] [] M N := ab_Run_s zm_X11_cell (sp := []) 55 h
theorem zE_X11_cell (as : List Value) (M : ab_M) (N : ab_N) (k : ab_R) (hT : zt_X11_cell as M N k) : ab_cs as ≤ 5 ∧ zr_X11_cell k 0 (ab_en as) [] M N := by
  obtain ⟨s, i, v, rfl, hS, hk⟩ := ab_m3_e hT
  have hk := hk _ _ _ ⟨rfl, rfl, rfl⟩
  unfold zCeA zCeF at hk
  refine ⟨Nat.le_of_ble_eq_true rfl, zv_X11_cell_0 _ _ _ ⟨fun c => ?_, fun c => ?_⟩⟩
  · have nq : ¬ zQ4 s := fun z => ab_b_0.mp c (zQ4_c.mpr z)
    have nv : ¬ zCeV (M 43) (M 44) s i := fun z => nq z.1
    rw [if_neg nq, if_neg nv, ab_u_id rfl] at hk
    exact hk
  · have a1 := zQ4_c.mp (zIx0 c)
    rw [if_pos a1] at hk
    obtain ⟨q, hq, rfl⟩ := zQ4_n a1
    obtain ⟨z, z40, hz⟩ := hS q hq
    have hin : vp_in (nI q) 4 := nI_in_ hq
    have cq : (nI q).toNatClampNeg = q := nI_clamp (by omega)
    have cz : (nI z).toNatClampNeg = z := nI_clamp (by omega)
    have hv : zCeV (M 43) (M 44) (nI q) i ↔ ¬ M 43 q = -1 ∧ zHasN i z := by
      unfold zCeV
      rw [cq, hz, cz]
      exact ⟨fun w => w.2, fun w => ⟨a1, w⟩⟩
    simp only [cq, hz, cz] at hk
    rw [cq, hz]
    have hi : (0 ≤ nI q ∧ nI q < 4 ∧ 0 ≤ i ∧ i < nI z) ↔ zHasN i z := by
      constructor
      · rintro ⟨-, -, w1, w2⟩
        obtain ⟨j, j1, rfl⟩ := nI_ex w1
        exact (zHasN_k j1 (by omega)).mpr ((nI_ltI j1 (by omega)).mp w2)
      · intro w
        obtain ⟨j, j1, rfl⟩ := zIxN (by omega) w
        exact ⟨nI_pos' (by omega), nI_lt (b := 4) hq (by decide), nI_pos' (by omega), nI_lt j1 (by omega)⟩
    refine ⟨hin, fun c3 => ?_, fun c3 => ⟨fun c4 => ?_, fun c4 => ⟨hin, ?_⟩⟩⟩
    · have nv : ¬ zCeV (M 43) (M 44) (nI q) i := fun w => (hv.mp w).1 c3
      rw [if_pos c3, if_neg nv, ab_u_id rfl] at hk
      exact hk
    · have ni : ¬ zHasN i z := fun w => ab_b_0.mp c4 (hi.mpr w)
      have nv : ¬ zCeV (M 43) (M 44) (nI q) i := fun w => ni (hv.mp w).2
      rw [if_neg c3, if_neg ni, if_neg nv, ab_u_id rfl] at hk
      exact hk
    · have pi := hi.mp (zIx0 c4)
      have pv := hv.mpr ⟨c3, pi⟩
      rw [if_neg c3, if_pos pi, if_pos pv] at hk
      obtain ⟨j, j1, rfl⟩ := zIxN (by omega) pi
      rw [nI_clamp (show j < 2 ^ 31 by omega)] at hk
      unfold zCeX at hk
      rw [zN_mul q 40 40, nI_add, nI_clamp (show q * 40 + j < 2 ^ 31 by omega), Nat.mul_comm q 40]
      have hin2 : vp_in (nI (40 * q + j)) 160 := nI_in_ (by omega)
      refine ⟨fun c5 => ⟨hin2, ?_⟩, fun c5 => ⟨fun c6 => ⟨hin2, ?_⟩, fun c6 => ⟨hin2, ?_⟩⟩⟩
      · rw [if_pos c5] at hk; exact hk
      · rw [if_neg c5, if_pos c6] at hk; exact hk
      · rw [if_neg c5, if_neg c6] at hk; exact hk
abbrev zR_X11_cell : Room := { frames := 2, cells := 0, slots := 0, locals := 43 }
set_option maxRecDepth 20000 in
theorem zM_X11_cell (l : Launch) : ab_Met l zw_C vwCl zZ_C yX11_cell cX11_cell 5 (some .int) zR_X11_cell zt_X11_cell := ab_ofRun (G := zg_X11_cell) (P := zp_X11_cell) rfl zo_X11_cell (by decide +kernel) zl_cl zl_lamC zf_X11_ok zs_tabOK zc_X11_ok zs_X11_ok (List.forall_mem_cons.mpr ⟨ab_callV zZ_C_ok (zM_X7_has l) (ab_in 621 (by decide +kernel) rfl) (ab_in 618 (by decide +kernel) rfl) (ab_in 619 (by decide +kernel) rfl) (ab_in 620 (by decide +kernel) rfl) (ab_in 10 (by decide +kernel) rfl) (by unfold ab_yok; decide +kernel) ⟨rfl, rfl⟩ (by decide) zV_X7_has, List.forall_mem_cons.mpr ⟨ab_callV zZ_C_ok (zM_X7_holds l) (ab_in 629 (by decide +kernel) rfl) (ab_in 932 (by decide +kernel) rfl) (ab_in 627 (by decide +kernel) rfl) (ab_in 628 (by decide +kernel) rfl) (ab_in 10 (by decide +kernel) rfl) (by unfold ab_yok; decide +kernel) ⟨rfl, rfl⟩ (by decide) zV_X7_holds, List.forall_mem_nil _⟩⟩) (List.forall_mem_nil _) zE_X11_cell
def zShR (M : ab_M) : Prop := ∀ s : Nat, s < 4 → ∃ n : Nat, n ≤ 40 ∧ M 22 s = nI n
def zt_X12_cell : ab_T := ab_lq (α := Int32 × Int32 × Int32) (fun x r M _ => r = [.int x.1, .int x.2.1, .int x.2.2] ∧ zShR M)
  (fun x M N o M2 N2 => M2 = ab_u M 23 (zCeF (M 21) (M 22) (M 23) x.1 x.2.1 x.2.2) ∧ N2 = N ∧ o = some (.int (zCeA (M 21) (M 22) x.1 x.2.1)))
theorem zt_X12_cell_mono : ab_mono zt_X12_cell := ab_lq_mono _ _
theorem zV_X12_cell : ab_recv zw_M vwCl RX12 zt_X12_cell := ab_lq_v
def zp_X12_cell : ab_P := [(0, .iload_n 1, 1, [1], []),
  (1, .iconst 0, 2, [], [0]),
  (2, .iconst 3, 3, [], [3]),
  (3, .invokestatic 175, 6, [], []),
  (6, .ifCond .ne 6, 9, [12], []),
  (9, .bipush (-2), 11, [], [(-2)]),
  (11, .ireturn, 12, [], []),
  (12, .aload_n 0, 13, [0], []),
  (13, .getfield 98, 16, [], []),
  (16, .iload_n 1, 17, [1], []),
  (17, .iaload, 18, [], []),
  (18, .iconst (-1), 19, [], [(-1)]),
  (19, .if_icmp .ne 6, 22, [25], []),
  (22, .bipush (-11), 24, [], [(-11)]),
  (24, .ireturn, 25, [], []),
  (25, .iload_n 2, 26, [2], []),
  (26, .iconst 0, 27, [], [0]),
  (27, .aload_n 0, 28, [0], []),
  (28, .getfield 101, 31, [], []),
  (31, .iload_n 1, 32, [1], []),
  (32, .iaload, 33, [], []),
  (33, .iconst 1, 34, [], [1]),
  (34, .isub, 35, [], []),
  (35, .invokestatic 175, 38, [], []),
  (38, .ifCond .ne 6, 41, [44], []),
  (41, .bipush (-12), 43, [], [(-12)]),
  (43, .ireturn, 44, [], []),
  (44, .aload_n 0, 45, [0], []),
  (45, .getfield 104, 48, [], []),
  (48, .bipush 40, 50, [], [40]),
  (50, .iload_n 1, 51, [1], []),
  (51, .imul, 52, [], []),
  (52, .iload_n 2, 53, [2], []),
  (53, .iadd, 54, [], []),
  (54, .aload_n 0, 55, [0], []),
  (55, .getfield 98, 58, [], []),
  (58, .iload_n 1, 59, [1], []),
  (59, .iaload, 60, [], []),
  (60, .ifCond .ne 8, 63, [68], []),
  (63, .iload_n 3, 64, [3], []),
  (64, .i2b, 65, [], []),
  (65, .goto 19, 68, [84], []),
  (68, .aload_n 0, 69, [0], []),
  (69, .getfield 98, 72, [], []),
  (72, .iload_n 1, 73, [1], []),
  (73, .iaload, 74, [], []),
  (74, .iconst 1, 75, [], [1]),
  (75, .if_icmp .ne 8, 78, [83], []),
  (78, .iload_n 3, 79, [3], []),
  (79, .i2s, 80, [], []),
  (80, .goto 4, 83, [84], []),
  (83, .iload_n 3, 84, [3], []),
  (84, .iastore, 85, [], []),
  (85, .iconst 1, 86, [], [1]),
  (86, .ireturn, 87, [], [])]
theorem zo_X12_cell : ab_ok cX12_cell zp_X12_cell = true := by decide +kernel
def zg_X12_cell : ab_G := (zw_M, [], zf_X12, zc_X12, [], [], [(175, 3, zt_X12_in)])
theorem zm_X12_cell : ab_MG zg_X12_cell := ab_MGof (List.forall_mem_nil _) (List.forall_mem_cons.mpr ⟨ab_pure_mono _, List.forall_mem_nil _⟩)
abbrev zr_X12_cell (Q : ab_R) : ab_K := ab_Run zg_X12_cell zp_X12_cell (some .int) 4 Q
set_option maxRecDepth 20000 in
theorem zv_X12_cell_0 {Q : ab_R} {M : ab_M} {N : ab_N} (l1 : Int32) (l2 : Int32) (l3 : Int32) (h : ((ab_b ((0 : Int32) ≤ l1 ∧ l1 ≤ (3 : Int32))) = 0 → Q (some (.int (-2 : Int32))) M N) ∧ (¬ ((ab_b ((0 : Int32) ≤ l1 ∧ l1 ≤ (3 : Int32))) = 0) → vp_in l1 4 ∧ (((M 21 l1.toNatClampNeg) = (-1 : Int32) → Q (some (.int (-11 : Int32))) M N) ∧ (¬ ((M 21 l1.toNatClampNeg) = (-1 : Int32)) → vp_in l1 4 ∧ (((ab_b ((0 : Int32) ≤ l2 ∧ l2 ≤ ((M 22 l1.toNatClampNeg) - (1 : Int32)))) = 0 → Q (some (.int (-12 : Int32))) M N) ∧ (¬ ((ab_b ((0 : Int32) ≤ l2 ∧ l2 ≤ ((M 22 l1.toNatClampNeg) - (1 : Int32)))) = 0) → vp_in l1 4 ∧ (((M 21 l1.toNatClampNeg) = 0 → vp_in (((40 : Int32) * l1) + l2) 160 ∧ (let z1 : Nat → Int32 := upd (M 23) (((40 : Int32) * l1) + l2).toNatClampNeg (l3.toInt8.toInt32); Q (some (.int (1 : Int32))) (ab_u M 23 z1) N)) ∧ (¬ ((M 21 l1.toNatClampNeg) = 0) → vp_in l1 4 ∧ (((M 21 l1.toNatClampNeg) = (1 : Int32) → vp_in (((40 : Int32) * l1) + l2) 160 ∧ (let z2 : Nat → Int32 := upd (M 23) (((40 : Int32) * l1) + l2).toNatClampNeg (l3.toInt16.toInt32); Q (some (.int (1 : Int32))) (ab_u M 23 z2) N)) ∧ (¬ ((M 21 l1.toNatClampNeg) = (1 : Int32)) → vp_in (((40 : Int32) * l1) + l2) 160 ∧ (let z3 : Nat → Int32 := upd (M 23) (((40 : Int32) * l1) + l2).toNatClampNeg l3; Q (some (.int (1 : Int32))) (ab_u M 23 z3) N))))))))))) : zr_X12_cell Q 0 [some (.ref 0), some (.int l1), some (.int l2), some (.int l3)] [] M N := ab_Run_s zm_X12_cell (sp := []) 57 h
theorem zE_X12_cell (as : List Value) (M : ab_M) (N : ab_N) (k : ab_R) (hT : zt_X12_cell as M N k) : ab_cs as ≤ 4 ∧ zr_X12_cell k 0 (ab_en as) [] M N := by
  obtain ⟨⟨s, i, v⟩, r, rfl, ⟨rfl, hS⟩, hk⟩ := hT
  dsimp only at hk ⊢
  have hk := hk _ _ _ ⟨rfl, rfl, rfl⟩
  unfold zCeA zCeF at hk
  refine ⟨Nat.le_of_ble_eq_true rfl, zv_X12_cell_0 _ _ _ ⟨fun c => ?_, fun c => ?_⟩⟩
  · have nq : ¬ zQ4 s := ab_b_0.mp c
    have nv : ¬ zCeV (M 21) (M 22) s i := fun z => nq z.1
    rw [if_neg nq, if_neg nv, ab_u_id rfl] at hk
    exact hk
  · have a1 : zQ4 s := zIx0 c
    rw [if_pos a1] at hk
    obtain ⟨q, hq, rfl⟩ := zQ4_n a1
    obtain ⟨z, z40, hz⟩ := hS q hq
    have hin : vp_in (nI q) 4 := nI_in_ hq
    have cq : (nI q).toNatClampNeg = q := nI_clamp (by omega)
    have cz : (nI z).toNatClampNeg = z := nI_clamp (by omega)
    have hv : zCeV (M 21) (M 22) (nI q) i ↔ ¬ M 21 q = -1 ∧ zHasN i z := by
      unfold zCeV
      rw [cq, hz, cz]
      exact ⟨fun w => w.2, fun w => ⟨a1, w⟩⟩
    simp only [cq, hz, cz] at hk
    rw [cq, hz]
    refine ⟨hin, fun c3 => ?_, fun c3 => ⟨hin, fun c4 => ?_, fun c4 => ⟨hin, ?_⟩⟩⟩
    · have nv : ¬ zCeV (M 21) (M 22) (nI q) i := fun w => (hv.mp w).1 c3
      rw [if_pos c3, if_neg nv, ab_u_id rfl] at hk
      exact hk
    · have ni : ¬ zHasN i z := ab_b_0.mp c4
      have nv : ¬ zCeV (M 21) (M 22) (nI q) i := fun w => ni (hv.mp w).2
      rw [if_neg c3, if_neg ni, if_neg nv, ab_u_id rfl] at hk
      exact hk
    · have pi : zHasN i z := zIx0 c4
      have pv := hv.mpr ⟨c3, pi⟩
      rw [if_neg c3, if_pos pi, if_pos pv] at hk
      obtain ⟨j, j1, rfl⟩ := zIxN (by omega) pi
      rw [nI_clamp (show j < 2 ^ 31 by omega)] at hk
      unfold zCeX at hk
      rw [zSh_i, nI_clamp (show 40 * q + j < 2 ^ 31 by omega)]
      have hin2 : vp_in (nI (40 * q + j)) 160 := nI_in_ (by omega)
      refine ⟨fun c5 => ⟨hin2, ?_⟩, fun c5 => ⟨hin, fun c6 => ⟨hin2, ?_⟩, fun c6 => ⟨hin2, ?_⟩⟩⟩
      · rw [if_pos c5] at hk; exact hk
      · rw [if_neg c5, if_pos c6] at hk; exact hk
      · rw [if_neg c5, if_neg c6] at hk; exact hk
abbrev zR_X12_cell : Room := { frames := 1, cells := 0, slots := 0, locals := 22 }
set_option maxRecDepth 20000 in
theorem zM_X12_cell (l : Launch) : ab_Met l zw_M vwCl zZ_M yX12_cell cX12_cell 4 (some .int) zR_X12_cell zt_X12_cell := ab_ofRun (G := zg_X12_cell) (P := zp_X12_cell) rfl zo_X12_cell (by decide +kernel) zl_cl zl_lamM zf_X12_ok ab_Tab_nil zc_X12_ok ab_Sta_nil (List.forall_mem_nil _) (List.forall_mem_cons.mpr ⟨ab_callS zZ_M_ok (zM_X12_in l) (ab_in 1200 (by decide +kernel) rfl) (ab_in 1198 (by decide +kernel) rfl) (ab_in 1199 (by decide +kernel) rfl) (ab_in 17 (by decide +kernel) rfl) (by unfold ab_yok; decide +kernel) ⟨rfl, rfl⟩ (by decide), List.forall_mem_nil _⟩) zE_X12_cell
