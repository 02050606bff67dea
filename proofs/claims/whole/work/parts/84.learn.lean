/-! places, learn *)
-/
theorem zAllS_t {f : Nat → Int32} {mx : Int32} : ∀ m i, zAllS f mx i m = true ↔ ∀ j, j < m → 0 ≤ f (i + j) ∧ f (i + j) ≤ mx
  | 0, i => ⟨fun _ j hj => absurd hj (Nat.not_lt_zero _), fun _ => rfl⟩
  | m + 1, i => by
    unfold zAllS
    rw [Bool.and_eq_true, decide_eq_true_eq, zAllS_t m (i + 1)]
    constructor
    · rintro ⟨h0, h⟩ j hj
      cases j with
      | zero => exact h0
      | succ j =>
        have := h j (by omega)
        rw [show i + 1 + j = i + (j + 1) by omega] at this
        exact this
    · intro h
      refine ⟨h 0 (by omega), fun j hj => ?_⟩
      rw [show i + 1 + j = i + (j + 1) by omega]
      exact h (j + 1) (by omega)
theorem zRefused_hw {M : ab_M} {l mx : Int32} {n : Nat} (hn : n < 2 ^ 31) : zRefused M l (nI n) mx = if 0 ≤ l ∧ l ≤ 3 then (if M 43 l.toNatClampNeg = -1 then -11 else if M 44 l.toNatClampNeg = nI n ∧ ∀ j, j < n → 0 ≤ M 45 (40 * l.toNatClampNeg + j) ∧ M 45 (40 * l.toNatClampNeg + j) ≤ mx then 0 else -2) else -2 := by
  have l4 : (0 ≤ l ∧ l < 4) ↔ (0 ≤ l ∧ l ≤ 3) := by grind
  have e : zAllS (fun i => M 45 (l.toNatClampNeg * 40 + i)) mx 0 (nI n).toNatClampNeg = true ↔ ∀ j, j < n → 0 ≤ M 45 (40 * l.toNatClampNeg + j) ∧ M 45 (40 * l.toNatClampNeg + j) ≤ mx := by
    rw [zAllS_t, nI_clamp hn]
    simp only [Nat.zero_add, Nat.mul_comm]
  unfold zRefused
  by_cases c : 0 ≤ l ∧ l ≤ 3
  · rw [if_neg (fun z => z (l4.mpr c)), if_pos c]
    by_cases c2 : M 43 l.toNatClampNeg = -1
    · rw [if_pos c2, if_pos c2]
    · rw [if_neg c2, if_neg c2]
      by_cases c3 : M 44 l.toNatClampNeg = nI n
      · rw [if_neg (fun z => z c3)]
        by_cases c4 : ∀ j, j < n → 0 ≤ M 45 (40 * l.toNatClampNeg + j) ∧ M 45 (40 * l.toNatClampNeg + j) ≤ mx
        · rw [if_pos (e.mpr c4), if_pos ⟨c3, c4⟩]
        · rw [if_neg (fun z => c4 (e.mp z)), if_neg (fun z => c4 z.2)]
      · rw [if_pos c3, if_neg (fun z => c3 z.1)]
  · rw [if_pos (fun z => c (l4.mp z)), if_neg c]
theorem zRefused_hwA {M : ab_M} {l : Int32} {n : Nat} (hn : n < 2 ^ 31) : zRefused M l (nI n) 9999 = zHwA (zSv M) l n := zRefused_hw hn
theorem zSumS_t (M : ab_M) (q : Nat) : ∀ n, zSumS M q n = zTotR (fun j => zSv M 23 (40 * q + j)) n
  | 0 => rfl
  | n + 1 => by
    unfold zSumS zTotR
    rw [zSumS_t M q n, Nat.mul_comm q 40]
    rfl
theorem zHoled_t {M : ab_M} (h : M 1 4 = nI (zPcs M)) (q : Nat) : ∀ n, zHoled M q n = zPlB (fun j => zSv M 23 (40 * q + j)) (zPcs M) (zTotR (fun j => zSv M 23 (40 * q + j)) (zPcs M)) n
  | 0 => rfl
  | n + 1 => by
    unfold zHoled zPlB
    rw [zHoled_t h q n, zSumS_t, h, Nat.mul_comm q 40]
    rfl
theorem zHwA_s {M : ab_M} {l : Int32} {n : Nat} (h : zHwA M l n = 0) : ∃ s : Nat, s < 4 ∧ l = nI s ∧ M 22 s = nI n := by
  unfold zHwA at h
  by_cases c : 0 ≤ l ∧ l ≤ 3
  · obtain ⟨s, y, rfl⟩ := zIxM (n := 3) (by decide) c
    rw [if_pos c, nI_clamp (show s < 2 ^ 31 by omega)] at h
    by_cases c2 : M 21 s = -1
    · rw [if_pos c2] at h; exact absurd h (by decide)
    · rw [if_neg c2] at h
      by_cases c3 : M 22 s = nI n ∧ zRwO (fun j => M 23 (40 * s + j)) n
      · exact ⟨s, by omega, rfl, c3.1⟩
      · rw [if_neg c3] at h; exact absurd h (by decide)
  · rw [if_neg c] at h; exact absurd h (by decide)
def zt_X11_places : ab_T := ab_m1 0 (fun _ M _ => zI0 M ∧ zSh M) (fun l M N o M2 N2 => M2 = M ∧ N2 = N ∧ o = some (.int (zPlA (zSv M) l (zPcs M))))
theorem zt_X11_places_mono : ab_mono zt_X11_places := ab_m1_mono _ _ _
theorem zV_X11_places : ab_recv zw_C vwCl RX11 zt_X11_places := ab_m1_v rfl rfl
def zp_X11_places : ab_P := [(0, .aload_n 0, 1, [0], []),
  (1, .iload_n 1, 2, [1], []),
  (2, .aload_n 0, 3, [0], []),
  (3, .getfield 10, 6, [], []),
  (6, .getfield 121, 9, [], []),
  (9, .sipush 9999, 12, [], [9999]),
  (12, .invokevirtual 167, 15, [], []),
  (15, .istore_n 2, 16, [2], []),
  (16, .iload_n 2, 17, [2], []),
  (17, .ifCond .eq 7, 20, [24], []),
  (20, .iload_n 2, 21, [2], []),
  (21, .goto 8, 24, [29], []),
  (24, .aload_n 0, 25, [0], []),
  (25, .iload_n 1, 26, [1], []),
  (26, .invokevirtual 292, 29, [], []),
  (29, .ireturn, 30, [], [])]
theorem zo_X11_places : ab_ok cX11_places zp_X11_places = true := by decide +kernel
def zg_X11_places : ab_G := (zw_C, zs_tab, zf_X11, zc_X11, [(144, 50), (147, 51)], [(167, 4, zt_X11_rowRefused), (292, 2, zt_X11_holedOften)], [])
theorem zm_X11_places : ab_MG zg_X11_places := ab_MGof (List.forall_mem_cons.mpr ⟨zt_X11_rowRefused_mono, List.forall_mem_cons.mpr ⟨zt_X11_holedOften_mono, List.forall_mem_nil _⟩⟩) (List.forall_mem_nil _)
abbrev zr_X11_places (Q : ab_R) : ab_K := ab_Run zg_X11_places zp_X11_places (some .int) 3 Q
set_option maxRecDepth 20000 in
theorem zv_X11_places_0 {Q : ab_R} {M : ab_M} {N : ab_N} (l1 : Int32) (h : zt_X11_rowRefused [.ref 0, .int l1, .int (M 1 4), .int (9999 : Int32)] M N (fun r M2 N2 => zr_X11_places Q 15 [some (.ref 0), some (.int l1), none] (ab_ol r []) M2 N2)) : zr_X11_places Q 0 [some (.ref 0), some (.int l1)] [] M N := ab_Run_s zm_X11_places (sp := [(15, [true, true, false]), (29, [false, false, false])]) 18 h
set_option maxRecDepth 20000 in
theorem zv_X11_places_15 {Q : ab_R} {M : ab_M} {N : ab_N} (l1 : Int32) (s0 : Int32) (h : (s0 = 0 → zt_X11_holedOften [.ref 0, .int l1] M N (fun r M2 N2 => zr_X11_places Q 29 [none, none, none] (ab_ol r []) M2 N2)) ∧ (¬ (s0 = 0) → zr_X11_places Q 29 [none, none, none] [.int s0] M N)) : zr_X11_places Q 15 [some (.ref 0), some (.int l1), none] [.int s0] M N := ab_Run_s zm_X11_places (sp := [(15, [true, true, false]), (29, [false, false, false])]) 18 h
set_option maxRecDepth 20000 in
theorem zv_X11_places_29 {Q : ab_R} {M : ab_M} {N : ab_N} (s0 : Int32) (h : Q (some (.int s0)) M N) : zr_X11_places Q 29 [none, none, none] [.int s0] M N := ab_Run_s zm_X11_places (sp := [(15, [true, true, false]), (29, [false, false, false])]) 18 h
theorem zE_X11_places (as : List Value) (M : ab_M) (N : ab_N) (k : ab_R) (hT : zt_X11_places as M N k) : ab_cs as ≤ 3 ∧ zr_X11_places k 0 (ab_en as) [] M N := by
  obtain ⟨l, rfl, ⟨h0, hS⟩, hk⟩ := ab_m1_e hT
  obtain ⟨n7, p8⟩ := zP_eq h0
  have hk := hk _ _ _ ⟨rfl, rfl, rfl⟩
  unfold zPlA at hk
  refine ⟨Nat.le_of_ble_eq_true rfl, zv_X11_places_0 _ (ab_m3_i hS ?_)⟩
  rintro o M2 N2 ⟨rfl, rfl, rfl⟩
  rw [n7, zRefused_hwA (by omega)]
  refine zv_X11_places_15 _ _ ⟨fun c => ?_, fun c => ?_⟩
  · rw [if_pos c] at hk
    obtain ⟨s, hs, rfl, h22⟩ := zHwA_s c
    refine ab_m1_i ⟨h0, s, hs, rfl, by rw [n7]; exact h22⟩ ?_
    rintro o M3 N3 ⟨rfl, rfl, rfl⟩
    rw [nI_clamp (show s < 2 ^ 31 by omega)] at hk ⊢
    rw [zHoled_t n7]
    exact zv_X11_places_29 _ hk
  · rw [if_neg c] at hk
    exact zv_X11_places_29 _ hk
abbrev zR_X11_places : Room := { frames := 4, cells := 0, slots := 0, locals := 89 }
set_option maxRecDepth 20000 in
theorem zM_X11_places (l : Launch) : ab_Met l zw_C vwCl zZ_C yX11_places cX11_places 3 (some .int) zR_X11_places zt_X11_places := ab_ofRun (G := zg_X11_places) (P := zp_X11_places) rfl zo_X11_places (by decide +kernel) zl_cl zl_lamC zf_X11_ok zs_tabOK zc_X11_ok zs_X11_ok (List.forall_mem_cons.mpr ⟨ab_callV zZ_C_ok (zM_X11_rowRefused l) (ab_in 617 (by decide +kernel) rfl) (ab_in 614 (by decide +kernel) rfl) (ab_in 616 (by decide +kernel) rfl) (ab_inS (List.mem_of_getElem? (i := 12) (by decide +kernel)) rfl) (ab_in 1 (by decide +kernel) rfl) (by unfold ab_yok; decide +kernel) ⟨rfl, rfl⟩ (by decide) zV_X11_rowRefused, List.forall_mem_cons.mpr ⟨ab_callV zZ_C_ok (zM_X11_holedOften l) (ab_in 867 (by decide +kernel) rfl) (ab_in 864 (by decide +kernel) rfl) (ab_in 866 (by decide +kernel) rfl) (ab_inS (List.mem_of_getElem? (i := 22) (by decide +kernel)) rfl) (ab_in 1 (by decide +kernel) rfl) (by unfold ab_yok; decide +kernel) ⟨rfl, rfl⟩ (by decide) zV_X11_holedOften, List.forall_mem_nil _⟩⟩) (List.forall_mem_nil _) zE_X11_places
/-- old or not by bits -/
def zLb (b : Int32) (p : Nat) : Int32 := (b >>> (nI p &&& 31)) &&& 1
def zLeO (b : Int32) (f : Nat → Int32) : Nat → (Nat → Int32)
  | 0 => f
  | p + 1 => upd (zLeO b f p) p (zLb b p)
def zLeC (b : Int32) (f : Nat → Int32) : Nat → Int32
  | 0 => 0
  | p + 1 => zLeC b f p + (if zLb b p = f p then 0 else 1)
theorem zLeO_n (b : Int32) (f : Nat → Int32) : ∀ n q, n ≤ q → zLeO b f n q = f q
  | 0, _, _ => rfl
  | n + 1, q, h => by
    unfold zLeO
    rw [upd_ne _ _ (by omega), zLeO_n b f n q (by omega)]
def zLeA (M : ab_M) (f : Nat → Int32) (l : Int32) (n : Nat) : Int32 := if zHwA M l n = 0 then zLeC (zPlA M l n) f n else zHwA M l n
def zLeM (M : ab_M) (l : Int32) (n : Nat) : ab_M := if zHwA M l n = 0 then ab_u M 2 (zLeO (zPlA M l n) (M 2) n) else M
def zLeK (M : ab_M) (l : Int32) (n : Nat) : ab_M := if zHwA (zSv M) l n = 0 then zFg (ab_u M 13 (zLeO (zPlA (zSv M) l n) (M 13) n)) else M
def zt_X11_learn : ab_T := ab_m1 0 (fun _ M _ => zI0 M ∧ zSh M) (fun l M N o M2 N2 => M2 = zLeK M l (zPcs M) ∧ N2 = N ∧ o = some (.int (zLeA (zSv M) (M 13) l (zPcs M))))
theorem zt_X11_learn_mono : ab_mono zt_X11_learn := ab_m1_mono _ _ _
theorem zV_X11_learn : ab_recv zw_C vwCl RX11 zt_X11_learn := ab_m1_v rfl rfl
def zp_X11_learn : ab_P := [(0, .aload_n 0, 1, [0], []),
  (1, .iload_n 1, 2, [1], []),
  (2, .aload_n 0, 3, [0], []),
  (3, .getfield 10, 6, [], []),
  (6, .getfield 121, 9, [], []),
  (9, .sipush 9999, 12, [], [9999]),
  (12, .invokevirtual 167, 15, [], []),
  (15, .istore_n 2, 16, [2], []),
  (16, .iload_n 2, 17, [2], []),
  (17, .ifCond .eq 5, 20, [22], []),
  (20, .iload_n 2, 21, [2], []),
  (21, .ireturn, 22, [], []),
  (22, .aload_n 0, 23, [0], []),
  (23, .iload_n 1, 24, [1], []),
  (24, .invokevirtual 292, 27, [], []),
  (27, .istore_n 3, 28, [3], []),
  (28, .iconst 0, 29, [], [0]),
  (29, .istore 4, 31, [], []),
  (31, .iconst 0, 32, [], [0]),
  (32, .istore 5, 34, [], []),
  (34, .iload 5, 36, [], []),
  (36, .aload_n 0, 37, [0], []),
  (37, .getfield 10, 40, [], []),
  (40, .getfield 121, 43, [], []),
  (43, .if_icmp .ge 54, 46, [97], []),
  (46, .iload_n 3, 47, [3], []),
  (47, .iload 5, 49, [], []),
  (49, .ishr, 50, [], []),
  (50, .iconst 1, 51, [], [1]),
  (51, .iand, 52, [], []),
  (52, .istore 6, 54, [], []),
  (54, .iload 4, 56, [], []),
  (56, .iload 6, 58, [], []),
  (58, .aload_n 0, 59, [0], []),
  (59, .getfield 10, 62, [], []),
  (62, .getfield 134, 65, [], []),
  (65, .iload 5, 67, [], []),
  (67, .iaload, 68, [], []),
  (68, .if_icmp .eq 7, 71, [75], []),
  (71, .iconst 1, 72, [], [1]),
  (72, .goto 4, 75, [76], []),
  (75, .iconst 0, 76, [], [0]),
  (76, .iadd, 77, [], []),
  (77, .istore 4, 79, [], []),
  (79, .aload_n 0, 80, [0], []),
  (80, .getfield 10, 83, [], []),
  (83, .getfield 134, 86, [], []),
  (86, .iload 5, 88, [], []),
  (88, .iload 6, 90, [], []),
  (90, .iastore, 91, [], []),
  (91, .iinc 5 1, 94, [], [1]),
  (94, .goto (-60), 97, [34], []),
  (97, .aload_n 0, 98, [0], []),
  (98, .getfield 44, 101, [], []),
  (101, .invokevirtual 124, 104, [], []),
  (104, .iload 4, 106, [], []),
  (106, .ireturn, 107, [], [])]
theorem zo_X11_learn : ab_ok cX11_learn zp_X11_learn = true := by decide +kernel
def zg_X11_learn : ab_G := (zw_C, zs_tab, zf_X11, zc_X11, [(144, 50), (147, 51)], [(124, 1, zt_X1_forget), (167, 4, zt_X11_rowRefused), (292, 2, zt_X11_holedOften)], [])
theorem zm_X11_learn : ab_MG zg_X11_learn := ab_MGof (List.forall_mem_cons.mpr ⟨zt_X1_forget_mono, List.forall_mem_cons.mpr ⟨zt_X11_rowRefused_mono, List.forall_mem_cons.mpr ⟨zt_X11_holedOften_mono, List.forall_mem_nil _⟩⟩⟩) (List.forall_mem_nil _)
abbrev zr_X11_learn (Q : ab_R) : ab_K := ab_Run zg_X11_learn zp_X11_learn (some .int) 7 Q
set_option maxRecDepth 20000 in
theorem zv_X11_learn_0 {Q : ab_R} {M : ab_M} {N : ab_N} (l1 : Int32) (h : zt_X11_rowRefused [.ref 0, .int l1, .int (M 1 4), .int (9999 : Int32)] M N (fun r M2 N2 => zr_X11_learn Q 15 [some (.ref 0), some (.int l1), none, none, none, none, none] (ab_ol r []) M2 N2)) : zr_X11_learn Q 0 [some (.ref 0), some (.int l1)] [] M N := ab_Run_s zm_X11_learn (sp := [(15, [true, true, false, false, false, false, false]), (27, [true, false, false, false, false, false, false]), (34, [true, false, false, true, true, true, false]), (104, [false, false, false, false, true, false, false])]) 59 h
set_option maxRecDepth 20000 in
theorem zv_X11_learn_15 {Q : ab_R} {M : ab_M} {N : ab_N} (l1 : Int32) (s0 : Int32) (h : (s0 = 0 → zt_X11_holedOften [.ref 0, .int l1] M N (fun r M2 N2 => zr_X11_learn Q 27 [some (.ref 0), none, none, none, none, none, none] (ab_ol r []) M2 N2)) ∧ (¬ (s0 = 0) → Q (some (.int s0)) M N)) : zr_X11_learn Q 15 [some (.ref 0), some (.int l1), none, none, none, none, none] [.int s0] M N := ab_Run_s zm_X11_learn (sp := [(15, [true, true, false, false, false, false, false]), (27, [true, false, false, false, false, false, false]), (34, [true, false, false, true, true, true, false]), (104, [false, false, false, false, true, false, false])]) 59 h
set_option maxRecDepth 20000 in
theorem zv_X11_learn_27 {Q : ab_R} {M : ab_M} {N : ab_N} (s0 : Int32) (h : zr_X11_learn Q 34 [some (.ref 0), none, none, some (.int s0), some (.int (0 : Int32)), some (.int (0 : Int32)), none] [] M N) : zr_X11_learn Q 27 [some (.ref 0), none, none, none, none, none, none] [.int s0] M N := ab_Run_s zm_X11_learn (sp := [(15, [true, true, false, false, false, false, false]), (27, [true, false, false, false, false, false, false]), (34, [true, false, false, true, true, true, false]), (104, [false, false, false, false, true, false, false])]) 59 h
set_option maxRecDepth 20000 in
theorem zv_X11_learn_34 {Q : ab_R} {M : ab_M} {N : ab_N} (l3 : Int32) (l4 : Int32) (l5 : Int32) (h : ((M 1 4) ≤ l5 → zt_X1_forget [.ref 5] M N (fun r M2 N2 => zr_X11_learn Q 104 [none, none, none, none, some (.int l4), none, none] (ab_ol r []) M2 N2)) ∧ (¬ ((M 1 4) ≤ l5) → vp_in l5 8 ∧ ((((l3 >>> (l5 &&& 31)) &&& (1 : Int32)) = (M 13 l5.toNatClampNeg) → vp_in l5 8 ∧ (let z1 : Nat → Int32 := upd (M 13) l5.toNatClampNeg ((l3 >>> (l5 &&& 31)) &&& (1 : Int32)); zr_X11_learn Q 34 [some (.ref 0), none, none, some (.int l3), some (.int (l4 + (0 : Int32))), some (.int (l5 + (1 : Int32))), none] [] (ab_u M 13 z1) N)) ∧ (¬ (((l3 >>> (l5 &&& 31)) &&& (1 : Int32)) = (M 13 l5.toNatClampNeg)) → vp_in l5 8 ∧ (let z2 : Nat → Int32 := upd (M 13) l5.toNatClampNeg ((l3 >>> (l5 &&& 31)) &&& (1 : Int32)); zr_X11_learn Q 34 [some (.ref 0), none, none, some (.int l3), some (.int (l4 + (1 : Int32))), some (.int (l5 + (1 : Int32))), none] [] (ab_u M 13 z2) N))))) : zr_X11_learn Q 34 [some (.ref 0), none, none, some (.int l3), some (.int l4), some (.int l5), none] [] M N := ab_Run_s zm_X11_learn (sp := [(15, [true, true, false, false, false, false, false]), (27, [true, false, false, false, false, false, false]), (34, [true, false, false, true, true, true, false]), (104, [false, false, false, false, true, false, false])]) 59 h
set_option maxRecDepth 20000 in
theorem zv_X11_learn_104 {Q : ab_R} {M : ab_M} {N : ab_N} (l4 : Int32) (h : Q (some (.int l4)) M N) : zr_X11_learn Q 104 [none, none, none, none, some (.int l4), none, none] [] M N := ab_Run_s zm_X11_learn (sp := [(15, [true, true, false, false, false, false, false]), (27, [true, false, false, false, false, false, false]), (34, [true, false, false, true, true, true, false]), (104, [false, false, false, false, true, false, false])]) 59 h
theorem zL_X11_learn {Q : ab_R} {M : ab_M} {N : ab_N} {b : Int32} {n : Nat} (h4 : M 1 4 = nI n) (h8 : n ≤ 8) (hk : Q (some (.int (zLeC b (M 13) n))) (zFg (ab_u M 13 (zLeO b (M 13) n))) N) : ∀ (r p : Nat), p + r = n → zr_X11_learn Q 34 [some (.ref 0), none, none, some (.int b), some (.int (zLeC b (M 13) p)), some (.int (nI p)), none] [] (ab_u M 13 (zLeO b (M 13) p)) N := by
  intro r
  induction r with
  | zero =>
    intro p hp
    have e : p = n := by omega
    subst e
    refine zv_X11_learn_34 _ _ _ ?_
    rw [ab_u_ne _ _ (show (1 : Nat) ≠ 13 by decide), h4]
    exact ⟨fun _ => zFgC (zv_X11_learn_104 _ hk), fun c => absurd (nI_le (Nat.le_refl _) (by omega)) c⟩
  | succ r ih =>
    intro p hp
    have ih := ih (p + 1) (by omega)
    have hin : vp_in (nI p) 8 := nI_in_ (by omega)
    unfold zLeC zLeO at ih
    refine zv_X11_learn_34 _ _ _ ?_
    rw [ab_u_ne _ _ (show (1 : Nat) ≠ 13 by decide), h4, nI_clamp (show p < 2 ^ 31 by omega), ab_u_eq, zLeO_n _ _ p p (Nat.le_refl _), nI_1]
    refine ⟨fun c => absurd c (nI_ge (by omega) (by omega)), fun _ => ⟨hin, fun c => ⟨hin, ?_⟩, fun c => ⟨hin, ?_⟩⟩⟩
    · intro z1
      rw [ab_u_u]
      rw [if_pos (show zLb b p = M 13 p from c)] at ih
      exact ih
    · intro z2
      rw [ab_u_u]
      rw [if_neg (show ¬ zLb b p = M 13 p from c)] at ih
      exact ih
theorem zE_X11_learn (as : List Value) (M : ab_M) (N : ab_N) (k : ab_R) (hT : zt_X11_learn as M N k) : ab_cs as ≤ 7 ∧ zr_X11_learn k 0 (ab_en as) [] M N := by
  obtain ⟨l, rfl, ⟨h0, hS⟩, hk⟩ := ab_m1_e hT
  obtain ⟨n7, p8⟩ := zP_eq h0
  have hk := hk _ _ _ ⟨rfl, rfl, rfl⟩
  unfold zLeA zLeK at hk
  refine ⟨Nat.le_of_ble_eq_true rfl, zv_X11_learn_0 _ (ab_m3_i hS ?_)⟩
  rintro o M2 N2 ⟨rfl, rfl, rfl⟩
  rw [n7, zRefused_hwA (by omega)]
  refine zv_X11_learn_15 _ _ ⟨fun c => ?_, fun c => ?_⟩
  · rw [if_pos c, if_pos c] at hk
    have ep : zPlA (zSv M2) l (zPcs M2) = zPlB (fun j => zSv M2 23 (40 * l.toNatClampNeg + j)) (zPcs M2) (zTotR (fun j => zSv M2 23 (40 * l.toNatClampNeg + j)) (zPcs M2)) (zPcs M2) := if_pos c
    obtain ⟨s, hs, rfl, h22⟩ := zHwA_s c
    refine ab_m1_i ⟨h0, s, hs, rfl, by rw [n7]; exact h22⟩ ?_
    rintro o M3 N3 ⟨rfl, rfl, rfl⟩
    rw [nI_clamp (show s < 2 ^ 31 by omega)] at ep ⊢
    rw [zHoled_t n7, ← ep]
    refine zv_X11_learn_27 _ ?_
    have := zL_X11_learn (Q := k) (N := N3) n7 p8 hk (zPcs M3) 0 (by omega)
    unfold zLeO at this
    rw [ab_u_id (X := M3) (k := 13) rfl] at this
    exact this
  · rw [if_neg c, if_neg c] at hk
    exact hk
abbrev zR_X11_learn : Room := { frames := 4, cells := 0, slots := 0, locals := 89 }
set_option maxRecDepth 20000 in
theorem zM_X11_learn (l : Launch) : ab_Met l zw_C vwCl zZ_C yX11_learn cX11_learn 7 (some .int) zR_X11_learn zt_X11_learn := ab_ofRun (G := zg_X11_learn) (P := zp_X11_learn) rfl zo_X11_learn (by decide +kernel) zl_cl zl_lamC zf_X11_ok zs_tabOK zc_X11_ok zs_X11_ok (List.forall_mem_cons.mpr ⟨ab_callV zZ_C_ok (zM_X1_forget l) (ab_in 542 (by decide +kernel) rfl) (ab_in 539 (by decide +kernel) rfl) (ab_in 540 (by decide +kernel) rfl) (ab_in 541 (by decide +kernel) rfl) (ab_in 6 (by decide +kernel) rfl) (by unfold ab_yok; decide +kernel) ⟨rfl, rfl⟩ (by decide) zV_X1_forget, List.forall_mem_cons.mpr ⟨ab_callV zZ_C_ok (zM_X11_rowRefused l) (ab_in 617 (by decide +kernel) rfl) (ab_in 614 (by decide +kernel) rfl) (ab_in 616 (by decide +kernel) rfl) (ab_inS (List.mem_of_getElem? (i := 12) (by decide +kernel)) rfl) (ab_in 1 (by decide +kernel) rfl) (by unfold ab_yok; decide +kernel) ⟨rfl, rfl⟩ (by decide) zV_X11_rowRefused, List.forall_mem_cons.mpr ⟨ab_callV zZ_C_ok (zM_X11_holedOften l) (ab_in 867 (by decide +kernel) rfl) (ab_in 864 (by decide +kernel) rfl) (ab_in 866 (by decide +kernel) rfl) (ab_inS (List.mem_of_getElem? (i := 22) (by decide +kernel)) rfl) (ab_in 1 (by decide +kernel) rfl) (by unfold ab_yok; decide +kernel) ⟨rfl, rfl⟩ (by decide) zV_X11_holedOften, List.forall_mem_nil _⟩⟩⟩) (List.forall_mem_nil _) zE_X11_learn
def zt_X12_learn : ab_T := ab_lq (α := Nat × Int32) (fun x r M _ => r = [.int x.2] ∧ M 0 7 = nI x.1 ∧ x.1 ≤ 8)
  (fun x M N o M2 N2 => M2 = zLeM M x.2 x.1 ∧ N2 = N ∧ o = some (.int (zLeA M (M 2) x.2 x.1)))
theorem zt_X12_learn_mono : ab_mono zt_X12_learn := ab_lq_mono _ _
theorem zV_X12_learn : ab_recv zw_M vwCl RX12 zt_X12_learn := ab_lq_v
def zp_X12_learn : ab_P := [(0, .aload_n 0, 1, [0], []),
  (1, .iload_n 1, 2, [1], []),
  (2, .invokevirtual 352, 5, [], []),
  (5, .istore_n 2, 6, [2], []),
  (6, .iload_n 2, 7, [2], []),
  (7, .ifCond .eq 5, 10, [12], []),
  (10, .iload_n 2, 11, [2], []),
  (11, .ireturn, 12, [], []),
  (12, .aload_n 0, 13, [0], []),
  (13, .iload_n 1, 14, [1], []),
  (14, .invokevirtual 355, 17, [], []),
  (17, .istore_n 3, 18, [3], []),
  (18, .iconst 0, 19, [], [0]),
  (19, .istore 4, 21, [], []),
  (21, .iconst 0, 22, [], [0]),
  (22, .istore 5, 24, [], []),
  (24, .iload 5, 26, [], []),
  (26, .aload_n 0, 27, [0], []),
  (27, .getfield 172, 30, [], []),
  (30, .if_icmp .ge 48, 33, [78], []),
  (33, .iload 4, 35, [], []),
  (35, .aload_n 0, 36, [0], []),
  (36, .getfield 29, 39, [], []),
  (39, .iload 5, 41, [], []),
  (41, .iaload, 42, [], []),
  (42, .iload_n 3, 43, [3], []),
  (43, .iload 5, 45, [], []),
  (45, .ishr, 46, [], []),
  (46, .iconst 1, 47, [], [1]),
  (47, .iand, 48, [], []),
  (48, .if_icmp .ne 7, 51, [55], []),
  (51, .iconst 0, 52, [], [0]),
  (52, .goto 4, 55, [56], []),
  (55, .iconst 1, 56, [], [1]),
  (56, .iadd, 57, [], []),
  (57, .istore 4, 59, [], []),
  (59, .aload_n 0, 60, [0], []),
  (60, .getfield 29, 63, [], []),
  (63, .iload 5, 65, [], []),
  (65, .iload_n 3, 66, [3], []),
  (66, .iload 5, 68, [], []),
  (68, .ishr, 69, [], []),
  (69, .iconst 1, 70, [], [1]),
  (70, .iand, 71, [], []),
  (71, .iastore, 72, [], []),
  (72, .iinc 5 1, 75, [], [1]),
  (75, .goto (-51), 78, [24], []),
  (78, .iload 4, 80, [], []),
  (80, .ireturn, 81, [], [])]
theorem zo_X12_learn : ab_ok cX12_learn zp_X12_learn = true := by decide +kernel
def zg_X12_learn : ab_G := (zw_M, [], zf_X12, zc_X12, [], [(352, 2, zt_X12_holesWrong), (355, 2, zt_X12_placesBy)], [])
theorem zm_X12_learn : ab_MG zg_X12_learn := ab_MGof (List.forall_mem_cons.mpr ⟨zt_X12_holesWrong_mono, List.forall_mem_cons.mpr ⟨zt_X12_placesBy_mono, List.forall_mem_nil _⟩⟩) (List.forall_mem_nil _)
abbrev zr_X12_learn (Q : ab_R) : ab_K := ab_Run zg_X12_learn zp_X12_learn (some .int) 6 Q
set_option maxRecDepth 20000 in
theorem zv_X12_learn_0 {Q : ab_R} {M : ab_M} {N : ab_N} (l1 : Int32) (h : zt_X12_holesWrong [.ref 0, .int l1] M N (fun r M2 N2 => zr_X12_learn Q 5 [some (.ref 0), some (.int l1), none, none, none, none] (ab_ol r []) M2 N2)) : zr_X12_learn Q 0 [some (.ref 0), some (.int l1)] [] M N := ab_Run_s zm_X12_learn (sp := [(5, [true, true, false, false, false, false]), (17, [true, false, false, false, false, false]), (24, [true, false, false, true, true, true]), (56, [true, false, false, true, false, true])]) 51 h
set_option maxRecDepth 20000 in
theorem zv_X12_learn_5 {Q : ab_R} {M : ab_M} {N : ab_N} (l1 : Int32) (s0 : Int32) (h : (s0 = 0 → zt_X12_placesBy [.ref 0, .int l1] M N (fun r M2 N2 => zr_X12_learn Q 17 [some (.ref 0), none, none, none, none, none] (ab_ol r []) M2 N2)) ∧ (¬ (s0 = 0) → Q (some (.int s0)) M N)) : zr_X12_learn Q 5 [some (.ref 0), some (.int l1), none, none, none, none] [.int s0] M N := ab_Run_s zm_X12_learn (sp := [(5, [true, true, false, false, false, false]), (17, [true, false, false, false, false, false]), (24, [true, false, false, true, true, true]), (56, [true, false, false, true, false, true])]) 51 h
set_option maxRecDepth 20000 in
theorem zv_X12_learn_17 {Q : ab_R} {M : ab_M} {N : ab_N} (s0 : Int32) (h : zr_X12_learn Q 24 [some (.ref 0), none, none, some (.int s0), some (.int (0 : Int32)), some (.int (0 : Int32))] [] M N) : zr_X12_learn Q 17 [some (.ref 0), none, none, none, none, none] [.int s0] M N := ab_Run_s zm_X12_learn (sp := [(5, [true, true, false, false, false, false]), (17, [true, false, false, false, false, false]), (24, [true, false, false, true, true, true]), (56, [true, false, false, true, false, true])]) 51 h
set_option maxRecDepth 20000 in
theorem zv_X12_learn_24 {Q : ab_R} {M : ab_M} {N : ab_N} (l3 : Int32) (l4 : Int32) (l5 : Int32) (h : ((M 0 7) ≤ l5 → Q (some (.int l4)) M N) ∧ (¬ ((M 0 7) ≤ l5) → vp_in l5 8 ∧ (((M 2 l5.toNatClampNeg) = ((l3 >>> (l5 &&& 31)) &&& (1 : Int32)) → zr_X12_learn Q 56 [some (.ref 0), none, none, some (.int l3), none, some (.int l5)] [.int (0 : Int32), .int l4] M N) ∧ (¬ ((M 2 l5.toNatClampNeg) = ((l3 >>> (l5 &&& 31)) &&& (1 : Int32))) → zr_X12_learn Q 56 [some (.ref 0), none, none, some (.int l3), none, some (.int l5)] [.int (1 : Int32), .int l4] M N)))) : zr_X12_learn Q 24 [some (.ref 0), none, none, some (.int l3), some (.int l4), some (.int l5)] [] M N := ab_Run_s zm_X12_learn (sp := [(5, [true, true, false, false, false, false]), (17, [true, false, false, false, false, false]), (24, [true, false, false, true, true, true]), (56, [true, false, false, true, false, true])]) 51 h
set_option maxRecDepth 20000 in
theorem zv_X12_learn_56 {Q : ab_R} {M : ab_M} {N : ab_N} (l3 : Int32) (l5 : Int32) (s0 : Int32) (s1 : Int32) (h : vp_in l5 8 ∧ (let z1 : Nat → Int32 := upd (M 2) l5.toNatClampNeg ((l3 >>> (l5 &&& 31)) &&& (1 : Int32)); zr_X12_learn Q 24 [some (.ref 0), none, none, some (.int l3), some (.int (s0 + s1)), some (.int (l5 + (1 : Int32)))] [] (ab_u M 2 z1) N)) : zr_X12_learn Q 56 [some (.ref 0), none, none, some (.int l3), none, some (.int l5)] [.int s1, .int s0] M N := ab_Run_s zm_X12_learn (sp := [(5, [true, true, false, false, false, false]), (17, [true, false, false, false, false, false]), (24, [true, false, false, true, true, true]), (56, [true, false, false, true, false, true])]) 51 h
theorem zL_X12_learn {Q : ab_R} {M : ab_M} {N : ab_N} {b : Int32} {n : Nat} (h7 : M 0 7 = nI n) (h8 : n ≤ 8) (hk : Q (some (.int (zLeC b (M 2) n))) (ab_u M 2 (zLeO b (M 2) n)) N) : ∀ (r p : Nat), p + r = n → zr_X12_learn Q 24 [some (.ref 0), none, none, some (.int b), some (.int (zLeC b (M 2) p)), some (.int (nI p))] [] (ab_u M 2 (zLeO b (M 2) p)) N := by
  intro r
  induction r with
  | zero =>
    intro p hp
    have e : p = n := by omega
    subst e
    refine zv_X12_learn_24 _ _ _ ?_
    rw [ab_u_ne _ _ (show (0 : Nat) ≠ 2 by decide), h7]
    exact ⟨fun _ => hk, fun c => absurd (nI_le (Nat.le_refl _) (by omega)) c⟩
  | succ r ih =>
    intro p hp
    have ih := ih (p + 1) (by omega)
    have hin : vp_in (nI p) 8 := nI_in_ (by omega)
    unfold zLeC zLeO at ih
    have b56 : ∀ x : Int32, zLeC b (M 2) p + x = zLeC b (M 2) p + (if zLb b p = M 2 p then 0 else 1) → zr_X12_learn Q 56 [some (.ref 0), none, none, some (.int b), none, some (.int (nI p))] [.int x, .int (zLeC b (M 2) p)] (ab_u M 2 (zLeO b (M 2) p)) N := fun x hx => by
      refine zv_X12_learn_56 _ _ _ _ ⟨hin, ?_⟩
      intro z1
      rw [ab_u_u, nI_1, hx]
      have ez : z1 = upd (zLeO b (M 2) p) p (zLb b p) := by
        simp only [z1]
        rw [ab_u_eq, nI_clamp (show p < 2 ^ 31 by omega)]
        rfl
      rw [ez]
      exact ih
    refine zv_X12_learn_24 _ _ _ ?_
    rw [ab_u_ne _ _ (show (0 : Nat) ≠ 2 by decide), h7, nI_clamp (show p < 2 ^ 31 by omega), ab_u_eq, zLeO_n _ _ p p (Nat.le_refl _)]
    refine ⟨fun c => absurd c (nI_ge (by omega) (by omega)), fun _ => ⟨hin, fun c => b56 0 ?_, fun c => b56 1 ?_⟩⟩
    · rw [if_pos (show zLb b p = M 2 p from c.symm)]
    · rw [if_neg (show ¬ zLb b p = M 2 p from fun z => c z.symm)]
theorem zE_X12_learn (as : List Value) (M : ab_M) (N : ab_N) (k : ab_R) (hT : zt_X12_learn as M N k) : ab_cs as ≤ 6 ∧ zr_X12_learn k 0 (ab_en as) [] M N := by
  obtain ⟨⟨n, l⟩, r, rfl, ⟨rfl, h7, h8⟩, hk⟩ := hT
  dsimp only at h7 h8 hk ⊢
  have hk := hk _ _ _ ⟨rfl, rfl, rfl⟩
  unfold zLeA zLeM at hk
  refine ⟨Nat.le_of_ble_eq_true rfl, zv_X12_learn_0 _ ⟨(n, l), _, rfl, ⟨rfl, h7, h8⟩, ?_⟩⟩
  rintro o M2 N2 ⟨rfl, rfl, rfl⟩
  dsimp only
  refine zv_X12_learn_5 _ _ ⟨fun c => ?_, fun c => ?_⟩
  · rw [if_pos c, if_pos c] at hk
    have ep : zPlA M2 l n = zPlB (fun j => M2 23 (40 * l.toNatClampNeg + j)) n (zTotR (fun j => M2 23 (40 * l.toNatClampNeg + j)) n) n := if_pos c
    obtain ⟨s, hs, rfl, h22⟩ := zHwA_s c
    refine ⟨(s, n), _, rfl, ⟨rfl, hs, h7, h8⟩, ?_⟩
    rintro o M3 N3 ⟨rfl, rfl, rfl⟩
    dsimp only
    rw [nI_clamp (show s < 2 ^ 31 by omega)] at ep
    rw [← ep]
    refine zv_X12_learn_17 _ ?_
    have := zL_X12_learn (Q := k) (N := N3) h7 h8 hk n 0 (by omega)
    unfold zLeO at this
    rw [ab_u_id (X := M3) (k := 2) rfl] at this
    exact this
  · rw [if_neg c, if_neg c] at hk
    exact hk
abbrev zR_X12_learn : Room := { frames := 2, cells := 0, slots := 0, locals := 45 }
set_option maxRecDepth 20000 in
theorem zM_X12_learn (l : Launch) : ab_Met l zw_M vwCl zZ_M yX12_learn cX12_learn 6 (some .int) zR_X12_learn zt_X12_learn := ab_ofRun (G := zg_X12_learn) (P := zp_X12_learn) rfl zo_X12_learn (by decide +kernel) zl_cl zl_lamM zf_X12_ok ab_Tab_nil zc_X12_ok ab_Sta_nil (List.forall_mem_cons.mpr ⟨ab_callV zZ_M_ok (zM_X12_holesWrong l) (ab_in 1480 (by decide +kernel) rfl) (ab_in 1477 (by decide +kernel) rfl) (ab_in 1479 (by decide +kernel) rfl) (ab_inS (List.mem_of_getElem? (i := 56) (by decide +kernel)) rfl) (ab_in 17 (by decide +kernel) rfl) (by unfold ab_yok; decide +kernel) ⟨rfl, rfl⟩ (by decide) zV_X12_holesWrong, List.forall_mem_cons.mpr ⟨ab_callV zZ_M_ok (zM_X12_placesBy l) (ab_in 1484 (by decide +kernel) rfl) (ab_in 1481 (by decide +kernel) rfl) (ab_in 1483 (by decide +kernel) rfl) (ab_inS (List.mem_of_getElem? (i := 57) (by decide +kernel)) rfl) (ab_in 17 (by decide +kernel) rfl) (by unfold ab_yok; decide +kernel) ⟨rfl, rfl⟩ (by decide) zV_X12_placesBy, List.forall_mem_nil _⟩⟩) (List.forall_mem_nil _) zE_X12_learn
