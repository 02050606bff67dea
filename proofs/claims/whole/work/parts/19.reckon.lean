/-! Arrays.fill, Reckoning *)
-/
def zf_J7 : List (Nat × Nat × Nat) := []
theorem zf_J7_ok : ab_Fld RJ7 vwCl zf_J7 := fun _ _ _ h => by cases h
def zp_J7_fill_d0a16 : ab_P := [(0, .iconst 0, 1, [], [0]),
  (1, .istore_n 3, 2, [3], []),
  (2, .aload_n 0, 3, [0], []),
  (3, .arraylength, 4, [], []),
  (4, .istore 4, 6, [], []),
  (6, .iload_n 3, 7, [3], []),
  (7, .iload 4, 9, [], []),
  (9, .if_icmp .ge 13, 12, [22], []),
  (12, .aload_n 0, 13, [0], []),
  (13, .iload_n 3, 14, [3], []),
  (14, .lload_n 1, 15, [1], []),
  (15, .lastore, 16, [], []),
  (16, .iinc 3 1, 19, [], [1]),
  (19, .goto (-13), 22, [6], []),
  (22, .return_, 23, [], [])]
theorem zo_J7_fill_d0a16 : ab_ok cJ7_fill_d0a16 zp_J7_fill_d0a16 = true := by decide +kernel
def zg_J7_fill_d0a16 : ab_G := (zw_C, zs_tab, zf_J7, [], [], [], [])
theorem zm_J7_fill_d0a16 : ab_MG zg_J7_fill_d0a16 := ab_MGof (List.forall_mem_nil _) (List.forall_mem_nil _)
abbrev zr_J7_fill_d0a16 (Q : ab_R) : ab_K := ab_Run zg_J7_fill_d0a16 zp_J7_fill_d0a16 none 5 Q
set_option maxRecDepth 20000 in
theorem zv_J7_fill_d0a16_0 {Q : ab_R} {M : ab_M} {N : ab_N} (l1 : Int64) (h : zr_J7_fill_d0a16 Q 6 [some (.ref 41), some (.long l1), none, some (.int (0 : Int32)), some (.int (Int32.ofNat 7))] [] M N) : zr_J7_fill_d0a16 Q 0 [some (.ref 41), some (.long l1), none] [] M N := ab_Run_s zm_J7_fill_d0a16 (sp := [(6, [true, true, false, true, true])]) 17 h
set_option maxRecDepth 20000 in
theorem zv_J7_fill_d0a16_6 {Q : ab_R} {M : ab_M} {N : ab_N} (l1 : Int64) (l3 : Int32) (l4 : Int32) (h : (l4 ≤ l3 → Q none M N) ∧ (¬ (l4 ≤ l3) → vp_in l3 7 ∧ (let y1 : Nat → Int64 := vp_updL (N 41) l3.toNatClampNeg l1; zr_J7_fill_d0a16 Q 6 [some (.ref 41), some (.long l1), none, some (.int (l3 + (1 : Int32))), some (.int l4)] [] M (ab_u N 41 y1)))) : zr_J7_fill_d0a16 Q 6 [some (.ref 41), some (.long l1), none, some (.int l3), some (.int l4)] [] M N := ab_Run_s zm_J7_fill_d0a16 (sp := [(6, [true, true, false, true, true])]) 17 h
theorem ab_u_u {α : Type} (M : Nat → Nat → α) (k : Nat) (f g : Nat → α) : ab_u (ab_u M k f) k g = ab_u M k g := by
  funext c
  by_cases e : c = k
  · rw [e, ab_u_eq, ab_u_eq]
  · rw [ab_u_ne _ _ e, ab_u_ne _ _ e, ab_u_ne _ _ e]
theorem ab_u_self {α : Type} (M : Nat → Nat → α) (k : Nat) : ab_u M k (M k) = M := by
  funext c
  by_cases e : c = k
  · rw [e, ab_u_eq]
  · rw [ab_u_ne _ _ e]
theorem zL_J7_fill_l {Q : ab_R} {M : ab_M} {N : ab_N} (x : Int64) (hq : ∀ f : Nat → Int64, (∀ j, j < 7 → f j = x) → Q none M (ab_u N 41 f)) : ∀ (n i : Nat) (g : Nat → Int64), i + n = 7 → (∀ j, j < i → g j = x) → zr_J7_fill_d0a16 Q 6 [some (.ref 41), some (.long x), none, some (.int (nI i)), some (.int (Int32.ofNat 7))] [] M (ab_u N 41 g) := by
  intro n
  induction n with
  | zero =>
    intro i g hi hg
    refine zv_J7_fill_d0a16_6 _ _ _ ⟨fun _ => hq g (fun j hj => hg j (by omega)), fun c => absurd (show nI 7 ≤ nI i from nI_le (by omega) (by omega)) c⟩
  | succ n ih =>
    intro i g hi hg
    refine zv_J7_fill_d0a16_6 _ _ _ ⟨fun c => absurd c (show ¬ nI 7 ≤ nI i from nI_ge (by omega) (by omega)), fun _ => ⟨nI_in_ (by omega), ?_⟩⟩
    intro y1
    have e : y1 = vp_updL g i x := by
      show vp_updL (ab_u N 41 g 41) (nI i).toNatClampNeg x = _
      rw [nI_clamp (show i < 2 ^ 31 by omega), ab_u_eq]
    clear_value y1
    subst e
    rw [ab_u_u, nI_1]
    refine ih (i + 1) _ (by omega) (fun j hj => ?_)
    by_cases e : j = i
    · rw [e, updL_eq]
    · rw [updL_ne _ _ e]; exact hg j (by omega)
theorem zE_J7_fill_d0a16 (as : List Value) (M : ab_M) (N : ab_N) (k : ab_R) (hT : zt_J7_fill_d0a16 as M N k) : ab_cs as ≤ 5 ∧ zr_J7_fill_d0a16 k 0 (ab_en as) [] M N := by
  unfold zt_J7_fill_d0a16 at hT
  split at hT
  case h_2 => exact hT.elim
  rename_i a x
  obtain ⟨rfl, hk⟩ := hT
  refine ⟨Nat.le_of_ble_eq_true rfl, zv_J7_fill_d0a16_0 _ ?_⟩
  have := zL_J7_fill_l (N := N) x hk 7 0 (N 41) rfl (fun j hj => by omega)
  rw [ab_u_self] at this
  exact this
abbrev zR_J7_fill_d0a16 : Room := { frames := 0, cells := 0, slots := 0, locals := 0 }
set_option maxRecDepth 20000 in
theorem zM_J7_fill_d0a16 (l : Launch) : ab_Met l zw_C vwCl zZ_C yJ7_fill_d0a16 cJ7_fill_d0a16 5 none zR_J7_fill_d0a16 zt_J7_fill_d0a16 := ab_ofRun (G := zg_J7_fill_d0a16) (P := zp_J7_fill_d0a16) rfl zo_J7_fill_d0a16 (by decide +kernel) zl_cl zl_lamC zf_J7_ok zs_tabOK ab_Cst_nil ab_Sta_nil (List.forall_mem_nil _) (List.forall_mem_nil _) zE_J7_fill_d0a16
def zp_J7_fill_53178 : ab_P := [(0, .iconst 0, 1, [], [0]),
  (1, .istore_n 2, 2, [2], []),
  (2, .aload_n 0, 3, [0], []),
  (3, .arraylength, 4, [], []),
  (4, .istore_n 3, 5, [3], []),
  (5, .iload_n 2, 6, [2], []),
  (6, .iload_n 3, 7, [3], []),
  (7, .if_icmp .ge 13, 10, [20], []),
  (10, .aload_n 0, 11, [0], []),
  (11, .iload_n 2, 12, [2], []),
  (12, .iload_n 1, 13, [1], []),
  (13, .iastore, 14, [], []),
  (14, .iinc 2 1, 17, [], [1]),
  (17, .goto (-12), 20, [5], []),
  (20, .return_, 21, [], [])]
theorem zo_J7_fill_53178 : ab_ok cJ7_fill_53178 zp_J7_fill_53178 = true := by decide +kernel
def zg_J7_fill_53178 : ab_G := (zw_C, zs_tab, zf_J7, [], [], [], [])
theorem zm_J7_fill_53178 : ab_MG zg_J7_fill_53178 := ab_MGof (List.forall_mem_nil _) (List.forall_mem_nil _)
abbrev zr_J7_fill_53178 (Q : ab_R) : ab_K := ab_Run zg_J7_fill_53178 zp_J7_fill_53178 none 4 Q
set_option maxRecDepth 20000 in
theorem zv_J7_fill_53178_0 {Q : ab_R} {M : ab_M} {N : ab_N} (l1 : Int32) (h : zr_J7_fill_53178 Q 5 [some (.ref 42), some (.int l1), some (.int (0 : Int32)), some (.int (Int32.ofNat 8))] [] M N) : zr_J7_fill_53178 Q 0 [some (.ref 42), some (.int l1)] [] M N := ab_Run_s zm_J7_fill_53178 (sp := [(5, [true, true, true, true])]) 17 h
set_option maxRecDepth 20000 in
theorem zv_J7_fill_53178_5 {Q : ab_R} {M : ab_M} {N : ab_N} (l1 : Int32) (l2 : Int32) (l3 : Int32) (h : (l3 ≤ l2 → Q none M N) ∧ (¬ (l3 ≤ l2) → vp_in l2 8 ∧ (let z1 : Nat → Int32 := upd (M 42) l2.toNatClampNeg l1; zr_J7_fill_53178 Q 5 [some (.ref 42), some (.int l1), some (.int (l2 + (1 : Int32))), some (.int l3)] [] (ab_u M 42 z1) N))) : zr_J7_fill_53178 Q 5 [some (.ref 42), some (.int l1), some (.int l2), some (.int l3)] [] M N := ab_Run_s zm_J7_fill_53178 (sp := [(5, [true, true, true, true])]) 17 h
theorem zL_J7_fill_i {Q : ab_R} {M : ab_M} {N : ab_N} (x : Int32) (hq : ∀ f : Nat → Int32, (∀ j, j < 8 → f j = x) → Q none (ab_u M 42 f) N) : ∀ (n i : Nat) (g : Nat → Int32), i + n = 8 → (∀ j, j < i → g j = x) → zr_J7_fill_53178 Q 5 [some (.ref 42), some (.int x), some (.int (nI i)), some (.int (Int32.ofNat 8))] [] (ab_u M 42 g) N := by
  intro n
  induction n with
  | zero =>
    intro i g hi hg
    refine zv_J7_fill_53178_5 _ _ _ ⟨fun _ => hq g (fun j hj => hg j (by omega)), fun c => absurd (show nI 8 ≤ nI i from nI_le (by omega) (by omega)) c⟩
  | succ n ih =>
    intro i g hi hg
    refine zv_J7_fill_53178_5 _ _ _ ⟨fun c => absurd c (show ¬ nI 8 ≤ nI i from nI_ge (by omega) (by omega)), fun _ => ⟨nI_in_ (by omega), ?_⟩⟩
    intro y1
    have e : y1 = upd g i x := by
      show upd (ab_u M 42 g 42) (nI i).toNatClampNeg x = _
      rw [nI_clamp (show i < 2 ^ 31 by omega), ab_u_eq]
    clear_value y1
    subst e
    rw [ab_u_u, nI_1]
    refine ih (i + 1) _ (by omega) (fun j hj => ?_)
    by_cases e : j = i
    · rw [e, upd_eq]
    · rw [upd_ne _ _ e]; exact hg j (by omega)
theorem zE_J7_fill_53178 (as : List Value) (M : ab_M) (N : ab_N) (k : ab_R) (hT : zt_J7_fill_53178 as M N k) : ab_cs as ≤ 4 ∧ zr_J7_fill_53178 k 0 (ab_en as) [] M N := by
  unfold zt_J7_fill_53178 at hT
  split at hT
  case h_2 => exact hT.elim
  rename_i a x
  obtain ⟨rfl, hk⟩ := hT
  refine ⟨Nat.le_of_ble_eq_true rfl, zv_J7_fill_53178_0 _ ?_⟩
  have := zL_J7_fill_i (M := M) x hk 8 0 (M 42) rfl (fun j hj => by omega)
  rw [ab_u_self] at this
  exact this
abbrev zR_J7_fill_53178 : Room := { frames := 0, cells := 0, slots := 0, locals := 0 }
set_option maxRecDepth 20000 in
theorem zM_J7_fill_53178 (l : Launch) : ab_Met l zw_C vwCl zZ_C yJ7_fill_53178 cJ7_fill_53178 4 none zR_J7_fill_53178 zt_J7_fill_53178 := ab_ofRun (G := zg_J7_fill_53178) (P := zp_J7_fill_53178) rfl zo_J7_fill_53178 (by decide +kernel) zl_cl zl_lamC zf_J7_ok zs_tabOK ab_Cst_nil ab_Sta_nil (List.forall_mem_nil _) (List.forall_mem_nil _) zE_J7_fill_53178
theorem zNfr_rf (L : List Nat) (N : ab_N) : zNfr L N N := fun _ _ => rfl
theorem zNfr_u {L : List Nat} {N N2 : ab_N} (h : zNfr L N N2) {k : Nat} (hk : k ∈ L) (f : Nat → Int64) : zNfr L N (ab_u N2 k f) := fun c hc => by
  have hne : c ≠ k := fun e => hc (by rw [e]; exact hk)
  rw [ab_u_ne N2 f hne]
  exact h c hc
theorem zNfr_tr {L : List Nat} {N N2 N3 : ab_N} (h : zNfr L N N2) (h2 : zNfr L N2 N3) : zNfr L N N3 := fun c hc => (h2 c hc).trans (h c hc)
theorem zNight_fr {M M2 : ab_M} (hN : zNight M) (hA : zAsks M2) (hF : zFr [33, 35, 36] M M2) : zNight M2 := zNight_of hN hA (zFr_mono hF (by decide))
def zp_X6_look : ab_P := [(0, .iconst 1, 1, [], [1]),
  (1, .istore 4, 3, [], []),
  (3, .iload 4, 5, [], []),
  (5, .aload_n 0, 6, [0], []),
  (6, .getfield 15, 9, [], []),
  (9, .getfield 31, 12, [], []),
  (12, .iconst 1, 13, [], [1]),
  (13, .iaload, 14, [], []),
  (14, .if_icmp .ge 97, 17, [111], []),
  (17, .aload_n 0, 18, [0], []),
  (18, .getfield 9, 21, [], []),
  (21, .iload 4, 23, [], []),
  (23, .laload, 24, [], []),
  (24, .aload_n 0, 25, [0], []),
  (25, .getfield 23, 28, [], []),
  (28, .iconst 1, 29, [], [1]),
  (29, .iload_n 1, 30, [1], []),
  (30, .iload_n 2, 31, [2], []),
  (31, .iload 4, 33, [], []),
  (33, .iload_n 3, 34, [3], []),
  (34, .invokevirtual 70, 37, [], []),
  (37, .i2l, 38, [], []),
  (38, .lmul, 39, [], []),
  (39, .ldc2_w 82, 42, [], []),
  (42, .ldiv, 43, [], []),
  (43, .lstore 5, 45, [], []),
  (45, .aload_n 0, 46, [0], []),
  (46, .getfield 9, 49, [], []),
  (49, .iload 4, 51, [], []),
  (51, .dup2, 52, [], []),
  (52, .laload, 53, [], []),
  (53, .lload 5, 55, [], []),
  (55, .lsub, 56, [], []),
  (56, .lastore, 57, [], []),
  (57, .aload_n 0, 58, [0], []),
  (58, .getfield 9, 61, [], []),
  (61, .iconst 0, 62, [], [0]),
  (62, .dup2, 63, [], []),
  (63, .laload, 64, [], []),
  (64, .lload 5, 66, [], []),
  (66, .ladd, 67, [], []),
  (67, .lastore, 68, [], []),
  (68, .aload_n 0, 69, [0], []),
  (69, .dup, 70, [], []),
  (70, .getfield 37, 73, [], []),
  (73, .lload 5, 75, [], []),
  (75, .ladd, 76, [], []),
  (76, .putfield 37, 79, [], []),
  (79, .aload_n 0, 80, [0], []),
  (80, .dup, 81, [], []),
  (81, .getfield 27, 84, [], []),
  (84, .lload 5, 86, [], []),
  (86, .aload_n 0, 87, [0], []),
  (87, .getfield 23, 90, [], []),
  (90, .iconst 2, 91, [], [2]),
  (91, .iload_n 1, 92, [1], []),
  (92, .iload_n 2, 93, [2], []),
  (93, .iload 4, 95, [], []),
  (95, .iconst 0, 96, [], [0]),
  (96, .invokevirtual 70, 99, [], []),
  (99, .i2l, 100, [], []),
  (100, .lmul, 101, [], []),
  (101, .ladd, 102, [], []),
  (102, .putfield 27, 105, [], []),
  (105, .iinc 4 1, 108, [], [1]),
  (108, .goto (-105), 111, [3], []),
  (111, .return_, 112, [], [])]
theorem zo_X6_look : ab_ok cX6_look zp_X6_look = true := by decide +kernel
def zg_X6_look : ab_G := (zw_C, zs_tab, zf_X6, zc_X6, [], [(70, 6, zt_X1_ask)], [])
theorem zm_X6_look : ab_MG zg_X6_look := ab_MGof (List.forall_mem_cons.mpr ⟨zt_X1_ask_mono, List.forall_mem_nil _⟩) (List.forall_mem_nil _)
abbrev zr_X6_look (Q : ab_R) : ab_K := ab_Run zg_X6_look zp_X6_look none 7 Q
set_option maxRecDepth 20000 in
theorem zv_X6_look_0 {Q : ab_R} {M : ab_M} {N : ab_N} (l1 : Int32) (l2 : Int32) (l3 : Int32) (h : zr_X6_look Q 3 [some (.ref 7), some (.int l1), some (.int l2), some (.int l3), some (.int (1 : Int32)), none, none] [] M N) : zr_X6_look Q 0 [some (.ref 7), some (.int l1), some (.int l2), some (.int l3)] [] M N := ab_Run_s zm_X6_look (sp := [(3, [true, true, true, true, true, false, false]), (37, [true, true, true, true, true, false, false]), (99, [true, true, true, true, true, false, false])]) 69 h
set_option maxRecDepth 20000 in
theorem zv_X6_look_3 {Q : ab_R} {M : ab_M} {N : ab_N} (l1 : Int32) (l2 : Int32) (l3 : Int32) (l4 : Int32) (h : vp_in (1 : Int32) 5 ∧ (((M 17 1) ≤ l4 → Q none M N) ∧ (¬ ((M 17 1) ≤ l4) → vp_in l4 7 ∧ (zt_X1_ask [.ref 5, .int (1 : Int32), .int l1, .int l2, .int l4, .int l3] M N (fun r M2 N2 => zr_X6_look Q 37 [some (.ref 7), some (.int l1), some (.int l2), some (.int l3), some (.int l4), none, none] (ab_ol r [.long (N 41 l4.toNatClampNeg)]) M2 N2))))) : zr_X6_look Q 3 [some (.ref 7), some (.int l1), some (.int l2), some (.int l3), some (.int l4), none, none] [] M N := ab_Run_s zm_X6_look (sp := [(3, [true, true, true, true, true, false, false]), (37, [true, true, true, true, true, false, false]), (99, [true, true, true, true, true, false, false])]) 69 h
set_option maxRecDepth 20000 in
theorem zv_X6_look_37 {Q : ab_R} {M : ab_M} {N : ab_N} (l1 : Int32) (l2 : Int32) (l3 : Int32) (l4 : Int32) (s0 : Int64) (s1 : Int32) (h : ¬ (100 : Int64) = 0 ∧ (vp_in l4 7 ∧ (vp_in l4 7 ∧ (let y1 : Nat → Int64 := vp_updL (N 41) l4.toNatClampNeg ((N 41 l4.toNatClampNeg) - ((s0 * (s1.toInt64)) / (100 : Int64))); vp_in (0 : Int32) 7 ∧ (vp_in (0 : Int32) 7 ∧ (let y2 : Nat → Int64 := vp_updL (y1) 0 ((y1 0) + ((s0 * (s1.toInt64)) / (100 : Int64))); let y3 : Nat → Int64 := vp_updL (N 7) 5 ((N 7 5) + ((s0 * (s1.toInt64)) / (100 : Int64))); zt_X1_ask [.ref 5, .int (2 : Int32), .int l1, .int l2, .int l4, .int (0 : Int32)] M (ab_u (ab_u (ab_u N 41 y1) 41 y2) 7 y3) (fun r M2 N2 => zr_X6_look Q 99 [some (.ref 7), some (.int l1), some (.int l2), some (.int l3), some (.int l4), none, none] (ab_ol r [.long ((s0 * (s1.toInt64)) / (100 : Int64)), .long (y3 4), .ref 7]) M2 N2))))))) : zr_X6_look Q 37 [some (.ref 7), some (.int l1), some (.int l2), some (.int l3), some (.int l4), none, none] [.int s1, .long s0] M N := ab_Run_s zm_X6_look (sp := [(3, [true, true, true, true, true, false, false]), (37, [true, true, true, true, true, false, false]), (99, [true, true, true, true, true, false, false])]) 69 h
set_option maxRecDepth 20000 in
theorem zv_X6_look_99 {Q : ab_R} {M : ab_M} {N : ab_N} (l1 : Int32) (l2 : Int32) (l3 : Int32) (l4 : Int32) (s1 : Int64) (s2 : Int64) (s3 : Int32) (h : let y1 : Nat → Int64 := vp_updL (N 7) 4 (s1 + (s2 * (s3.toInt64))); zr_X6_look Q 3 [some (.ref 7), some (.int l1), some (.int l2), some (.int l3), some (.int (l4 + (1 : Int32))), none, none] [] M (ab_u N 7 y1)) : zr_X6_look Q 99 [some (.ref 7), some (.int l1), some (.int l2), some (.int l3), some (.int l4), none, none] [.int s3, .long s2, .long s1, .ref 7] M N := ab_Run_s zm_X6_look (sp := [(3, [true, true, true, true, true, false, false]), (37, [true, true, true, true, true, false, false]), (99, [true, true, true, true, true, false, false])]) 69 h
theorem zL_X6_look {Q : ab_R} (M0 : ab_M) (N0 : ab_N) (hN : zNight M0) (q g c : Nat) (hq : q < zPcs M0) (hg : g < 12) (hc : c ≤ 3) (kk : ∀ M N, zFr [33, 35, 36] M0 M → zAsks M → zNfr [7, 41] N0 N → (∀ s, zHas N0 s → zHas N (zLook M0 q g c (zBrk M0 - 1) s)) → Q none M N) :
    ∀ (n i : Nat) (M : ab_M) (N : ab_N), i + n = zBrk M0 - 1 → zFr [33, 35, 36] M0 M → zAsks M → zNfr [7, 41] N0 N → (∀ s, zHas N0 s → zHas N (zLook M0 q g c i s)) → zr_X6_look Q 3 [some (.ref 7), some (.int (nI q)), some (.int (nI g)), some (.int (nI c)), some (.int (nI (i + 1))), none, none] [] M N := by
  obtain ⟨hA0, h0, h1⟩ := id hN
  obtain ⟨hP, hP8⟩ := zP_eq h0
  obtain ⟨hB, hB6, hB2⟩ := zB_eq h0
  intro n
  induction n with
  | zero =>
    intro i M N hi hF hA hNf hS
    refine zv_X6_look_3 _ _ _ _ ⟨ab_vpk (by decide), fun _ => ?_, fun z => absurd ?_ z⟩
    · have ei : i = zBrk M0 - 1 := by omega
      rw [ei] at hS
      exact kk M N hF hA hNf hS
    · rw [hF 17 (by decide), hB]
      exact nI_le (by omega) (by omega)
  | succ n ih =>
    intro i M N hi hF hA hNf hS
    refine zv_X6_look_3 _ _ _ _ ⟨ab_vpk (by decide), fun z => absurd z ?_, fun _ => ⟨nI_in_ (by omega), ?_⟩⟩
    · rw [hF 17 (by decide), hB]
      exact nI_ge (by omega) (by omega)
    have hv : vp_in (nI (i + 1)) 7 := nI_in_ (by omega)
    have ci : (nI (i + 1)).toNatClampNeg = i + 1 := nI_clamp (by omega)
    refine ab_m5_i ⟨hA, 1, q, g, i + 1, c, zPcs M0, by omega, hq, hP8, hg, by omega, hc, rfl, rfl, rfl, rfl, rfl, by rw [hF 1 (by decide), hP]⟩ ?_
    rintro o M2 N2 ⟨rfl, hF2, hA2, rfl⟩
    have hFt : zFr [33, 35, 36] M0 M2 := zFr_tr hF hF2
    rw [zAsk_fr hF, show (1 : Int32).toNatClampNeg = 1 from rfl, nI_clamp (show q < 2 ^ 31 by omega), nI_clamp (show g < 2 ^ 31 by omega), ci, nI_clamp (show c < 2 ^ 31 by omega)]
    have hle := zAsk_le M0 (th := 1) (by omega) q g (i + 1) c
    refine zv_X6_look_37 _ _ _ _ _ _ ⟨by decide, hv, hv, ?_⟩
    rw [ci, nI_l (by omega)]
    intro y1
    refine ⟨ab_vpk (by decide), ab_vpk (by decide), ?_⟩
    intro y2 y3
    refine ab_m5_i ⟨hA2, 2, q, g, i + 1, 0, zPcs M0, by omega, hq, hP8, hg, by omega, by omega, rfl, rfl, rfl, rfl, rfl, by rw [hFt 1 (by decide), hP]⟩ ?_
    rintro o M3 N3 ⟨rfl, hF3, hA3, rfl⟩
    have hFu : zFr [33, 35, 36] M0 M3 := zFr_tr hFt hF3
    rw [zAsk_fr hFt, show (2 : Int32).toNatClampNeg = 2 from rfl, show (0 : Int32).toNatClampNeg = 0 from rfl, nI_clamp (show q < 2 ^ 31 by omega), nI_clamp (show g < 2 ^ 31 by omega), ci]
    have hle2 := zAsk_le M0 (th := 2) (by omega) q g (i + 1) 0
    refine zv_X6_look_99 _ _ _ _ _ _ _ ?_
    rw [nI_l (by omega)]
    intro y4
    rw [nI_1]
    refine ih (i + 1) M3 _ (by omega) hFu hA3 (zNfr_u (zNfr_u (zNfr_u (zNfr_u hNf (by decide) _) (by decide) _) (by decide) _) (by decide) _) ?_
    intro s hs
    obtain ⟨s1, s2, s3⟩ := hS s hs
    have es : N2 41 (i + 1) = (zLook M0 q g c i s).1 (i + 1) := s1 (i + 1) (by omega)
    refine ⟨fun j hj => ?_, ?_, ?_⟩
    · show y2 j = _
      show vp_updL (vp_updL (N2 41) (i + 1) (N2 41 (i + 1) - N2 41 (i + 1) * lN _ / 100)) 0 (vp_updL (N2 41) (i + 1) (N2 41 (i + 1) - N2 41 (i + 1) * lN _ / 100) 0 + N2 41 (i + 1) * lN _ / 100) j = _
      rw [es]
      show _ = vp_updL (vp_updL (zLook M0 q g c i s).1 (i + 1) _) 0 _ j
      unfold vp_updL
      by_cases e0 : j = 0
      · rw [if_pos e0, if_pos e0]
        rw [if_neg (by omega), if_neg (by omega), s1 0 (by omega)]
      · rw [if_neg e0, if_neg e0]
        by_cases e1 : j = i + 1
        · rw [if_pos e1, if_pos e1]
        · rw [if_neg e1, if_neg e1]; exact s1 j hj
    · show vp_updL (ab_u _ 7 y3 7) 4 (y3 4 + N2 41 (i + 1) * lN _ / 100 * lN _) 4 = _
      rw [updL_eq, es]
      show vp_updL (N2 7) 5 _ 4 + _ = (zLook M0 q g c i s).2.1 + _
      rw [updL_ne _ _ (by decide), s2]
    · show vp_updL (ab_u _ 7 y3 7) 4 _ 5 = _
      rw [updL_ne _ _ (by decide), ab_u_eq]
      show vp_updL (N2 7) 5 (N2 7 5 + N2 41 (i + 1) * lN _ / 100) 5 = _
      rw [updL_eq, es, s3]
      rfl
theorem zE_X6_look (as : List Value) (M : ab_M) (N : ab_N) (k : ab_R) (hT : zt_X6_look as M N k) : ab_cs as ≤ 7 ∧ zr_X6_look k 0 (ab_en as) [] M N := by
  obtain ⟨p, h, pc, rfl, ⟨hN, q, g, c, hq, hg, hc, rfl, rfl, rfl⟩, hk⟩ := ab_m3_e hT
  have hB := zB_eq hN.2.1
  have hP := zP_eq hN.2.1
  refine ⟨Nat.le_of_ble_eq_true rfl, zv_X6_look_0 _ _ _ ?_⟩
  rw [nI_clamp (show q < 2 ^ 31 by omega), nI_clamp (show g < 2 ^ 31 by omega), nI_clamp (show c < 2 ^ 31 by omega)] at hk
  exact zL_X6_look M N hN q g c hq hg hc (fun M2 N2 hF hA hNf hS => hk none M2 N2 ⟨rfl, hF, hA, hNf, hS⟩) (zBrk M - 1) 0 M N (by omega) (zFr_rf _ _) hN.1 (zNfr_rf _ _) (fun s hs => hs)
abbrev zR_X6_look : Room := { frames := 3, cells := 0, slots := 0, locals := 80 }
set_option maxRecDepth 20000 in
theorem zM_X6_look (l : Launch) : ab_Met l zw_C vwCl zZ_C yX6_look cX6_look 7 none zR_X6_look zt_X6_look := ab_ofRun (G := zg_X6_look) (P := zp_X6_look) rfl zo_X6_look (by decide +kernel) zl_cl zl_lamC zf_X6_ok zs_tabOK zc_X6_ok ab_Sta_nil (List.forall_mem_cons.mpr ⟨ab_callV zZ_C_ok (zM_X1_ask l) (ab_in 590 (by decide +kernel) rfl) (ab_in 746 (by decide +kernel) rfl) (ab_in 588 (by decide +kernel) rfl) (ab_in 589 (by decide +kernel) rfl) (ab_in 6 (by decide +kernel) rfl) (by unfold ab_yok; decide +kernel) ⟨rfl, rfl⟩ (by decide) zV_X1_ask, List.forall_mem_nil _⟩) (List.forall_mem_nil _) zE_X6_look
