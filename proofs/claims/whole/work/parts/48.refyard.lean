/-! the reference: signs that wait *)
-/
theorem ab_g_pad : ∀ (b : List (Option Value)) (n i : Nat) (v : Value), ab_g (b ++ List.replicate n none) i = some v → ab_g b i = some v
  | [], 0, i, v, h => h
  | [], n + 1, 0, v, h => by cases h
  | [], n + 1, i + 1, v, h => by
    have := ab_g_pad [] n i v h
    rw [ab_g_nil] at this
    cases this
  | x :: r, n, 0, v, h => h
  | x :: r, n, i + 1, v, h => ab_g_pad r n i v h
theorem ab_Le_pad (b : List (Option Value)) (n : Nat) : ab_Le (b ++ List.replicate n none) b := fun i v h => ab_g_pad b n i v h
def zHld (f : Nat → Int32) : List Nat → Prop
  | [] => True
  | s :: K => f K.length = nI s ∧ zHld f K
theorem zHld_upd {f : Nat → Int32} {j : Nat} {x : Int32} : ∀ {K : List Nat}, zHld f K → K.length ≤ j → zHld (upd f j x) K
  | [], _, _ => trivial
  | s :: K, h, hj => by
    rw [List.length_cons] at hj
    exact ⟨by rw [upd_ne _ _ (by omega)]; exact h.1, zHld_upd h.2 (by omega)⟩
def zYR (M0 M : ab_M) (w o0 : Nat) (K : List Nat) (O : List Int32) : Prop := (∀ c, c ≠ 0 → c ≠ 13 → c ≠ 25 → M c = M0 c) ∧ (∀ j, ¬ (50 ≤ j ∧ j ≤ 53) → ¬ (56 ≤ j ∧ j ≤ 58) → M 0 j = M0 0 j) ∧ M0 0 23 = nI w ∧ w < 6 ∧ M 0 56 = nI K.length ∧ M 0 57 = nI (zOp K) ∧ M 0 58 = nI (o0 + O.length) ∧ zHld (M 25) K ∧ M 13 = zPut (M0 13) (200 * w + o0) (O.map zRc) ∧ (∀ s ∈ K, s = 0 ∨ (11 ≤ s ∧ s ≤ 19)) ∧ K.length + (o0 + O.length) ≤ 160
theorem zOp_le : ∀ K : List Nat, zOp K ≤ K.length
  | [] => Nat.le_refl _
  | s :: K => by
    have := zOp_le K
    show (if s = 0 ∨ s = 13 ∨ s = 19 then 1 else 0) + zOp K ≤ K.length + 1
    split <;> omega
theorem zrk_n : ∀ s, s < 20 → zrk (nI s) = nI (zRank s) := by decide +kernel
theorem zRc_co : ∀ s, s < 20 → 11 ≤ s → zRc (zCo s) = nI s := by decide +kernel
theorem zRank_0 {s : Nat} (h : 1 ≤ zRank s) : ¬ s = 0 := fun z => by rw [z] at h; exact absurd h (by decide)
def zt_X12_puts : ab_T := ab_lq (α := Nat × Nat × Int32) (fun x r M _ => r = [.int x.2.2] ∧ M 0 23 = nI x.1 ∧ x.1 < 6 ∧ M 0 58 = nI x.2.1 ∧ x.2.1 < 200)
  (fun x M N o M2 N2 => N2 = N ∧ o = none ∧ M2 = ab_u (ab_u M 13 (upd (M 13) (200 * x.1 + x.2.1) x.2.2)) 0 (upd (M 0) 58 (nI (x.2.1 + 1))))
theorem zt_X12_puts_mono : ab_mono zt_X12_puts := ab_lq_mono _ _
theorem zV_X12_puts : ab_recv zw_M vwCl RX12 zt_X12_puts := ab_lq_v
def zp_X12_puts : ab_P := [(0, .aload_n 0, 1, [0], []),
  (1, .getfield 62, 4, [], []),
  (4, .sipush 200, 7, [], [200]),
  (7, .aload_n 0, 8, [0], []),
  (8, .getfield 68, 11, [], []),
  (11, .imul, 12, [], []),
  (12, .aload_n 0, 13, [0], []),
  (13, .getfield 217, 16, [], []),
  (16, .iadd, 17, [], []),
  (17, .iload_n 1, 18, [1], []),
  (18, .iastore, 19, [], []),
  (19, .aload_n 0, 20, [0], []),
  (20, .dup, 21, [], []),
  (21, .getfield 217, 24, [], []),
  (24, .iconst 1, 25, [], [1]),
  (25, .iadd, 26, [], []),
  (26, .putfield 217, 29, [], []),
  (29, .return_, 30, [], [])]
theorem zo_X12_puts : ab_ok cX12_puts zp_X12_puts = true := by decide +kernel
def zg_X12_puts : ab_G := (zw_M, [], zf_X12, zc_X12, [], [], [])
theorem zm_X12_puts : ab_MG zg_X12_puts := ab_MGof (List.forall_mem_nil _) (List.forall_mem_nil _)
abbrev zr_X12_puts (Q : ab_R) : ab_K := ab_Run zg_X12_puts zp_X12_puts none 2 Q
set_option maxRecDepth 20000 in
theorem zv_X12_puts_0 {Q : ab_R} {M : ab_M} {N : ab_N} (l1 : Int32) (h : vp_in (((200 : Int32) * (M 0 23)) + (M 0 58)) 1200 ∧ (let z1 : Nat → Int32 := upd (M 13) (((200 : Int32) * (M 0 23)) + (M 0 58)).toNatClampNeg l1; let z2 : Nat → Int32 := upd (M 0) 58 ((M 0 58) + (1 : Int32)); Q none (ab_u (ab_u M 13 z1) 0 z2) N)) : zr_X12_puts Q 0 [some (.ref 0), some (.int l1)] [] M N := ab_Run_s zm_X12_puts (sp := []) 20 h
theorem zE_X12_puts (as : List Value) (M : ab_M) (N : ab_N) (k : ab_R) (hT : zt_X12_puts as M N k) : ab_cs as ≤ 2 ∧ zr_X12_puts k 0 (ab_en as) [] M N := by
  obtain ⟨⟨w, o, c⟩, r, rfl, ⟨rfl, h1, h2, h3, h4⟩, hk⟩ := hT
  dsimp only at h1 h2 h3 h4 hk ⊢
  refine ⟨Nat.le_of_ble_eq_true rfl, zv_X12_puts_0 _ ?_⟩
  have e : (200 : Int32) * M 0 23 + M 0 58 = nI (200 * w + o) := by rw [h1, h3, show (200 : Int32) = nI 200 from rfl, pk_mul, nI_add]
  rw [e, nI_clamp (show 200 * w + o < 2 ^ 31 by omega), h3, nI_1]
  exact ⟨nI_in_ (by omega), hk _ _ _ ⟨rfl, rfl, rfl⟩⟩
abbrev zR_X12_puts : Room := { frames := 0, cells := 0, slots := 0, locals := 0 }
set_option maxRecDepth 20000 in
theorem zM_X12_puts (l : Launch) : ab_Met l zw_M vwCl zZ_M yX12_puts cX12_puts 2 none zR_X12_puts zt_X12_puts := ab_ofRun (G := zg_X12_puts) (P := zp_X12_puts) rfl zo_X12_puts (by decide +kernel) zl_cl zl_lamM zf_X12_ok ab_Tab_nil zc_X12_ok ab_Sta_nil (List.forall_mem_nil _) (List.forall_mem_nil _) zE_X12_puts
def zt_X12_holds : ab_T := ab_lq (α := Nat × Int32) (fun x r M _ => r = [.int x.2] ∧ M 0 56 = nI x.1 ∧ x.1 < 200)
  (fun x M N o M2 N2 => N2 = N ∧ o = none ∧ M2 = ab_u (ab_u M 25 (upd (M 25) x.1 x.2)) 0 (upd (M 0) 56 (nI (x.1 + 1))))
theorem zt_X12_holds_mono : ab_mono zt_X12_holds := ab_lq_mono _ _
theorem zV_X12_holds : ab_recv zw_M vwCl RX12 zt_X12_holds := ab_lq_v
def zp_X12_holds : ab_P := [(0, .aload_n 0, 1, [0], []),
  (1, .getfield 135, 4, [], []),
  (4, .aload_n 0, 5, [0], []),
  (5, .getfield 220, 8, [], []),
  (8, .iload_n 1, 9, [1], []),
  (9, .iastore, 10, [], []),
  (10, .aload_n 0, 11, [0], []),
  (11, .dup, 12, [], []),
  (12, .getfield 220, 15, [], []),
  (15, .iconst 1, 16, [], [1]),
  (16, .iadd, 17, [], []),
  (17, .putfield 220, 20, [], []),
  (20, .return_, 21, [], [])]
theorem zo_X12_holds : ab_ok cX12_holds zp_X12_holds = true := by decide +kernel
def zg_X12_holds : ab_G := (zw_M, [], zf_X12, zc_X12, [], [], [])
theorem zm_X12_holds : ab_MG zg_X12_holds := ab_MGof (List.forall_mem_nil _) (List.forall_mem_nil _)
abbrev zr_X12_holds (Q : ab_R) : ab_K := ab_Run zg_X12_holds zp_X12_holds none 2 Q
set_option maxRecDepth 20000 in
theorem zv_X12_holds_0 {Q : ab_R} {M : ab_M} {N : ab_N} (l1 : Int32) (h : vp_in (M 0 56) 200 ∧ (let z1 : Nat → Int32 := upd (M 25) (M 0 56).toNatClampNeg l1; let z2 : Nat → Int32 := upd (M 0) 56 ((M 0 56) + (1 : Int32)); Q none (ab_u (ab_u M 25 z1) 0 z2) N)) : zr_X12_holds Q 0 [some (.ref 0), some (.int l1)] [] M N := ab_Run_s zm_X12_holds (sp := []) 15 h
theorem zE_X12_holds (as : List Value) (M : ab_M) (N : ab_N) (k : ab_R) (hT : zt_X12_holds as M N k) : ab_cs as ≤ 2 ∧ zr_X12_holds k 0 (ab_en as) [] M N := by
  obtain ⟨⟨h, c⟩, r, rfl, ⟨rfl, h1, h2⟩, hk⟩ := hT
  dsimp only at h1 h2 hk ⊢
  refine ⟨Nat.le_of_ble_eq_true rfl, zv_X12_holds_0 _ ?_⟩
  rw [h1, nI_clamp (show h < 2 ^ 31 by omega), nI_1]
  exact ⟨nI_in_ (by omega), hk _ _ _ ⟨rfl, rfl, rfl⟩⟩
abbrev zR_X12_holds : Room := { frames := 0, cells := 0, slots := 0, locals := 0 }
set_option maxRecDepth 20000 in
theorem zM_X12_holds (l : Launch) : ab_Met l zw_M vwCl zZ_M yX12_holds cX12_holds 2 none zR_X12_holds zt_X12_holds := ab_ofRun (G := zg_X12_holds) (P := zp_X12_holds) rfl zo_X12_holds (by decide +kernel) zl_cl zl_lamM zf_X12_ok ab_Tab_nil zc_X12_ok ab_Sta_nil (List.forall_mem_nil _) (List.forall_mem_nil _) zE_X12_holds
/-- a code comes -/
theorem zYR_put {M0 M M2 : ab_M} {w o0 : Nat} {K K2 : List Nat} {O : List Int32} {c : Int32} (h : zYR M0 M w o0 K O) (hM : ∀ q, q ≠ 0 → M2 q = (ab_u M 13 (upd (M 13) (200 * w + (o0 + O.length)) (zRc c))) q) (h0 : ∀ j, ¬ (50 ≤ j ∧ j ≤ 53) → ¬ (56 ≤ j ∧ j ≤ 58) → M2 0 j = M 0 j) (h56 : M2 0 56 = nI K2.length) (h57 : M2 0 57 = nI (zOp K2)) (h58 : M2 0 58 = nI (o0 + O.length + 1)) (hK : zHld (M 25) K2) (hV : ∀ s ∈ K2, s = 0 ∨ (11 ≤ s ∧ s ≤ 19)) (hl : K2.length + (o0 + O.length + 1) ≤ 160) : zYR M0 M2 w o0 K2 (O ++ [c]) := by
  obtain ⟨a1, a2, a3, a4, a5, a6, a7, a8, a9, a10, a11⟩ := h
  have ln : (O ++ [c]).length = O.length + 1 := by simp
  refine ⟨fun q x y z => by rw [hM q x, ab_u_ne _ _ y]; exact a1 q x y z, fun j x y => (h0 j x y).trans (a2 j x y), a3, a4, h56, h57, by rw [h58, ln, Nat.add_assoc], ?_, ?_, hV, by rw [ln]; omega⟩
  · rw [hM 25 (by decide), ab_u_ne _ _ (by decide)]; exact hK
  · rw [hM 13 (by decide), ab_u_eq, a9, List.map_append, zPut_app, List.length_map, show 200 * w + (o0 + O.length) = 200 * w + o0 + O.length by omega]
    rfl
/-- a sign waits -/
theorem zYR_hold {M0 M M2 : ab_M} {w o0 s : Nat} {K : List Nat} {O : List Int32} (h : zYR M0 M w o0 K O) (hM : ∀ q, q ≠ 0 → M2 q = (ab_u M 25 (upd (M 25) K.length (nI s))) q) (h0 : ∀ j, ¬ (50 ≤ j ∧ j ≤ 53) → ¬ (56 ≤ j ∧ j ≤ 58) → M2 0 j = M 0 j) (h56 : M2 0 56 = nI (K.length + 1)) (h57 : M2 0 57 = nI (zOp (s :: K))) (h58 : M2 0 58 = M 0 58) (hs : s = 0 ∨ (11 ≤ s ∧ s ≤ 19)) (hl : K.length + 1 + (o0 + O.length) ≤ 160) : zYR M0 M2 w o0 (s :: K) O := by
  obtain ⟨a1, a2, a3, a4, a5, a6, a7, a8, a9, a10, a11⟩ := h
  refine ⟨fun q x y z => by rw [hM q x, ab_u_ne _ _ z]; exact a1 q x y z, fun j x y => (h0 j x y).trans (a2 j x y), a3, a4, h56, h57, by rw [h58, a7], ?_, by rw [hM 13 (by decide), ab_u_ne _ _ (by decide), a9], fun z hz => ?_, by rw [List.length_cons]; omega⟩
  · rw [hM 25 (by decide), ab_u_eq]
    exact ⟨upd_eq _ _ _, zHld_upd a8 (Nat.le_refl _)⟩
  · rcases List.mem_cons.mp hz with e | e
    · rw [e]; exact hs
    · exact a10 z e
def zt_X12_unwinds : ab_T := ab_lq (α := ab_M × Nat × Nat × List Nat × List Int32 × Nat) (fun x r M _ => r = [.int (nI x.2.2.2.2.2)] ∧ zYR x.1 M x.2.1 x.2.2.1 x.2.2.2.1 x.2.2.2.2.1 ∧ 1 ≤ x.2.2.2.2.2 ∧ x.2.2.2.2.2 ≤ 7)
  (fun x M N o M2 N2 => N2 = N ∧ o = none ∧ zYR x.1 M2 x.2.1 x.2.2.1 (zUw x.2.2.2.2.2 x.2.2.2.1 x.2.2.2.2.1).1 (zUw x.2.2.2.2.2 x.2.2.2.1 x.2.2.2.2.1).2 ∧ ∀ j, 50 ≤ j → j ≤ 53 → M2 0 j = M 0 j)
theorem zt_X12_unwinds_mono : ab_mono zt_X12_unwinds := ab_lq_mono _ _
theorem zV_X12_unwinds : ab_recv zw_M vwCl RX12 zt_X12_unwinds := ab_lq_v
def zp_X12_unwinds : ab_P := [(0, .aload_n 0, 1, [0], []),
  (1, .getfield 220, 4, [], []),
  (4, .ifCond .le 75, 7, [79], []),
  (7, .aload_n 0, 8, [0], []),
  (8, .getfield 135, 11, [], []),
  (11, .aload_n 0, 12, [0], []),
  (12, .getfield 220, 15, [], []),
  (15, .iconst 1, 16, [], [1]),
  (16, .isub, 17, [], []),
  (17, .iaload, 18, [], []),
  (18, .invokestatic 223, 21, [], []),
  (21, .iload_n 1, 22, [1], []),
  (22, .if_icmp .lt 57, 25, [79], []),
  (25, .aload_n 0, 26, [0], []),
  (26, .dup, 27, [], []),
  (27, .getfield 220, 30, [], []),
  (30, .iconst 1, 31, [], [1]),
  (31, .isub, 32, [], []),
  (32, .putfield 220, 35, [], []),
  (35, .aload_n 0, 36, [0], []),
  (36, .getfield 135, 39, [], []),
  (39, .aload_n 0, 40, [0], []),
  (40, .getfield 220, 43, [], []),
  (43, .iaload, 44, [], []),
  (44, .istore_n 2, 45, [2], []),
  (45, .aload_n 0, 46, [0], []),
  (46, .dup, 47, [], []),
  (47, .getfield 226, 50, [], []),
  (50, .iload_n 2, 51, [2], []),
  (51, .bipush 13, 53, [], [13]),
  (53, .if_icmp .eq 9, 56, [62], []),
  (56, .iload_n 2, 57, [2], []),
  (57, .bipush 19, 59, [], [19]),
  (59, .if_icmp .ne 7, 62, [66], []),
  (62, .iconst 1, 63, [], [1]),
  (63, .goto 4, 66, [67], []),
  (66, .iconst 0, 67, [], [0]),
  (67, .isub, 68, [], []),
  (68, .putfield 226, 71, [], []),
  (71, .aload_n 0, 72, [0], []),
  (72, .iload_n 2, 73, [2], []),
  (73, .invokevirtual 229, 76, [], []),
  (76, .goto (-76), 79, [0], []),
  (79, .return_, 80, [], [])]
theorem zo_X12_unwinds : ab_ok cX12_unwinds zp_X12_unwinds = true := by decide +kernel
def zg_X12_unwinds : ab_G := (zw_M, [], zf_X12, zc_X12, [], [(229, 2, zt_X12_puts)], [(223, 1, zt_X12_rank)])
theorem zm_X12_unwinds : ab_MG zg_X12_unwinds := ab_MGof (List.forall_mem_cons.mpr ⟨zt_X12_puts_mono, List.forall_mem_nil _⟩) (List.forall_mem_cons.mpr ⟨ab_pure_mono _, List.forall_mem_nil _⟩)
abbrev zr_X12_unwinds (Q : ab_R) : ab_K := ab_Run zg_X12_unwinds zp_X12_unwinds none 3 Q
set_option maxRecDepth 20000 in
theorem zv_X12_unwinds_0 {Q : ab_R} {M : ab_M} {N : ab_N} (l1 : Int32) (h : ((M 0 56) ≤ 0 → Q none M N) ∧ (¬ ((M 0 56) ≤ 0) → vp_in ((M 0 56) - (1 : Int32)) 200 ∧ (((zrk (M 25 ((M 0 56) - (1 : Int32)).toNatClampNeg)) < l1 → Q none M N) ∧ (¬ ((zrk (M 25 ((M 0 56) - (1 : Int32)).toNatClampNeg)) < l1) → let z1 : Nat → Int32 := upd (M 0) 56 ((M 0 56) - (1 : Int32)); vp_in (z1 56) 200 ∧ (((M 25 (z1 56).toNatClampNeg) = (13 : Int32) → let z2 : Nat → Int32 := upd (z1) 57 ((z1 57) - (1 : Int32)); zt_X12_puts [.ref 0, .int (M 25 (z1 56).toNatClampNeg)] (ab_u (ab_u M 0 z1) 0 z2) N (fun r M2 N2 => zr_X12_unwinds Q 76 [some (.ref 0), some (.int l1), none] (ab_ol r []) M2 N2)) ∧ (¬ ((M 25 (z1 56).toNatClampNeg) = (13 : Int32)) → ((M 25 (z1 56).toNatClampNeg) = (19 : Int32) → let z3 : Nat → Int32 := upd (z1) 57 ((z1 57) - (1 : Int32)); zt_X12_puts [.ref 0, .int (M 25 (z1 56).toNatClampNeg)] (ab_u (ab_u M 0 z1) 0 z3) N (fun r M2 N2 => zr_X12_unwinds Q 76 [some (.ref 0), some (.int l1), none] (ab_ol r []) M2 N2)) ∧ (¬ ((M 25 (z1 56).toNatClampNeg) = (19 : Int32)) → let z4 : Nat → Int32 := upd (z1) 57 ((z1 57) - (0 : Int32)); zt_X12_puts [.ref 0, .int (M 25 (z1 56).toNatClampNeg)] (ab_u (ab_u M 0 z1) 0 z4) N (fun r M2 N2 => zr_X12_unwinds Q 76 [some (.ref 0), some (.int l1), none] (ab_ol r []) M2 N2)))))))) : zr_X12_unwinds Q 0 [some (.ref 0), some (.int l1), none] [] M N := ab_Run_s zm_X12_unwinds (sp := [(0, [true, true, false]), (76, [true, true, false])]) 46 h
set_option maxRecDepth 20000 in
theorem zv_X12_unwinds_76 {Q : ab_R} {M : ab_M} {N : ab_N} (l1 : Int32) (h : zr_X12_unwinds Q 0 [some (.ref 0), some (.int l1), none] [] M N) : zr_X12_unwinds Q 76 [some (.ref 0), some (.int l1), none] [] M N := ab_Run_s zm_X12_unwinds (sp := [(0, [true, true, false]), (76, [true, true, false])]) 46 h
theorem zL_X12_unwinds {Q : ab_R} {N : ab_N} {M0 : ab_M} {w o0 r : Nat} (hr1 : 1 ≤ r) (hr7 : r ≤ 7) {K0 : List Nat} {O0 : List Int32} {Mb : ab_M} (kk : ∀ M2, zYR M0 M2 w o0 (zUw r K0 O0).1 (zUw r K0 O0).2 → (∀ j, 50 ≤ j → j ≤ 53 → M2 0 j = Mb 0 j) → Q none M2 N) : ∀ (K : List Nat) (O : List Int32) (M : ab_M), zYR M0 M w o0 K O → zUw r K O = zUw r K0 O0 → (∀ j, 50 ≤ j → j ≤ 53 → M 0 j = Mb 0 j) → zr_X12_unwinds Q 0 [some (.ref 0), some (.int (nI r)), none] [] M N := by
  intro K
  induction K with
  | nil =>
    intro O M h hu hp
    refine zv_X12_unwinds_0 _ ⟨fun _ => kk M (by rw [← hu]; exact h) hp, fun c => absurd ?_ c⟩
    rw [h.2.2.2.2.1]
    decide
  | cons s K ih =>
    intro O M h hu hp
    obtain ⟨a1, a2, a3, a4, a5, a6, a7, a8, a9, a10, a11⟩ := id h
    have hs := a10 s List.mem_cons_self
    have hs20 : s < 20 := by omega
    rw [List.length_cons] at a5 a11
    have e1 : nI (K.length + 1) - 1 = nI K.length := nI_pred _
    refine zv_X12_unwinds_0 _ ?_
    rw [a5, e1, nI_clamp (show K.length < 2 ^ 31 by omega), a8.1, zrk_n s hs20]
    refine ⟨fun c => absurd c (nI_nle (by omega) (by omega)), fun _ => ⟨nI_in_ (by omega), fun c => ?_, fun c => ?_⟩⟩
    · have lt : zRank s < r := (nI_ltI (by have := zRank_le s; omega) (by omega)).mp c
      refine kk M ?_ hp
      rw [← hu, zUw_low (show zLow r (s :: K) from lt)]
      exact h
    · have ge : r ≤ zRank s := Nat.not_lt.mp fun z => c (nI_lt z (by omega))
      have s0 : ¬ s = 0 := zRank_0 (by omega)
      have s11 : 11 ≤ s := (hs.resolve_left s0).1
      have ec : zRc (zCo s) = nI s := zRc_co s hs20 s11
      intro z1
      have z56 : z1 56 = nI K.length := by simp only [z1]; rw [upd_eq]
      have zo : ∀ j, j ≠ 56 → z1 j = M 0 j := fun j hj => by simp only [z1]; rw [upd_ne _ _ hj]
      clear_value z1
      have opK : zOp (s :: K) = (if s = 0 ∨ s = 13 ∨ s = 19 then 1 else 0) + zOp K := rfl
      have step : ∀ (z2 : Nat → Int32), z2 56 = nI K.length → z2 57 = nI (zOp K) → (∀ j, j ≠ 56 → j ≠ 57 → z2 j = M 0 j) → zt_X12_puts [.ref 0, .int (nI s)] (ab_u (ab_u M 0 z1) 0 z2) N (fun r_1 M2 N2 => zr_X12_unwinds Q 76 [some (.ref 0), some (.int (nI r)), none] (ab_ol r_1 []) M2 N2) := by
        intro z2 g56 g57 go
        rw [ab_u_u]
        refine ⟨(w, o0 + O.length, nI s), _, rfl, ⟨rfl, by rw [ab_u_eq, go 23 (by decide) (by decide), a2 23 (by decide) (by decide), a3], a4, by rw [ab_u_eq, go 58 (by decide) (by decide), a7], by dsimp only; omega⟩, ?_⟩
        rintro o M2 N2 ⟨rfl, rfl, rfl⟩
        refine zv_X12_unwinds_76 _ (ih (O ++ [zCo s]) _ (zYR_put (K2 := K) (c := zCo s) h (fun q hq => ?_) (fun j x y => ?_) ?_ ?_ ?_ a8.2 (fun z hz => a10 z (List.mem_cons_of_mem _ hz)) (by omega)) (by rw [← hu, zUw_top ge]) (fun j x y => ?_))
        · dsimp only
          rw [ab_u_ne _ _ hq]
          by_cases e : q = 13
          · rw [e, ab_u_eq, ab_u_eq, ab_u_ne _ _ (by decide), ec]
          · rw [ab_u_ne _ _ e, ab_u_ne _ _ e, ab_u_ne _ _ hq]
        · dsimp only
          rw [ab_u_eq, ab_u_eq, upd_ne _ _ (by omega), go j (by omega) (by omega)]
        · dsimp only
          rw [ab_u_eq, ab_u_eq, upd_ne _ _ (by decide), g56]
        · dsimp only
          rw [ab_u_eq, ab_u_eq, upd_ne _ _ (by decide), g57]
        · dsimp only
          rw [ab_u_eq, upd_eq]
        · dsimp only
          rw [ab_u_eq, ab_u_eq, upd_ne _ _ (by omega), go j (by omega) (by omega)]
          exact hp j x y
      rw [z56, nI_clamp (show K.length < 2 ^ 31 by omega), a8.1]
      have ne : ∀ x : Nat, x < 20 → (nI s = nI x ↔ s = x) := fun x hx => nI_eq (by omega) (by omega)
      refine ⟨nI_in_ (by omega), fun c13 => ?_, fun c13 => ⟨fun c19 => ?_, fun c19 => ?_⟩⟩
      · have e : s = 13 := (ne 13 (by decide)).mp c13
        intro z2
        refine step z2 (by simp only [z2]; rw [upd_ne _ _ (by decide), z56]) ?_ (fun j x y => by simp only [z2]; rw [upd_ne _ _ y, zo j x])
        simp only [z2]
        rw [upd_eq, zo 57 (by decide), a6, opK, if_pos (Or.inr (Or.inl e)), Nat.add_comm]
        exact nI_pred _
      · have e : s = 19 := (ne 19 (by decide)).mp c19
        intro z3
        refine step z3 (by simp only [z3]; rw [upd_ne _ _ (by decide), z56]) ?_ (fun j x y => by simp only [z3]; rw [upd_ne _ _ y, zo j x])
        simp only [z3]
        rw [upd_eq, zo 57 (by decide), a6, opK, if_pos (Or.inr (Or.inr e)), Nat.add_comm]
        exact nI_pred _
      · have e1 : ¬ s = 13 := fun z => c13 (by rw [z]; rfl)
        have e2 : ¬ s = 19 := fun z => c19 (by rw [z]; rfl)
        intro z4
        refine step z4 (by simp only [z4]; rw [upd_ne _ _ (by decide), z56]) ?_ (fun j x y => by simp only [z4]; rw [upd_ne _ _ y, zo j x])
        simp only [z4]
        rw [upd_eq, zo 57 (by decide), a6, opK, if_neg (by omega), Nat.zero_add]
        exact Int32.sub_zero _
theorem zE_X12_unwinds (as : List Value) (M : ab_M) (N : ab_N) (k : ab_R) (hT : zt_X12_unwinds as M N k) : ab_cs as ≤ 3 ∧ zr_X12_unwinds k 0 (ab_en as) [] M N := by
  obtain ⟨⟨M0, w, o0, K, O, r⟩, q, rfl, ⟨rfl, h, h1, h7⟩, hk⟩ := hT
  dsimp only at h h1 h7 hk ⊢
  refine ⟨Nat.le_of_ble_eq_true rfl, ab_Run_up _ _ _ _ _ _ (ab_Le_pad [some (.ref 0), some (.int (nI r))] 1) ?_⟩
  exact zL_X12_unwinds h1 h7 (fun M2 a b => hk _ _ _ ⟨rfl, rfl, a, b⟩) K O M h rfl (fun _ _ _ => rfl)
abbrev zR_X12_unwinds : Room := { frames := 1, cells := 0, slots := 0, locals := 21 }
set_option maxRecDepth 20000 in
theorem zM_X12_unwinds (l : Launch) : ab_Met l zw_M vwCl zZ_M yX12_unwinds cX12_unwinds 3 none zR_X12_unwinds zt_X12_unwinds := ab_ofRun (G := zg_X12_unwinds) (P := zp_X12_unwinds) rfl zo_X12_unwinds (by decide +kernel) zl_cl zl_lamM zf_X12_ok ab_Tab_nil zc_X12_ok ab_Sta_nil (List.forall_mem_cons.mpr ⟨ab_callV zZ_M_ok (zM_X12_puts l) (ab_in 1247 (by decide +kernel) rfl) (ab_in 1244 (by decide +kernel) rfl) (ab_in 1246 (by decide +kernel) rfl) (ab_inS (List.mem_of_getElem? (i := 31) (by decide +kernel)) rfl) (ab_in 17 (by decide +kernel) rfl) (by unfold ab_yok; decide +kernel) ⟨rfl, rfl⟩ (by decide) zV_X12_puts, List.forall_mem_nil _⟩) (List.forall_mem_cons.mpr ⟨ab_callS zZ_M_ok (zM_X12_rank l) (ab_in 1254 (by decide +kernel) rfl) (ab_in 1252 (by decide +kernel) rfl) (ab_in 1253 (by decide +kernel) rfl) (ab_in 17 (by decide +kernel) rfl) (by unfold ab_yok; decide +kernel) ⟨rfl, rfl⟩ (by decide), List.forall_mem_nil _⟩) zE_X12_unwinds
def zt_X12_opensOne : ab_T := ab_lq (α := ab_M × Nat × Nat × List Nat × List Int32 × Nat) (fun x r M _ => r = [.int (nI x.2.2.2.2.2)] ∧ zYR x.1 M x.2.1 x.2.2.1 x.2.2.2.1 x.2.2.2.2.1 ∧ (x.2.2.2.2.2 = 0 ∨ x.2.2.2.2.2 = 13 ∨ x.2.2.2.2.2 = 19) ∧ x.2.2.2.1.length + 1 + (x.2.2.1 + x.2.2.2.2.1.length) ≤ 160)
  (fun x M N o M2 N2 => N2 = N ∧ (∀ j, 50 ≤ j → j ≤ 53 → M2 0 j = M 0 j) ∧ ((zOp x.2.2.2.1 = 5 ∧ o = some (.int 0) ∧ M2 = M) ∨ (¬ zOp x.2.2.2.1 = 5 ∧ o = some (.int 1) ∧ zYR x.1 M2 x.2.1 x.2.2.1 (x.2.2.2.2.2 :: x.2.2.2.1) x.2.2.2.2.1)))
theorem zt_X12_opensOne_mono : ab_mono zt_X12_opensOne := ab_lq_mono _ _
theorem zV_X12_opensOne : ab_recv zw_M vwCl RX12 zt_X12_opensOne := ab_lq_v
def zp_X12_opensOne : ab_P := [(0, .aload_n 0, 1, [0], []),
  (1, .getfield 226, 4, [], []),
  (4, .iconst 5, 5, [], [5]),
  (5, .if_icmp .ne 5, 8, [10], []),
  (8, .iconst 0, 9, [], [0]),
  (9, .ireturn, 10, [], []),
  (10, .aload_n 0, 11, [0], []),
  (11, .dup, 12, [], []),
  (12, .getfield 226, 15, [], []),
  (15, .iconst 1, 16, [], [1]),
  (16, .iadd, 17, [], []),
  (17, .putfield 226, 20, [], []),
  (20, .aload_n 0, 21, [0], []),
  (21, .iload_n 1, 22, [1], []),
  (22, .invokevirtual 233, 25, [], []),
  (25, .iconst 1, 26, [], [1]),
  (26, .ireturn, 27, [], [])]
theorem zo_X12_opensOne : ab_ok cX12_opensOne zp_X12_opensOne = true := by decide +kernel
def zg_X12_opensOne : ab_G := (zw_M, [], zf_X12, zc_X12, [], [(233, 2, zt_X12_holds)], [])
theorem zm_X12_opensOne : ab_MG zg_X12_opensOne := ab_MGof (List.forall_mem_cons.mpr ⟨zt_X12_holds_mono, List.forall_mem_nil _⟩) (List.forall_mem_nil _)
abbrev zr_X12_opensOne (Q : ab_R) : ab_K := ab_Run zg_X12_opensOne zp_X12_opensOne (some .boolean) 2 Q
set_option maxRecDepth 20000 in
theorem zv_X12_opensOne_0 {Q : ab_R} {M : ab_M} {N : ab_N} (l1 : Int32) (h : ((M 0 57) = (5 : Int32) → narrow .boolean (.int (0 : Int32)) = .int (0 : Int32) ∧ Q (some (.int (0 : Int32))) M N) ∧ (¬ ((M 0 57) = (5 : Int32)) → let z1 : Nat → Int32 := upd (M 0) 57 ((M 0 57) + (1 : Int32)); zt_X12_holds [.ref 0, .int l1] (ab_u M 0 z1) N (fun r M2 N2 => zr_X12_opensOne Q 25 [none, none] (ab_ol r []) M2 N2))) : zr_X12_opensOne Q 0 [some (.ref 0), some (.int l1)] [] M N := ab_Run_s zm_X12_opensOne (sp := [(25, [false, false])]) 19 h
set_option maxRecDepth 20000 in
theorem zv_X12_opensOne_25 {Q : ab_R} {M : ab_M} {N : ab_N}  (h : narrow .boolean (.int (1 : Int32)) = .int (1 : Int32) ∧ Q (some (.int (1 : Int32))) M N) : zr_X12_opensOne Q 25 [none, none] [] M N := ab_Run_s zm_X12_opensOne (sp := [(25, [false, false])]) 19 h
theorem zE_X12_opensOne (as : List Value) (M : ab_M) (N : ab_N) (k : ab_R) (hT : zt_X12_opensOne as M N k) : ab_cs as ≤ 2 ∧ zr_X12_opensOne k 0 (ab_en as) [] M N := by
  obtain ⟨⟨M0, w, o0, K, O, s⟩, q, rfl, ⟨rfl, h, hs, hl⟩, hk⟩ := hT
  dsimp only at h hs hl hk ⊢
  obtain ⟨a1, a2, a3, a4, a5, a6, a7, a8, a9, a10, a11⟩ := id h
  have ho := zOp_le K
  refine ⟨Nat.le_of_ble_eq_true rfl, zv_X12_opensOne_0 _ ?_⟩
  rw [a6, nI_1]
  refine ⟨fun c => ⟨ab_n0, hk _ _ _ ⟨rfl, fun _ _ _ => rfl, Or.inl ⟨(nI_eq (by omega) (by decide)).mp (show nI (zOp K) = nI 5 from c), rfl, rfl⟩⟩⟩, fun c => ?_⟩
  have n5 : ¬ zOp K = 5 := fun z => c (by rw [z]; rfl)
  intro z1
  refine ⟨(K.length, nI s), _, rfl, ⟨rfl, by rw [ab_u_eq]; simp only [z1]; rw [upd_ne _ _ (by decide), a5], by dsimp only; omega⟩, ?_⟩
  rintro o M2 N2 ⟨rfl, rfl, rfl⟩
  refine zv_X12_opensOne_25 ⟨ab_n1, hk _ _ _ ⟨rfl, fun j x y => ?_, Or.inr ⟨n5, rfl, zYR_hold (s := s) h (fun q hq => ?_) (fun j x y => ?_) ?_ ?_ ?_ (by omega) hl⟩⟩⟩
  · dsimp only
    rw [ab_u_eq, ab_u_eq, upd_ne _ _ (by omega)]
    simp only [z1]
    rw [upd_ne _ _ (by omega)]
  · dsimp only
    rw [ab_u_ne _ _ hq]
    by_cases e : q = 25
    · rw [e, ab_u_eq, ab_u_eq, ab_u_ne _ _ (by decide)]
    · rw [ab_u_ne _ _ e, ab_u_ne _ _ e, ab_u_ne _ _ hq]
  · dsimp only
    rw [ab_u_eq, ab_u_eq, upd_ne _ _ (by omega)]
    simp only [z1]
    rw [upd_ne _ _ (by omega)]
  · dsimp only
    rw [ab_u_eq, upd_eq]
  · dsimp only
    rw [ab_u_eq, ab_u_eq, upd_ne _ _ (by decide)]
    simp only [z1]
    rw [upd_eq]
    show _ = nI ((if s = 0 ∨ s = 13 ∨ s = 19 then 1 else 0) + zOp K)
    rw [if_pos hs, Nat.add_comm]
  · dsimp only
    rw [ab_u_eq, ab_u_eq, upd_ne _ _ (by decide)]
    simp only [z1]
    rw [upd_ne _ _ (by decide)]
abbrev zR_X12_opensOne : Room := { frames := 1, cells := 0, slots := 0, locals := 21 }
set_option maxRecDepth 20000 in
theorem zM_X12_opensOne (l : Launch) : ab_Met l zw_M vwCl zZ_M yX12_opensOne cX12_opensOne 2 (some .boolean) zR_X12_opensOne zt_X12_opensOne := ab_ofRun (G := zg_X12_opensOne) (P := zp_X12_opensOne) rfl zo_X12_opensOne (by decide +kernel) zl_cl zl_lamM zf_X12_ok ab_Tab_nil zc_X12_ok ab_Sta_nil (List.forall_mem_cons.mpr ⟨ab_callV zZ_M_ok (zM_X12_holds l) (ab_in 1262 (by decide +kernel) rfl) (ab_in 1259 (by decide +kernel) rfl) (ab_in 1261 (by decide +kernel) rfl) (ab_inS (List.mem_of_getElem? (i := 34) (by decide +kernel)) rfl) (ab_in 17 (by decide +kernel) rfl) (by unfold ab_yok; decide +kernel) ⟨rfl, rfl⟩ (by decide) zV_X12_holds, List.forall_mem_nil _⟩) (List.forall_mem_nil _) zE_X12_opensOne
