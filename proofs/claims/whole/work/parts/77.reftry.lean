/-! the reference: spare, quick, bestLook *)
-/
def zRl (ne : Int32) (s : Int32 × Int64) (a : Int32) (x : Int64) : Prop := (s.1 = -1 ∧ a = ne ∧ x = 0 ∧ s.2 = 1000000000000000000) ∨ (¬ s.1 = -1 ∧ ¬ s.1 = ne ∧ a = s.1 ∧ x = s.2)
theorem zRl_0 (ne : Int32) : zRl ne (-1, 1000000000000000000) ne 0 := Or.inl ⟨rfl, rfl, rfl, rfl⟩
theorem zRl_step {ne : Int32} {s : Int32 × Int64} {a : Int32} {x : Int64} {i : Int32} {y : Int64} (h : zRl ne s a x) (hi : ¬ i = -1) (hn : ¬ i = ne) (hy : y < 1000000000000000000) : (a = ne → zRl ne (zOf s i y) i y) ∧ (¬ a = ne → (0 ≤ lg_cmp y x → zRl ne (zOf s i y) a x) ∧ (¬ 0 ≤ lg_cmp y x → zRl ne (zOf s i y) i y)) := by
  rcases h with ⟨h1, h2, h3, h4⟩ | ⟨h1, h2, h3, h4⟩
  · have e : zOf s i y = (i, y) := if_pos (by rw [h4]; exact hy)
    refine ⟨fun _ => Or.inr ?_, fun c => absurd h2 c⟩
    rw [e]
    exact ⟨hi, hn, rfl, rfl⟩
  · refine ⟨fun c => absurd (h3.symm.trans c) h2, fun _ => ⟨fun c => Or.inr ?_, fun c => Or.inr ?_⟩⟩
    · rw [zOf_cmp, ← h4, if_pos c]
      exact ⟨h1, h2, h3, h4⟩
    · rw [zOf_cmp, ← h4, if_neg c]
      exact ⟨hi, hn, rfl, rfl⟩
/-- with no one named, the same sign as the class's -/
theorem zRl_m1 {s : Int32 × Int64} {a : Int32} {x : Int64} (h : zRl (-1) s a x) : a = s.1 := by
  rcases h with ⟨h1, h2, -⟩ | ⟨-, -, h3, -⟩
  · rw [h1, h2]
  · exact h3
theorem zRA {d M : ab_M} {N : ab_N} {k : ab_R} (hR : zRN d M) (hk : ∀ M2 N2, zFr zSL M M2 → zNfr [0, 32] N N2 → k (some (.long (zAll d))) M2 N2) : zt_X12_runAll [.ref 0, .int (0 : Int32)] M N k := by
  refine ⟨(d, 0), _, rfl, ⟨rfl, hR, show 0 ≤ 2 by decide⟩, ?_⟩
  rintro o M2 N2 ⟨g1, g2, rfl⟩
  exact hk M2 N2 g1 g2
theorem zI0_R {d M : ab_M} (h : zRN d M) : zI0 d := h.2.1
def zt_X12_spare : ab_T := ab_lq (α := ab_M) (fun x r M _ => r = [] ∧ zRN x M ∧ M 0 30 = -1)
  (fun x M N o M2 N2 => zFr zSL M M2 ∧ zNfr [0, 32] N N2 ∧ o = some (.int (zSpS x (zMen x)).1))
theorem zt_X12_spare_mono : ab_mono zt_X12_spare := ab_lq_mono _ _
theorem zV_X12_spare : ab_recv zw_M vwCl RX12 zt_X12_spare := ab_lq_v
def zp_X12_spare : ab_P := [(0, .iconst (-1), 1, [], [(-1)]),
  (1, .istore_n 1, 2, [1], []),
  (2, .lconst 0, 3, [0], []),
  (3, .lstore_n 2, 4, [2], []),
  (4, .iconst 0, 5, [], [0]),
  (5, .istore 4, 7, [], []),
  (7, .iload 4, 9, [], []),
  (9, .aload_n 0, 10, [0], []),
  (10, .getfield 179, 13, [], []),
  (13, .if_icmp .ge 40, 16, [53], []),
  (16, .aload_n 0, 17, [0], []),
  (17, .iload 4, 19, [], []),
  (19, .putfield 77, 22, [], []),
  (22, .aload_n 0, 23, [0], []),
  (23, .iconst 0, 24, [], [0]),
  (24, .invokevirtual 337, 27, [], []),
  (27, .lstore 5, 29, [], []),
  (29, .iload_n 1, 30, [1], []),
  (30, .iconst (-1), 31, [], [(-1)]),
  (31, .if_icmp .eq 10, 34, [41], []),
  (34, .lload 5, 36, [], []),
  (36, .lload_n 2, 37, [2], []),
  (37, .lcmp, 38, [], []),
  (38, .ifCond .ge 9, 41, [47], []),
  (41, .iload 4, 43, [], []),
  (43, .istore_n 1, 44, [1], []),
  (44, .lload 5, 46, [], []),
  (46, .lstore_n 2, 47, [2], []),
  (47, .iinc 4 1, 50, [], [1]),
  (50, .goto (-43), 53, [7], []),
  (53, .aload_n 0, 54, [0], []),
  (54, .iconst (-1), 55, [], [(-1)]),
  (55, .putfield 77, 58, [], []),
  (58, .iload_n 1, 59, [1], []),
  (59, .ireturn, 60, [], [])]
theorem zo_X12_spare : ab_ok cX12_spare zp_X12_spare = true := by decide +kernel
def zg_X12_spare : ab_G := (zw_M, [], zf_X12, zc_X12, [], [(337, 2, zt_X12_runAll)], [])
theorem zm_X12_spare : ab_MG zg_X12_spare := ab_MGof (List.forall_mem_cons.mpr ⟨zt_X12_runAll_mono, List.forall_mem_nil _⟩) (List.forall_mem_nil _)
abbrev zr_X12_spare (Q : ab_R) : ab_K := ab_Run zg_X12_spare zp_X12_spare (some .int) 7 Q
set_option maxRecDepth 20000 in
theorem zv_X12_spare_0 {Q : ab_R} {M : ab_M} {N : ab_N}  (h : zr_X12_spare Q 7 [some (.ref 0), some (.int (-1 : Int32)), some (.long (0 : Int64)), none, some (.int (0 : Int32)), none, none] [] M N) : zr_X12_spare Q 0 [some (.ref 0)] [] M N := ab_Run_s zm_X12_spare (sp := [(7, [true, true, true, false, true, false, false]), (27, [true, true, true, false, true, false, false])]) 37 h
set_option maxRecDepth 20000 in
theorem zv_X12_spare_7 {Q : ab_R} {M : ab_M} {N : ab_N} (l1 : Int32) (l2 : Int64) (l4 : Int32) (h : ((M 0 12) ≤ l4 → let z1 : Nat → Int32 := upd (M 0) 30 (-1 : Int32); Q (some (.int l1)) (ab_u M 0 z1) N) ∧ (¬ ((M 0 12) ≤ l4) → let z2 : Nat → Int32 := upd (M 0) 30 l4; zt_X12_runAll [.ref 0, .int (0 : Int32)] (ab_u M 0 z2) N (fun r M2 N2 => zr_X12_spare Q 27 [some (.ref 0), some (.int l1), some (.long l2), none, some (.int l4), none, none] (ab_ol r []) M2 N2))) : zr_X12_spare Q 7 [some (.ref 0), some (.int l1), some (.long l2), none, some (.int l4), none, none] [] M N := ab_Run_s zm_X12_spare (sp := [(7, [true, true, true, false, true, false, false]), (27, [true, true, true, false, true, false, false])]) 37 h
set_option maxRecDepth 20000 in
theorem zv_X12_spare_27 {Q : ab_R} {M : ab_M} {N : ab_N} (l1 : Int32) (l2 : Int64) (l4 : Int32) (s0 : Int64) (h : (l1 = (-1 : Int32) → zr_X12_spare Q 7 [some (.ref 0), some (.int l4), some (.long s0), none, some (.int (l4 + (1 : Int32))), none, none] [] M N) ∧ (¬ (l1 = (-1 : Int32)) → (0 ≤ (lg_cmp s0 l2) → zr_X12_spare Q 7 [some (.ref 0), some (.int l1), some (.long l2), none, some (.int (l4 + (1 : Int32))), none, none] [] M N) ∧ (¬ (0 ≤ (lg_cmp s0 l2)) → zr_X12_spare Q 7 [some (.ref 0), some (.int l4), some (.long s0), none, some (.int (l4 + (1 : Int32))), none, none] [] M N))) : zr_X12_spare Q 27 [some (.ref 0), some (.int l1), some (.long l2), none, some (.int l4), none, none] [.long s0] M N := ab_Run_s zm_X12_spare (sp := [(7, [true, true, true, false, true, false, false]), (27, [true, true, true, false, true, false, false])]) 37 h
theorem zL_X12_spare {Q : ab_R} {d M0 : ab_M} {N0 : ab_N} (hR : zRN d M0) (h30 : M0 0 30 = -1) (hk : ∀ M N, zFr zSL M0 M → zNfr [0, 32] N0 N → Q (some (.int (zSpS d (zMen d)).1)) M N) : ∀ (r m : Nat) (M : ab_M) (N : ab_N) (a x : Int32) (y : Int64), m + r = zMen d → zFr (0 :: zSL) M0 M → M 0 = upd (M0 0) 30 x → zNfr [0, 32] N0 N → zRl (-1) (zSpS d m) a y → zr_X12_spare Q 7 [some (.ref 0), some (.int a), some (.long y), none, some (.int (nI m)), none, none] [] M N := by
  obtain ⟨n7, p8, n12, m5, n0, h1, h12, -⟩ := zNI_n hR
  intro r
  induction r with
  | zero =>
    intro m M N a x y hr hF e0 hN hl
    have e : m = zMen d := by omega
    subst e
    have n12 : M 0 12 = nI (zMen d) := by rw [e0, upd_ne _ _ (by decide)]; exact n12
    refine zv_X12_spare_7 _ _ _ ⟨fun _ => ?_, fun c => absurd (by rw [n12]; exact nI_le (Nat.le_refl _) (by omega)) c⟩
    intro z1
    have ez : z1 = M0 0 := by simp only [z1]; rw [e0, upd_upd, ← h30, upd_same]
    rw [zRl_m1 hl]
    exact hk _ _ (zFr_back hF ez) hN
  | succ r ih =>
    intro m M N a x y hr hF e0 hN hl
    have n12 : M 0 12 = nI (zMen d) := by rw [e0, upd_ne _ _ (by decide)]; exact n12
    refine zv_X12_spare_7 _ _ _ ⟨fun c => absurd (by rw [← n12]; exact c) (nI_ge (a := m) (b := zMen d) (by omega) (by omega)), fun _ => ?_⟩
    intro z2
    have ez : z2 = upd (M0 0) 30 (nI m) := by simp only [z2]; rw [e0, upd_upd]
    clear_value z2
    subst ez
    have hR1 : zRN (zBlD d (nI m)) (ab_u M0 0 (upd (M0 0) 30 (nI m))) := zRN_blind hR (nI m)
    have hR2 : zRN (zBlD d (nI m)) (ab_u M 0 (upd (M0 0) 30 (nI m))) := zRN_zfr hR1 (zFr_same hF _) (by decide)
    refine zRA hR2 (fun M2 N2 f1 f2 => ?_)
    have es : zSpS d (m + 1) = zOf (zSpS d m) (nI m) (zAll (zBlD d (nI m))) := zFo_t
    obtain ⟨s1, s2⟩ := zRl_step (i := nI m) hl (nI_m1 (by omega)) (nI_m1 (by omega)) (zAll_lt hR2.2.1)
    have go := fun a2 y2 (q : zRl (-1) (zOf (zSpS d m) (nI m) (zAll (zBlD d (nI m)))) a2 y2) => ih (m + 1) M2 N2 a2 (nI m) y2 (by omega) (zFr_tr (zFr_u hF (by decide) _) (zFr_mono f1 (by decide))) (by rw [f1 0 (by decide), ab_u_eq]) (zNfr_tr hN f2) (by rw [es]; exact q)
    refine zv_X12_spare_27 _ _ _ _ ?_
    rw [nI_1]
    exact ⟨fun c => go _ _ (s1 c), fun c => ⟨fun c2 => go _ _ ((s2 c).1 c2), fun c2 => go _ _ ((s2 c).2 c2)⟩⟩
theorem zE_X12_spare (as : List Value) (M : ab_M) (N : ab_N) (k : ab_R) (hT : zt_X12_spare as M N k) : ab_cs as ≤ 7 ∧ zr_X12_spare k 0 (ab_en as) [] M N := by
  obtain ⟨d, q, rfl, ⟨rfl, hR, h30⟩, hk⟩ := hT
  refine ⟨Nat.le_of_ble_eq_true rfl, zv_X12_spare_0 ?_⟩
  exact zL_X12_spare hR h30 (fun M2 N2 a b => hk _ _ _ ⟨a, b, rfl⟩) (zMen d) 0 M N (-1) (M 0 30) 0 (by omega) (zFr_rf _ _) (by rw [upd_same]) (zNfr_rf _ _) (zRl_0 _)
abbrev zR_X12_spare : Room := { frames := 8, cells := 0, slots := 0, locals := 190 }
set_option maxRecDepth 20000 in
theorem zM_X12_spare (l : Launch) : ab_Met l zw_M vwCl zZ_M yX12_spare cX12_spare 7 (some .int) zR_X12_spare zt_X12_spare := ab_ofRun (G := zg_X12_spare) (P := zp_X12_spare) rfl zo_X12_spare (by decide +kernel) zl_cl zl_lamM zf_X12_ok ab_Tab_nil zc_X12_ok ab_Sta_nil (List.forall_mem_cons.mpr ⟨ab_callV zZ_M_ok (zM_X12_runAll l) (ab_in 1372 (by decide +kernel) rfl) (ab_in 1369 (by decide +kernel) rfl) (ab_in 1371 (by decide +kernel) rfl) (ab_inS (List.mem_of_getElem? (i := 50) (by decide +kernel)) rfl) (ab_in 17 (by decide +kernel) rfl) (by unfold ab_yok; decide +kernel) ⟨rfl, rfl⟩ (by decide) zV_X12_runAll, List.forall_mem_nil _⟩) (List.forall_mem_nil _) zE_X12_spare
def zt_X12_quick : ab_T := ab_lq (α := ab_M × Int32) (fun x r M _ => r = [.int x.2] ∧ zRN x.1 M)
  (fun x M N o M2 N2 => zFr zSL M M2 ∧ zNfr [0, 32] N N2 ∧ o = some (.int (zQkA x.1 x.2)))
theorem zt_X12_quick_mono : ab_mono zt_X12_quick := ab_lq_mono _ _
theorem zV_X12_quick : ab_recv zw_M vwCl RX12 zt_X12_quick := ab_lq_v
def zp_X12_quick : ab_P := [(0, .aload_n 0, 1, [0], []),
  (1, .iload_n 1, 2, [1], []),
  (2, .invokevirtual 268, 5, [], []),
  (5, .ifCond .ne 6, 8, [11], []),
  (8, .bipush (-5), 10, [], [(-5)]),
  (10, .ireturn, 11, [], []),
  (11, .aload_n 0, 12, [0], []),
  (12, .getfield 50, 15, [], []),
  (15, .iload_n 1, 16, [1], []),
  (16, .iaload, 17, [], []),
  (17, .istore_n 2, 18, [2], []),
  (18, .iconst 0, 19, [], [0]),
  (19, .istore_n 3, 20, [3], []),
  (20, .lconst 0, 21, [0], []),
  (21, .lstore 4, 23, [], []),
  (23, .iconst 1, 24, [], [1]),
  (24, .istore 6, 26, [], []),
  (26, .iload 6, 28, [], []),
  (28, .iconst 3, 29, [], [3]),
  (29, .if_icmp .gt 43, 32, [72], []),
  (32, .aload_n 0, 33, [0], []),
  (33, .getfield 50, 36, [], []),
  (36, .iload_n 1, 37, [1], []),
  (37, .iload 6, 39, [], []),
  (39, .iastore, 40, [], []),
  (40, .aload_n 0, 41, [0], []),
  (41, .iconst 0, 42, [], [0]),
  (42, .invokevirtual 337, 45, [], []),
  (45, .lstore 7, 47, [], []),
  (47, .iload_n 3, 48, [3], []),
  (48, .ifCond .eq 11, 51, [59], []),
  (51, .lload 7, 53, [], []),
  (53, .lload 4, 55, [], []),
  (55, .lcmp, 56, [], []),
  (56, .ifCond .ge 10, 59, [66], []),
  (59, .iload 6, 61, [], []),
  (61, .istore_n 3, 62, [3], []),
  (62, .lload 7, 64, [], []),
  (64, .lstore 4, 66, [], []),
  (66, .iinc 6 1, 69, [], [1]),
  (69, .goto (-43), 72, [26], []),
  (72, .aload_n 0, 73, [0], []),
  (73, .getfield 50, 76, [], []),
  (76, .iload_n 1, 77, [1], []),
  (77, .iload_n 2, 78, [2], []),
  (78, .iastore, 79, [], []),
  (79, .iload_n 3, 80, [3], []),
  (80, .ireturn, 81, [], [])]
theorem zo_X12_quick : ab_ok cX12_quick zp_X12_quick = true := by decide +kernel
def zg_X12_quick : ab_G := (zw_M, [], zf_X12, zc_X12, [], [(268, 2, zt_X12_isMan), (337, 2, zt_X12_runAll)], [])
theorem zm_X12_quick : ab_MG zg_X12_quick := ab_MGof (List.forall_mem_cons.mpr ⟨ab_pure_mono _, List.forall_mem_cons.mpr ⟨zt_X12_runAll_mono, List.forall_mem_nil _⟩⟩) (List.forall_mem_nil _)
abbrev zr_X12_quick (Q : ab_R) : ab_K := ab_Run zg_X12_quick zp_X12_quick (some .int) 9 Q
set_option maxRecDepth 20000 in
theorem zv_X12_quick_0 {Q : ab_R} {M : ab_M} {N : ab_N} (l1 : Int32) (h : ((ab_b (0 ≤ l1 ∧ l1 ≤ (M 0) 12 - 1)) = 0 → Q (some (.int (-5 : Int32))) M N) ∧ (¬ ((ab_b (0 ≤ l1 ∧ l1 ≤ (M 0) 12 - 1)) = 0) → vp_in l1 5 ∧ (zr_X12_quick Q 26 [some (.ref 0), some (.int l1), some (.int (M 9 l1.toNatClampNeg)), some (.int (0 : Int32)), some (.long (0 : Int64)), none, some (.int (1 : Int32)), none, none] [] M N))) : zr_X12_quick Q 0 [some (.ref 0), some (.int l1)] [] M N := ab_Run_s zm_X12_quick (sp := [(26, [true, true, true, true, true, false, true, false, false]), (45, [true, true, true, true, true, false, true, false, false])]) 50 h
set_option maxRecDepth 20000 in
theorem zv_X12_quick_26 {Q : ab_R} {M : ab_M} {N : ab_N} (l1 : Int32) (l2 : Int32) (l3 : Int32) (l4 : Int64) (l6 : Int32) (h : ((3 : Int32) < l6 → vp_in l1 5 ∧ (let z1 : Nat → Int32 := upd (M 9) l1.toNatClampNeg l2; Q (some (.int l3)) (ab_u M 9 z1) N)) ∧ (¬ ((3 : Int32) < l6) → vp_in l1 5 ∧ (let z2 : Nat → Int32 := upd (M 9) l1.toNatClampNeg l6; zt_X12_runAll [.ref 0, .int (0 : Int32)] (ab_u M 9 z2) N (fun r M2 N2 => zr_X12_quick Q 45 [some (.ref 0), some (.int l1), some (.int l2), some (.int l3), some (.long l4), none, some (.int l6), none, none] (ab_ol r []) M2 N2)))) : zr_X12_quick Q 26 [some (.ref 0), some (.int l1), some (.int l2), some (.int l3), some (.long l4), none, some (.int l6), none, none] [] M N := ab_Run_s zm_X12_quick (sp := [(26, [true, true, true, true, true, false, true, false, false]), (45, [true, true, true, true, true, false, true, false, false])]) 50 h
set_option maxRecDepth 20000 in
theorem zv_X12_quick_45 {Q : ab_R} {M : ab_M} {N : ab_N} (l1 : Int32) (l2 : Int32) (l3 : Int32) (l4 : Int64) (l6 : Int32) (s0 : Int64) (h : (l3 = 0 → zr_X12_quick Q 26 [some (.ref 0), some (.int l1), some (.int l2), some (.int l6), some (.long s0), none, some (.int (l6 + (1 : Int32))), none, none] [] M N) ∧ (¬ (l3 = 0) → (0 ≤ (lg_cmp s0 l4) → zr_X12_quick Q 26 [some (.ref 0), some (.int l1), some (.int l2), some (.int l3), some (.long l4), none, some (.int (l6 + (1 : Int32))), none, none] [] M N) ∧ (¬ (0 ≤ (lg_cmp s0 l4)) → zr_X12_quick Q 26 [some (.ref 0), some (.int l1), some (.int l2), some (.int l6), some (.long s0), none, some (.int (l6 + (1 : Int32))), none, none] [] M N))) : zr_X12_quick Q 45 [some (.ref 0), some (.int l1), some (.int l2), some (.int l3), some (.long l4), none, some (.int l6), none, none] [.long s0] M N := ab_Run_s zm_X12_quick (sp := [(26, [true, true, true, true, true, false, true, false, false]), (45, [true, true, true, true, true, false, true, false, false])]) 50 h
theorem zL_X12_quick {Q : ab_R} {d M0 : ab_M} {N0 : ab_N} {m : Nat} (hR : zRN d M0) (hm : m < zMen d) (hk : ∀ M N, zFr zSL M0 M → zNfr [0, 32] N0 N → Q (some (.int (zQkS d m 3).1)) M N) : ∀ (r v : Nat) (M : ab_M) (N : ab_N) (a x : Int32) (y : Int64), v + r = 3 → zFr (9 :: zSL) M0 M → M 9 = upd (d 28) m x → zNfr [0, 32] N0 N → zRl 0 (zQkS d m v) a y → (0 < v → ¬ (zQkS d m v).1 = -1) → zr_X12_quick Q 26 [some (.ref 0), some (.int (nI m)), some (.int (d 28 m)), some (.int a), some (.long y), none, some (.int (nI (v + 1))), none, none] [] M N := by
  obtain ⟨n7, p8, n12, m5, n0, h1, h12, -⟩ := zNI_n hR
  have hin : vp_in (nI m) 5 := nI_in_ (by omega)
  have cm : (nI m).toNatClampNeg = m := nI_clamp (by omega)
  have e9 : d 28 = M0 9 := hR.1.2.1.2.2.2.2.2.2.2.2.1
  intro r
  induction r with
  | zero =>
    intro v M N a x y hr hF e0 hN hl hne
    have e : v = 3 := by omega
    subst e
    refine zv_X12_quick_26 _ _ _ _ _ ?_
    rw [cm]
    refine ⟨fun _ => ⟨hin, ?_⟩, fun c => absurd (by decide) c⟩
    intro z1
    have ez : z1 = M0 9 := by simp only [z1]; rw [e0, upd_upd, upd_same, e9]
    have ea : a = (zQkS d m 3).1 := by
      rcases hl with ⟨q, -⟩ | ⟨-, -, q, -⟩
      · exact absurd q (hne (by decide))
      · exact q
    rw [ea]
    exact hk _ _ (zFr_back hF ez) hN
  | succ r ih =>
    intro v M N a x y hr hF e0 hN hl hne
    refine zv_X12_quick_26 _ _ _ _ _ ?_
    rw [cm]
    refine ⟨fun c => absurd (show nI 3 < nI (v + 1) from c) (nI_nlt (by omega) (by omega)), fun _ => ⟨hin, ?_⟩⟩
    intro z2
    have ez : z2 = upd (d 28) m (nI (v + 1)) := by simp only [z2]; rw [e0, upd_upd]
    clear_value z2
    subst ez
    have v1 : 1 ≤ nI (v + 1) ∧ nI (v + 1) ≤ 3 := ⟨nI_le (a := 1) (by omega) (by omega), nI_le (b := 3) (by omega) (by decide)⟩
    have hR1 : zRN (zPaD d m (nI (v + 1))) (ab_u M0 9 (upd (d 28) m (nI (v + 1)))) := zRN_a28 hR _ (zI1_28 hR.2.2.1 v1)
    have hR2 : zRN (zPaD d m (nI (v + 1))) (ab_u M 9 (upd (d 28) m (nI (v + 1)))) := zRN_zfr hR1 (zFr_same hF _) (by decide)
    refine zRA hR2 (fun M2 N2 f1 f2 => ?_)
    have es : zQkS d m (v + 1) = zOf (zQkS d m v) (nI (v + 1)) (zAll (zPaD d m (nI (v + 1)))) := zFo_t
    have n0 : ¬ nI (v + 1) = 0 := nI_ne0 (by omega) (by omega)
    obtain ⟨s1, s2⟩ := zRl_step (i := nI (v + 1)) hl (nI_m1 (by omega)) n0 (zAll_lt hR2.2.1)
    have nn : ¬ (zOf (zQkS d m v) (nI (v + 1)) (zAll (zPaD d m (nI (v + 1))))).1 = -1 := by
      rcases hl with ⟨h1, h2, h3, h4⟩ | ⟨h1, h2, h3, h4⟩
      · have e : zOf (zQkS d m v) (nI (v + 1)) (zAll (zPaD d m (nI (v + 1)))) = (nI (v + 1), zAll (zPaD d m (nI (v + 1)))) := if_pos (by rw [h4]; exact zAll_lt hR2.2.1)
        rw [e]
        exact nI_m1 (by omega)
      · unfold zOf
        split
        · exact nI_m1 (by omega)
        · exact h1
    have go := fun a2 y2 (q : zRl 0 (zOf (zQkS d m v) (nI (v + 1)) (zAll (zPaD d m (nI (v + 1))))) a2 y2) => ih (v + 1) M2 N2 a2 (nI (v + 1)) y2 (by omega) (zFr_tr (zFr_u hF (by decide) _) (zFr_mono f1 (by decide))) (by rw [f1 9 (by decide), ab_u_eq]) (zNfr_tr hN f2) (by rw [es]; exact q) (fun _ => by rw [es]; exact nn)
    refine zv_X12_quick_45 _ _ _ _ _ _ ?_
    rw [nI_1]
    exact ⟨fun c => go _ _ (s1 c), fun c => ⟨fun c2 => go _ _ ((s2 c).1 c2), fun c2 => go _ _ ((s2 c).2 c2)⟩⟩
theorem zE_X12_quick (as : List Value) (M : ab_M) (N : ab_N) (k : ab_R) (hT : zt_X12_quick as M N k) : ab_cs as ≤ 9 ∧ zr_X12_quick k 0 (ab_en as) [] M N := by
  obtain ⟨⟨d, l⟩, q, rfl, ⟨rfl, hR⟩, hk⟩ := hT
  dsimp only at hR hk ⊢
  obtain ⟨n7, p8, n12, m5, n0, h1, h12, -⟩ := zNI_n hR
  have e9 : d 28 = M 9 := hR.1.2.1.2.2.2.2.2.2.2.2.1
  have hk := fun M2 N2 (hF : zFr zSL M M2) (hN : zNfr [0, 32] N N2) => hk _ M2 N2 ⟨hF, hN, rfl⟩
  unfold zQkA at hk
  refine ⟨Nat.le_of_ble_eq_true rfl, zv_X12_quick_0 _ ?_⟩
  rw [n12]
  refine ⟨fun c => ?_, fun c => ?_⟩
  · have hk := hk M N (zFr_rf _ _) (zNfr_rf _ _)
    rw [if_neg (ab_b_0.mp c)] at hk
    exact hk
  · have a1 := zIx0 c
    rw [if_pos a1] at hk
    obtain ⟨km, y1, rfl⟩ := zIxN (by omega) a1
    have cm : (nI km).toNatClampNeg = km := nI_clamp (by omega)
    rw [cm] at hk ⊢
    rw [← e9]
    exact ⟨nI_in_ (by omega), zL_X12_quick hR y1 hk 3 0 M N 0 (d 28 km) 0 (by omega) (zFr_rf _ _) (by rw [upd_same, e9]) (zNfr_rf _ _) (zRl_0 _) (fun z => absurd z (by decide))⟩
abbrev zR_X12_quick : Room := { frames := 8, cells := 0, slots := 0, locals := 190 }
set_option maxRecDepth 20000 in
theorem zM_X12_quick (l : Launch) : ab_Met l zw_M vwCl zZ_M yX12_quick cX12_quick 9 (some .int) zR_X12_quick zt_X12_quick := ab_ofRun (G := zg_X12_quick) (P := zp_X12_quick) rfl zo_X12_quick (by decide +kernel) zl_cl zl_lamM zf_X12_ok ab_Tab_nil zc_X12_ok ab_Sta_nil (List.forall_mem_cons.mpr ⟨ab_callV zZ_M_ok (zM_X12_isMan l) (ab_in 1301 (by decide +kernel) rfl) (ab_in 1298 (by decide +kernel) rfl) (ab_in 1300 (by decide +kernel) rfl) (ab_inS (List.mem_of_getElem? (i := 39) (by decide +kernel)) rfl) (ab_in 17 (by decide +kernel) rfl) (by unfold ab_yok; decide +kernel) ⟨rfl, rfl⟩ (by decide) zV_X12_isMan, List.forall_mem_cons.mpr ⟨ab_callV zZ_M_ok (zM_X12_runAll l) (ab_in 1372 (by decide +kernel) rfl) (ab_in 1369 (by decide +kernel) rfl) (ab_in 1371 (by decide +kernel) rfl) (ab_inS (List.mem_of_getElem? (i := 50) (by decide +kernel)) rfl) (ab_in 17 (by decide +kernel) rfl) (by unfold ab_yok; decide +kernel) ⟨rfl, rfl⟩ (by decide) zV_X12_runAll, List.forall_mem_nil _⟩⟩) (List.forall_mem_nil _) zE_X12_quick
theorem zSubT {a b : Nat} (ha : a < 2 ^ 62) (hb : b < 2 ^ 62) : (lN a - lN b).toInt = (a : Int) - b := by
  rw [Int64.toInt_sub, pk_lT (by omega), pk_lT (by omega)]
  exact Int.bmod_eq_of_le (by omega) (by omega)
theorem zSubLe {a b c : Nat} (ha : a < 2 ^ 62) (hb : b < 2 ^ 62) (hc : c < 2 ^ 62) : lN a - lN b ≤ lN a - lN c ↔ c ≤ b := by
  rw [Int64.le_iff_toInt_le, zSubT ha hb, zSubT ha hc]
  omega
def zBlK (s : Int32 × Int64) : Prop := ∃ K, K ≤ 4000000000000000 ∧ s.2 = lN K
theorem zBlK_of {s : Int32 × Int64} {i : Int32} {x : Int64} (h : zBlK s) (hx : ∃ K, K ≤ 4000000000000000 ∧ x = lN K) : zBlK (zOf s i x) := by
  unfold zOf
  split
  · exact hx
  · exact h
def zt_X12_bestLook : ab_T := ab_lq (α := ab_M × Int32) (fun x r M _ => r = [.int x.2] ∧ zRN x.1 M ∧ M 0 25 = -1)
  (fun x M N o M2 N2 => zFr (0 :: zSL) M M2 ∧ (∀ j, j ≠ 26 → M2 0 j = M 0 j) ∧ zNfr [0, 32] N N2 ∧ o = some (.long (zBlA x.1 x.2)))
theorem zt_X12_bestLook_mono : ab_mono zt_X12_bestLook := ab_lq_mono _ _
theorem zV_X12_bestLook : ab_recv zw_M vwCl RX12 zt_X12_bestLook := ab_lq_v
def zp_X12_bestLook : ab_P := [(0, .iload_n 1, 1, [1], []),
  (1, .iconst 0, 2, [], [0]),
  (2, .iconst 1, 3, [], [1]),
  (3, .invokestatic 175, 6, [], []),
  (6, .ifCond .ne 7, 9, [13], []),
  (9, .ldc2_w 341, 12, [], []),
  (12, .lreturn, 13, [], []),
  (13, .aload_n 0, 14, [0], []),
  (14, .iconst 0, 15, [], [0]),
  (15, .invokevirtual 337, 18, [], []),
  (18, .lstore_n 2, 19, [2], []),
  (19, .iconst (-1), 20, [], [(-1)]),
  (20, .istore 4, 22, [], []),
  (22, .lconst 0, 23, [0], []),
  (23, .lstore 5, 25, [], []),
  (25, .iconst 0, 26, [], [0]),
  (26, .istore 7, 28, [], []),
  (28, .iload 7, 30, [], []),
  (30, .aload_n 0, 31, [0], []),
  (31, .getfield 7, 34, [], []),
  (34, .if_icmp .ge 61, 37, [95], []),
  (37, .iconst 0, 38, [], [0]),
  (38, .istore 8, 40, [], []),
  (40, .iload 8, 42, [], []),
  (42, .aload_n 0, 43, [0], []),
  (43, .getfield 172, 46, [], []),
  (46, .if_icmp .ge 43, 49, [89], []),
  (49, .lload_n 2, 50, [2], []),
  (50, .aload_n 0, 51, [0], []),
  (51, .iload 8, 53, [], []),
  (53, .iload 7, 55, [], []),
  (55, .invokevirtual 343, 58, [], []),
  (58, .lsub, 59, [], []),
  (59, .lstore 9, 61, [], []),
  (61, .lload 9, 63, [], []),
  (63, .lload 5, 65, [], []),
  (65, .lcmp, 66, [], []),
  (66, .ifCond .le 17, 69, [83], []),
  (69, .bipush 10, 71, [], [10]),
  (71, .iload 7, 73, [], []),
  (73, .imul, 74, [], []),
  (74, .iload 8, 76, [], []),
  (76, .iadd, 77, [], []),
  (77, .istore 4, 79, [], []),
  (79, .lload 9, 81, [], []),
  (81, .lstore 5, 83, [], []),
  (83, .iinc 8 1, 86, [], [1]),
  (86, .goto (-46), 89, [40], []),
  (89, .iinc 7 1, 92, [], [1]),
  (92, .goto (-64), 95, [28], []),
  (95, .iload_n 1, 96, [1], []),
  (96, .ifCond .ne 9, 99, [105], []),
  (99, .iload 4, 101, [], []),
  (101, .i2l, 102, [], []),
  (102, .goto 5, 105, [107], []),
  (105, .lload 5, 107, [], []),
  (107, .lreturn, 108, [], [])]
theorem zo_X12_bestLook : ab_ok cX12_bestLook zp_X12_bestLook = true := by decide +kernel
def zg_X12_bestLook : ab_G := (zw_M, [], zf_X12, zc_X12, [], [(337, 2, zt_X12_runAll), (343, 3, zt_X12_withLook)], [(175, 3, zt_X12_in)])
theorem zm_X12_bestLook : ab_MG zg_X12_bestLook := ab_MGof (List.forall_mem_cons.mpr ⟨zt_X12_runAll_mono, List.forall_mem_cons.mpr ⟨zt_X12_withLook_mono, List.forall_mem_nil _⟩⟩) (List.forall_mem_cons.mpr ⟨ab_pure_mono _, List.forall_mem_nil _⟩)
abbrev zr_X12_bestLook (Q : ab_R) : ab_K := ab_Run zg_X12_bestLook zp_X12_bestLook (some .long) 11 Q
set_option maxRecDepth 20000 in
theorem zv_X12_bestLook_0 {Q : ab_R} {M : ab_M} {N : ab_N} (l1 : Int32) (h : ((ab_b ((0 : Int32) ≤ l1 ∧ l1 ≤ (1 : Int32))) = 0 → Q (some (.long (-4611686018427387904 : Int64))) M N) ∧ (¬ ((ab_b ((0 : Int32) ≤ l1 ∧ l1 ≤ (1 : Int32))) = 0) → zt_X12_runAll [.ref 0, .int (0 : Int32)] M N (fun r M2 N2 => zr_X12_bestLook Q 18 [some (.ref 0), some (.int l1), none, none, none, none, none, none, none, none, none] (ab_ol r []) M2 N2))) : zr_X12_bestLook Q 0 [some (.ref 0), some (.int l1)] [] M N := ab_Run_s zm_X12_bestLook (sp := [(18, [true, true, false, false, false, false, false, false, false, false, false]), (28, [true, true, true, false, true, true, false, true, false, false, false]), (40, [true, true, true, false, true, true, false, true, true, false, false]), (58, [true, true, true, false, true, true, false, true, true, false, false])]) 59 h
set_option maxRecDepth 20000 in
theorem zv_X12_bestLook_18 {Q : ab_R} {M : ab_M} {N : ab_N} (l1 : Int32) (s0 : Int64) (h : zr_X12_bestLook Q 28 [some (.ref 0), some (.int l1), some (.long s0), none, some (.int (-1 : Int32)), some (.long (0 : Int64)), none, some (.int (0 : Int32)), none, none, none] [] M N) : zr_X12_bestLook Q 18 [some (.ref 0), some (.int l1), none, none, none, none, none, none, none, none, none] [.long s0] M N := ab_Run_s zm_X12_bestLook (sp := [(18, [true, true, false, false, false, false, false, false, false, false, false]), (28, [true, true, true, false, true, true, false, true, false, false, false]), (40, [true, true, true, false, true, true, false, true, true, false, false]), (58, [true, true, true, false, true, true, false, true, true, false, false])]) 59 h
set_option maxRecDepth 20000 in
theorem zv_X12_bestLook_28 {Q : ab_R} {M : ab_M} {N : ab_N} (l1 : Int32) (l2 : Int64) (l4 : Int32) (l5 : Int64) (l7 : Int32) (h : ((M 0 0) ≤ l7 → (l1 = 0 → Q (some (.long (l4.toInt64))) M N) ∧ (¬ (l1 = 0) → Q (some (.long l5)) M N)) ∧ (¬ ((M 0 0) ≤ l7) → zr_X12_bestLook Q 40 [some (.ref 0), some (.int l1), some (.long l2), none, some (.int l4), some (.long l5), none, some (.int l7), some (.int (0 : Int32)), none, none] [] M N)) : zr_X12_bestLook Q 28 [some (.ref 0), some (.int l1), some (.long l2), none, some (.int l4), some (.long l5), none, some (.int l7), none, none, none] [] M N := ab_Run_s zm_X12_bestLook (sp := [(18, [true, true, false, false, false, false, false, false, false, false, false]), (28, [true, true, true, false, true, true, false, true, false, false, false]), (40, [true, true, true, false, true, true, false, true, true, false, false]), (58, [true, true, true, false, true, true, false, true, true, false, false])]) 59 h
set_option maxRecDepth 20000 in
theorem zv_X12_bestLook_40 {Q : ab_R} {M : ab_M} {N : ab_N} (l1 : Int32) (l2 : Int64) (l4 : Int32) (l5 : Int64) (l7 : Int32) (l8 : Int32) (h : ((M 0 7) ≤ l8 → zr_X12_bestLook Q 28 [some (.ref 0), some (.int l1), some (.long l2), none, some (.int l4), some (.long l5), none, some (.int (l7 + (1 : Int32))), none, none, none] [] M N) ∧ (¬ ((M 0 7) ≤ l8) → zt_X12_withLook [.ref 0, .int l8, .int l7] M N (fun r M2 N2 => zr_X12_bestLook Q 58 [some (.ref 0), some (.int l1), some (.long l2), none, some (.int l4), some (.long l5), none, some (.int l7), some (.int l8), none, none] (ab_ol r [.long l2]) M2 N2))) : zr_X12_bestLook Q 40 [some (.ref 0), some (.int l1), some (.long l2), none, some (.int l4), some (.long l5), none, some (.int l7), some (.int l8), none, none] [] M N := ab_Run_s zm_X12_bestLook (sp := [(18, [true, true, false, false, false, false, false, false, false, false, false]), (28, [true, true, true, false, true, true, false, true, false, false, false]), (40, [true, true, true, false, true, true, false, true, true, false, false]), (58, [true, true, true, false, true, true, false, true, true, false, false])]) 59 h
set_option maxRecDepth 20000 in
theorem zv_X12_bestLook_58 {Q : ab_R} {M : ab_M} {N : ab_N} (l1 : Int32) (l2 : Int64) (l4 : Int32) (l5 : Int64) (l7 : Int32) (l8 : Int32) (s0 : Int64) (s1 : Int64) (h : ((lg_cmp (s0 - s1) l5) ≤ 0 → zr_X12_bestLook Q 40 [some (.ref 0), some (.int l1), some (.long l2), none, some (.int l4), some (.long l5), none, some (.int l7), some (.int (l8 + (1 : Int32))), none, none] [] M N) ∧ (¬ ((lg_cmp (s0 - s1) l5) ≤ 0) → zr_X12_bestLook Q 40 [some (.ref 0), some (.int l1), some (.long l2), none, some (.int (((10 : Int32) * l7) + l8)), some (.long (s0 - s1)), none, some (.int l7), some (.int (l8 + (1 : Int32))), none, none] [] M N)) : zr_X12_bestLook Q 58 [some (.ref 0), some (.int l1), some (.long l2), none, some (.int l4), some (.long l5), none, some (.int l7), some (.int l8), none, none] [.long s1, .long s0] M N := ab_Run_s zm_X12_bestLook (sp := [(18, [true, true, false, false, false, false, false, false, false, false, false]), (28, [true, true, true, false, true, true, false, true, false, false, false]), (40, [true, true, true, false, true, true, false, true, true, false, false]), (58, [true, true, true, false, true, true, false, true, true, false, false])]) 59 h
theorem zL_X12_bestLookI {Q : ab_R} {d M0 : ab_M} {N0 : ab_N} {w : Int32} {h : Nat} {s : Int32 × Int64} (hR : zRN d M0) (h25 : M0 0 25 = -1) (hh : h < 12) (hk : ∀ M N, zFr (0 :: zSL) M0 M → (∀ j, j ≠ 26 → M 0 j = M0 0 j) → zNfr [0, 32] N0 N → zBlK (zBlI d h s (zPcs d)) → zr_X12_bestLook Q 28 [some (.ref 0), some (.int w), some (.long (zAll d)), none, some (.int (zBlI d h s (zPcs d)).1), some (.long (zAll d - (zBlI d h s (zPcs d)).2)), none, some (.int (nI (h + 1))), none, none, none] [] M N) : ∀ (r p : Nat) (M : ab_M) (N : ab_N), p + r = zPcs d → zFr (0 :: zSL) M0 M → (∀ j, j ≠ 26 → M 0 j = M0 0 j) → zNfr [0, 32] N0 N → zBlK (zBlI d h s p) → zr_X12_bestLook Q 40 [some (.ref 0), some (.int w), some (.long (zAll d)), none, some (.int (zBlI d h s p).1), some (.long (zAll d - (zBlI d h s p).2)), none, some (.int (nI h)), some (.int (nI p)), none, none] [] M N := by
  obtain ⟨n7, p8, n12, m5, n0, h1, h12, -⟩ := zNI_n hR
  intro r
  induction r with
  | zero =>
    intro p M N hr hF e0 hN hb
    have e : p = zPcs d := by omega
    subst e
    have n7 : M 0 7 = nI (zPcs d) := by rw [e0 7 (by decide)]; exact n7
    refine zv_X12_bestLook_40 _ _ _ _ _ _ ?_
    rw [nI_1]
    exact ⟨fun _ => hk M N hF e0 hN hb, fun c => absurd (by rw [n7]; exact nI_le (Nat.le_refl _) (by omega)) c⟩
  | succ r ih =>
    intro p M N hr hF e0 hN hb
    have n7 : M 0 7 = nI (zPcs d) := by rw [e0 7 (by decide)]; exact n7
    have eu : upd (upd (M 0) 25 (nI p)) 26 (nI h) = upd (upd (M0 0) 25 (nI p)) 26 (nI h) := by
      funext j
      by_cases c2 : j = 26
      · rw [c2, upd_eq, upd_eq]
      · rw [upd_ne _ _ c2, upd_ne _ _ c2]
        by_cases c1 : j = 25
        · rw [c1, upd_eq, upd_eq]
        · rw [upd_ne _ _ c1, upd_ne _ _ c1, e0 j c2]
    have hR1 : zRN (zMoreD d (nI p) (nI h)) (ab_u M0 0 (upd (upd (M0 0) 25 (nI p)) 26 (nI h))) := zRN_more hR (nI p) (nI h)
    have hR2 : zRN (zMoreD d (nI p) (nI h)) (ab_u M 0 (upd (upd (M 0) 25 (nI p)) 26 (nI h))) := by
      rw [eu]
      exact zRN_zfr hR1 (zFr_same hF _) (by decide)
    refine zv_X12_bestLook_40 _ _ _ _ _ _ ⟨fun c => absurd (by rw [← n7]; exact c) (nI_ge (a := p) (b := zPcs d) (by omega) (by omega)), fun _ => ⟨(zMoreD d (nI p) (nI h), nI p, nI h), _, rfl, ⟨rfl, hR2⟩, ?_⟩⟩
    rintro o M2 N2 ⟨f1, f0, f2, rfl⟩
    dsimp only at f0 ⊢
    have ea : zSum (zMoreD d (nI p) (nI h)) 0 (zPcs (zMoreD d (nI p) (nI h))) = zAll (zMoreD d (nI p) (nI h)) := rfl
    rw [ea]
    have es : zBlI d h s (p + 1) = zOf (zBlI d h s p) (nI (10 * h + p)) (zAll (zMoreD d (nI p) (nI h))) := zFo_t
    obtain ⟨K, k1, k2⟩ := hb
    obtain ⟨K2, k3, k4⟩ := zAll_bd hR2.2.1
    obtain ⟨K3, k5, k6⟩ := zAll_bd hR.2.1
    have hb2 : zBlK (zBlI d h s (p + 1)) := by rw [es]; exact zBlK_of ⟨K, k1, k2⟩ ⟨K2, k3, k4⟩
    have e2 : ∀ j, j ≠ 26 → M2 0 j = M0 0 j := fun j hj => by
      rw [f0]
      by_cases c1 : j = 25
      · rw [c1, upd_eq, h25]
      · rw [upd_ne _ _ c1, upd_ne _ _ hj, upd_ne _ _ c1, e0 j hj]
    have go := ih (p + 1) M2 N2 (by omega) (zFr_tr hF f1) e2 (zNfr_tr hN f2) hb2
    rw [es] at go
    have cmp : lg_cmp (zAll d - zAll (zMoreD d (nI p) (nI h))) (zAll d - (zBlI d h s p).2) ≤ 0 ↔ ¬ zAll (zMoreD d (nI p) (nI h)) < (zBlI d h s p).2 := by
      rw [lg_cmp_le, k2, k4, k6, zSubLe (by omega) (by omega) (by omega), pk_lLT (by omega) (by omega), Nat.not_lt]
    unfold zOf at go
    refine zv_X12_bestLook_58 _ _ _ _ _ _ _ _ ?_
    rw [nI_1, show (10 : Int32) * nI h + nI p = nI (10 * h + p) by rw [show (10 : Int32) = nI 10 from rfl, pk_mul, nI_add]]
    refine ⟨fun c => ?_, fun c => ?_⟩
    · rw [if_neg (cmp.mp c)] at go
      exact go
    · rw [if_pos (Decidable.not_not.mp (fun z => c (cmp.mpr z)))] at go
      exact go
theorem zL_X12_bestLook {Q : ab_R} {d M0 : ab_M} {N0 : ab_N} {w : Int32} (hR : zRN d M0) (h25 : M0 0 25 = -1) (hk : ∀ M N, zFr (0 :: zSL) M0 M → (∀ j, j ≠ 26 → M 0 j = M0 0 j) → zNfr [0, 32] N0 N → Q (some (.long (if w = 0 then (zBlO d (zHrs d)).1.toInt64 else zAll d - (zBlO d (zHrs d)).2))) M N) : ∀ (r h : Nat) (M : ab_M) (N : ab_N), h + r = zHrs d → zFr (0 :: zSL) M0 M → (∀ j, j ≠ 26 → M 0 j = M0 0 j) → zNfr [0, 32] N0 N → zBlK (zBlO d h) → zr_X12_bestLook Q 28 [some (.ref 0), some (.int w), some (.long (zAll d)), none, some (.int (zBlO d h).1), some (.long (zAll d - (zBlO d h).2)), none, some (.int (nI h)), none, none, none] [] M N := by
  obtain ⟨n7, p8, n12, m5, n0, h1, h12, -⟩ := zNI_n hR
  intro r
  induction r with
  | zero =>
    intro h M N hr hF e0 hN hb
    have e : h = zHrs d := by omega
    subst e
    have n0 : M 0 0 = nI (zHrs d) := by rw [e0 0 (by decide)]; exact n0
    have hk := hk M N hF e0 hN
    refine zv_X12_bestLook_28 _ _ _ _ _ ⟨fun _ => ⟨fun c => ?_, fun c => ?_⟩, fun c => absurd (by rw [n0]; exact nI_le (Nat.le_refl _) (by omega)) c⟩
    · rw [if_pos c] at hk; exact hk
    · rw [if_neg c] at hk; exact hk
  | succ r ih =>
    intro h M N hr hF e0 hN hb
    have n0 : M 0 0 = nI (zHrs d) := by rw [e0 0 (by decide)]; exact n0
    refine zv_X12_bestLook_28 _ _ _ _ _ ⟨fun c => absurd (by rw [← n0]; exact c) (nI_ge (a := h) (b := zHrs d) (by omega) (by omega)), fun _ => ?_⟩
    exact zL_X12_bestLookI (s := zBlO d h) hR h25 (by omega) (fun M2 N2 q1 q2 q3 q4 => ih (h + 1) M2 N2 (by omega) q1 q2 q3 q4) (zPcs d) 0 M N (by omega) hF e0 hN hb
theorem zE_X12_bestLook (as : List Value) (M : ab_M) (N : ab_N) (k : ab_R) (hT : zt_X12_bestLook as M N k) : ab_cs as ≤ 11 ∧ zr_X12_bestLook k 0 (ab_en as) [] M N := by
  obtain ⟨⟨d, w⟩, q, rfl, ⟨rfl, hR, h25⟩, hk⟩ := hT
  dsimp only at hR h25 hk ⊢
  have hk := fun M2 N2 hF h0 hN => hk _ M2 N2 ⟨hF, h0, hN, rfl⟩
  unfold zBlA at hk
  refine ⟨Nat.le_of_ble_eq_true rfl, zv_X12_bestLook_0 _ ⟨fun c => ?_, fun c => ?_⟩⟩
  · have hk := hk M N (zFr_rf _ _) (fun _ _ => rfl) (zNfr_rf _ _)
    rw [if_neg (ab_b_0.mp c)] at hk
    exact hk
  · rw [if_pos (zIx0 c)] at hk
    refine zRA hR (fun M2 N2 f1 f2 => zv_X12_bestLook_18 _ _ ?_)
    obtain ⟨K, k1, k2⟩ := zAll_bd hR.2.1
    have e0 : (0 : Int64) = zAll d - (zBlO d 0).2 := by
      show (0 : Int64) = zAll d - zAll d
      rw [Int64.sub_self]
    rw [e0]
    exact zL_X12_bestLook hR h25 hk (zHrs d) 0 M2 N2 (by omega) (zFr_mono f1 (by decide)) (fun j _ => by rw [f1 0 (by decide)]) f2 ⟨K, k1, k2⟩
abbrev zR_X12_bestLook : Room := { frames := 9, cells := 0, slots := 0, locals := 214 }
set_option maxRecDepth 20000 in
theorem zM_X12_bestLook (l : Launch) : ab_Met l zw_M vwCl zZ_M yX12_bestLook cX12_bestLook 11 (some .long) zR_X12_bestLook zt_X12_bestLook := ab_ofRun (G := zg_X12_bestLook) (P := zp_X12_bestLook) rfl zo_X12_bestLook (by decide +kernel) zl_cl zl_lamM zf_X12_ok ab_Tab_nil zc_X12_ok ab_Sta_nil (List.forall_mem_cons.mpr ⟨ab_callV zZ_M_ok (zM_X12_runAll l) (ab_in 1372 (by decide +kernel) rfl) (ab_in 1369 (by decide +kernel) rfl) (ab_in 1371 (by decide +kernel) rfl) (ab_inS (List.mem_of_getElem? (i := 50) (by decide +kernel)) rfl) (ab_in 17 (by decide +kernel) rfl) (by unfold ab_yok; decide +kernel) ⟨rfl, rfl⟩ (by decide) zV_X12_runAll, List.forall_mem_cons.mpr ⟨ab_callV zZ_M_ok (zM_X12_withLook l) (ab_in 1404 (by decide +kernel) rfl) (ab_in 1401 (by decide +kernel) rfl) (ab_in 1403 (by decide +kernel) rfl) (ab_inS (List.mem_of_getElem? (i := 53) (by decide +kernel)) rfl) (ab_in 17 (by decide +kernel) rfl) (by unfold ab_yok; decide +kernel) ⟨rfl, rfl⟩ (by decide) zV_X12_withLook, List.forall_mem_nil _⟩⟩) (List.forall_mem_cons.mpr ⟨ab_callS zZ_M_ok (zM_X12_in l) (ab_in 1200 (by decide +kernel) rfl) (ab_in 1198 (by decide +kernel) rfl) (ab_in 1199 (by decide +kernel) rfl) (ab_in 17 (by decide +kernel) rfl) (by unfold ab_yok; decide +kernel) ⟨rfl, rfl⟩ (by decide), List.forall_mem_nil _⟩) zE_X12_bestLook
