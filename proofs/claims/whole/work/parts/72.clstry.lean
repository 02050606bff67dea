/-! the class: what is tried *)
-/
def zOf (s : Int32 × Int64) (i : Int32) (x : Int64) : Int32 × Int64 := if x < s.2 then (i, x) else s
theorem zOf_cmp (s : Int32 × Int64) (i : Int32) (x : Int64) : zOf s i x = if 0 ≤ lg_cmp x s.2 then s else (i, x) := by
  unfold zOf
  by_cases c : x < s.2
  · rw [if_pos c, if_neg (fun z => Int64.not_lt.mpr ((lg_cmp_ge _ _).mp z) c)]
  · rw [if_neg c, if_pos ((lg_cmp_ge _ _).mpr (Int64.not_lt.mp c))]
/-- the least of what is offered -/
def zFo (g : Nat → Int64) (nm : Nat → Int32) (ok : Nat → Bool) (s : Int32 × Int64) : Nat → Int32 × Int64
  | 0 => s
  | n + 1 => if ok n = true then zOf (zFo g nm ok s n) (nm n) (g n) else zFo g nm ok s n
def zBst (M : ab_M) (N : ab_N) (s : Int32 × Int64) : Prop := M 11 0 = s.1 ∧ N 11 1 = s.2
theorem zOfC {M : ab_M} {N : ab_N} {k : ab_R} {s : Int32 × Int64} {i : Int32} {x : Int64} (h : zBst M N s) (hk : ∀ M2 N2, zFr [11] M M2 → zBst M2 N2 (zOf s i x) → k none M2 N2) : zt_X0_offer [.ref 11, .int i, .long x] M N k := by
  refine ⟨rfl, ?_⟩
  obtain ⟨h1, h2⟩ := h
  rw [h2]
  unfold zOf at hk
  by_cases c : x < s.2
  · rw [if_pos c, if_pos c]
    refine hk _ _ (zFr_u (zFr_rf _ _) (by decide) _) ?_
    rw [if_pos c]
    exact ⟨by rw [ab_u_eq, upd_eq], by rw [ab_u_eq, updL_eq]⟩
  · rw [if_neg c, if_neg c]
    refine hk _ _ (zFr_rf _ _) ?_
    rw [if_neg c]
    exact ⟨h1, h2⟩
theorem zBgC {M : ab_M} {N : ab_N} {k : ab_R} {x : Int64} (hk : ∀ M2 N2, zFr [11] M M2 → zBst M2 N2 (-1, x) → k none M2 N2) : zt_X0_begin [.ref 11, .long x] M N k :=
  ⟨rfl, hk _ _ (zFr_u (zFr_rf _ _) (by decide) _) ⟨by rw [ab_u_eq, upd_eq], by rw [ab_u_eq, updL_eq]⟩⟩
theorem zNight_eqv {d M : ab_M} (h0 : zI0 d) (h1 : zI1 d) (E : zEqv d M) (hA : zAsks M) : zNight M := by
  obtain ⟨-, e1, e2, ⟨-, t8, t9, -, -⟩, e16, e17, e25, e26, e27, e28, e29, e30⟩ := E
  refine ⟨hA, ?_, ?_⟩
  · unfold zI0 at h0 ⊢
    rw [e17, e1, e2]
    exact h0
  · have hm := zMen_lt d
    unfold zI1 at h1 ⊢
    have eM : zMen M = zMen d := by unfold zMen; rw [e2]
    rw [eM, e25, e26, e27, e28, e29, e1, t8]
    intro m hm2
    obtain ⟨q1, q2, q3, q4, q5, q6⟩ := h1 m hm2
    refine ⟨q1, q2, q3, q4, q5, fun z => ?_⟩
    rcases t9 with t | ⟨-, t⟩
    · exact absurd (z.trans t) (nI_m1 (by omega))
    · rw [t]; exact q6 z
theorem zAHC {d M : ab_M} {N : ab_N} {k : ab_R} {s : Int32 × Int64} (h0 : zI0 d) (h1 : zI1 d) (F : zFr zQc d M) (hA : zAsks M) (hb : zBst M N s) (hk : ∀ M2 N2, zFr zGo M M2 → zAsks M2 → zBst M2 N2 s → k (some (.long (zAll d))) M2 N2) : zt_X11_allHarm [.ref 0] M N k := by
  refine ab_m0_i (zNight_eqv h0 h1 (zQc_E F) hA) ?_
  rintro o M2 N2 ⟨rfl, f1, f2, f3⟩
  rw [zAll_eqv (zQc_E F)]
  exact hk M2 N2 f1 f2 ⟨by rw [f1 11 (by decide)]; exact hb.1, by rw [f3 11 (by decide)]; exact hb.2⟩
theorem zAHC0 {d M : ab_M} {N : ab_N} {k : ab_R} (h0 : zI0 d) (h1 : zI1 d) (F : zFr zQc d M) (hA : zAsks M) (hk : ∀ M2 N2, zFr zGo M M2 → zAsks M2 → k (some (.long (zAll d))) M2 N2) : zt_X11_allHarm [.ref 0] M N k :=
  zAHC (s := (M 11 0, N 11 1)) h0 h1 F hA ⟨rfl, rfl⟩ (fun M2 N2 a b _ => hk M2 N2 a b)
theorem zFr_same {L : List Nat} {d M : ab_M} {k : Nat} (h : zFr (k :: L) d M) (f : Nat → Int32) : zFr L (ab_u d k f) (ab_u M k f) := fun c hc => by
  by_cases e : c = k
  · rw [e, ab_u_eq, ab_u_eq]
  · rw [ab_u_ne _ _ e, ab_u_ne _ _ e]
    exact h c (by simp only [List.mem_cons, not_or]; exact ⟨e, hc⟩)
/-- put back -/
theorem zFr_back {L : List Nat} {d M : ab_M} {k : Nat} (h : zFr (k :: L) d M) {f : Nat → Int32} (hf : f = d k) : zFr L d (ab_u M k f) := fun c hc => by
  by_cases e : c = k
  · rw [e, ab_u_eq, hf]
  · rw [ab_u_ne _ _ e]
    exact h c (by simp only [List.mem_cons, not_or]; exact ⟨e, hc⟩)
theorem zFr_k {L L2 : List Nat} {d M M2 : ab_M} (h : zFr L d M) (h2 : zFr L2 M M2) (hs : ∀ c ∈ L2, c ∈ L) : zFr L d M2 := zFr_tr h (zFr_mono h2 hs)
theorem upd_upd (f : Nat → Int32) (k : Nat) (x y : Int32) : upd (upd f k x) k y = upd f k y := by
  funext j
  by_cases e : j = k
  · rw [e, upd_eq, upd_eq]
  · rw [upd_ne _ _ e, upd_ne _ _ e, upd_ne _ _ e]
theorem upd_same (f : Nat → Int32) (k : Nat) : upd f k (f k) = f := by
  funext j
  by_cases e : j = k
  · rw [e, upd_eq]
  · rw [upd_ne _ _ e]
theorem zAskN_fr2 {M M2 : ab_M} (h3 : M2 3 = M 3) (h13 : M2 13 = M 13) (h14 : M2 14 = M 14) (h17 : M2 17 2 = M 17 2) (h18 : M2 18 = M 18) (h31 : M2 31 = M 31) (h32 : M2 32 = M 32) : zAskN M2 = zAskN M := by
  funext th p h is by_
  have e : zNm M2 p h is by_ = zNm M p h is by_ := by
    funext j
    unfold zNm
    rw [h13, h14, h17, h18]
  unfold zAskN zVal zFrom zTo
  rw [e, h3, h31, h32]
theorem zAsks_k {M M2 : ab_M} (h : zAsks M) (h3 : M2 3 = M 3) (h5 : M2 5 4 = M 5 4) (h13 : M2 13 = M 13) (h14 : M2 14 = M 14) (h15 : ∀ p, p < 8 → ∃ s : Nat, s ≤ 3 ∧ M2 15 p = nI s) (h17 : M2 17 2 = M 17 2) (h18 : M2 18 = M 18) (h31 : M2 31 = M 31) (h32 : M2 32 = M 32) (h36 : M2 36 = M 36) : zAsks M2 := by
  obtain ⟨q1, q2, -⟩ := h
  refine ⟨?_, ?_, h15⟩
  · unfold zLawOK at q1 ⊢
    rw [h3, h32]
    exact q1
  · unfold zCache at q2 ⊢
    rw [h5, h36, zAskN_fr2 h3 h13 h14 h17 h18 h31 h32]
    exact q2
/-- another cell is written -/
theorem zAsks_u {M : ab_M} (h : zAsks M) {k : Nat} (f : Nat → Int32) (hk : k ∉ [3, 5, 13, 14, 15, 17, 18, 31, 32, 36]) : zAsks (ab_u M k f) := by
  have e : ∀ c, c ∈ [3, 5, 13, 14, 15, 17, 18, 31, 32, 36] → ab_u M k f c = M c := fun c hc => ab_u_ne _ _ (fun z => hk (z ▸ hc))
  exact zAsks_k h (e 3 (by decide)) (by rw [e 5 (by decide)]) (e 13 (by decide)) (e 14 (by decide)) (by rw [e 15 (by decide)]; exact h.2.2) (by rw [e 17 (by decide)]) (e 18 (by decide)) (e 31 (by decide)) (e 32 (by decide)) (e 36 (by decide))
theorem zAsks_11 {M M2 : ab_M} (h : zAsks M) (hF : zFr [11] M M2) : zAsks M2 := zAsks_gy h (zFr_mono hF (by decide))
def zT6 (M : ab_M) : Prop := M 6 7 = -1 ∧ M 6 8 = -1 ∧ M 6 11 = -1
theorem zI0_6 {d : ab_M} {k : Nat} (h : zI0 d) (f : Nat → Int32) (hk : k ∉ [1, 2, 17]) : zI0 (ab_u d k f) := by
  have e : ∀ c, c ∈ [1, 2, 17] → ab_u d k f c = d c := fun c hc => ab_u_ne _ _ (fun z => hk (z ▸ hc))
  unfold zI0 at h ⊢
  rw [e 1 (by decide), e 2 (by decide), e 17 (by decide)]
  exact h
theorem zI1_k {d : ab_M} {k : Nat} (h : zI1 d) (f : Nat → Int32) (hk : k ∉ [1, 2, 6, 25, 26, 27, 28, 29]) : zI1 (ab_u d k f) := by
  have e : ∀ c, c ∈ [1, 2, 6, 25, 26, 27, 28, 29] → ab_u d k f c = d c := fun c hc => ab_u_ne _ _ (fun z => hk (z ▸ hc))
  unfold zI1 zMen at h ⊢
  rw [e 1 (by decide), e 2 (by decide), e 6 (by decide), e 25 (by decide), e 26 (by decide), e 27 (by decide), e 28 (by decide), e 29 (by decide)]
  exact h
theorem zI1_6 {d : ab_M} (h : zI1 d) (f : Nat → Int32) (h8 : f 8 = d 6 8) (h10 : f 10 = d 6 10) : zI1 (ab_u d 6 f) := by
  have e : ∀ c, c ≠ 6 → ab_u d 6 f c = d c := fun c hc => ab_u_ne _ _ hc
  unfold zI1 zMen at h ⊢
  rw [e 1 (by decide), e 2 (by decide), e 25 (by decide), e 26 (by decide), e 27 (by decide), e 28 (by decide), e 29 (by decide), ab_u_eq, h8, h10]
  exact h
def zt_X11_more : ab_T := ab_m2 0 (fun _ _ M _ => zNight M ∧ zT6 M) (fun a b M N o M2 N2 => zFr (6 :: zQc) M M2 ∧ zAsks M2 ∧ zT6 M2 ∧ o = some (.long (zMoA M a b)))
theorem zt_X11_more_mono : ab_mono zt_X11_more := ab_m2_mono _ _ _
theorem zV_X11_more : ab_recv zw_C vwCl RX11 zt_X11_more := ab_m2_v rfl rfl
def zp_X11_more : ab_P := [(0, .aload_n 0, 1, [0], []),
  (1, .getfield 10, 4, [], []),
  (4, .iload_n 1, 5, [1], []),
  (5, .invokevirtual 130, 8, [], []),
  (8, .ifCond .eq 14, 11, [22], []),
  (11, .aload_n 0, 12, [0], []),
  (12, .getfield 10, 15, [], []),
  (15, .iload_n 2, 16, [2], []),
  (16, .invokevirtual 195, 19, [], []),
  (19, .ifCond .ne 7, 22, [26], []),
  (22, .ldc2_w 218, 25, [], []),
  (25, .lreturn, 26, [], []),
  (26, .aload_n 0, 27, [0], []),
  (27, .invokevirtual 242, 30, [], []),
  (30, .lstore_n 3, 31, [3], []),
  (31, .aload_n 0, 32, [0], []),
  (32, .getfield 53, 35, [], []),
  (35, .iload_n 1, 36, [1], []),
  (36, .putfield 246, 39, [], []),
  (39, .aload_n 0, 40, [0], []),
  (40, .getfield 53, 43, [], []),
  (43, .iload_n 2, 44, [2], []),
  (44, .putfield 249, 47, [], []),
  (47, .aload_n 0, 48, [0], []),
  (48, .invokevirtual 242, 51, [], []),
  (51, .lstore 5, 53, [], []),
  (53, .aload_n 0, 54, [0], []),
  (54, .getfield 53, 57, [], []),
  (57, .iconst (-1), 58, [], [(-1)]),
  (58, .putfield 246, 61, [], []),
  (61, .lload_n 3, 62, [3], []),
  (62, .lload 5, 64, [], []),
  (64, .lsub, 65, [], []),
  (65, .lreturn, 66, [], [])]
theorem zo_X11_more : ab_ok cX11_more zp_X11_more = true := by decide +kernel
def zg_X11_more : ab_G := (zw_C, zs_tab, zf_X11, zc_X11, [(144, 50), (147, 51)], [(130, 2, zt_X2_has), (195, 2, zt_X2_hasHour), (242, 1, zt_X11_allHarm)], [])
theorem zm_X11_more : ab_MG zg_X11_more := ab_MGof (List.forall_mem_cons.mpr ⟨ab_pure_mono _, List.forall_mem_cons.mpr ⟨ab_pure_mono _, List.forall_mem_cons.mpr ⟨zt_X11_allHarm_mono, List.forall_mem_nil _⟩⟩⟩) (List.forall_mem_nil _)
abbrev zr_X11_more (Q : ab_R) : ab_K := ab_Run zg_X11_more zp_X11_more (some .long) 7 Q
set_option maxRecDepth 20000 in
theorem zv_X11_more_0 {Q : ab_R} {M : ab_M} {N : ab_N} (l1 : Int32) (l2 : Int32) (h : ((ab_b (0 ≤ l1 ∧ l1 < (M 1) 4 ∧ l1 < 8)) = 0 → Q (some (.long (-4611686018427387904 : Int64))) M N) ∧ (¬ ((ab_b (0 ≤ l1 ∧ l1 < (M 1) 4 ∧ l1 < 8)) = 0) → ((ab_b (0 ≤ l2 ∧ l2 < (M 17) 0 ∧ l2 < 12)) = 0 → Q (some (.long (-4611686018427387904 : Int64))) M N) ∧ (¬ ((ab_b (0 ≤ l2 ∧ l2 < (M 17) 0 ∧ l2 < 12)) = 0) → zt_X11_allHarm [.ref 0] M N (fun r M2 N2 => zr_X11_more Q 30 [some (.ref 0), some (.int l1), some (.int l2), none, none, none, none] (ab_ol r []) M2 N2)))) : zr_X11_more Q 0 [some (.ref 0), some (.int l1), some (.int l2)] [] M N := ab_Run_s zm_X11_more (sp := [(30, [true, true, true, false, false, false, false]), (51, [true, false, false, true, false, false, false])]) 36 h
set_option maxRecDepth 20000 in
theorem zv_X11_more_30 {Q : ab_R} {M : ab_M} {N : ab_N} (l1 : Int32) (l2 : Int32) (s0 : Int64) (h : let z1 : Nat → Int32 := upd (M 6) 11 l1; let z2 : Nat → Int32 := upd (z1) 12 l2; zt_X11_allHarm [.ref 0] (ab_u (ab_u M 6 z1) 6 z2) N (fun r M2 N2 => zr_X11_more Q 51 [some (.ref 0), none, none, some (.long s0), none, none, none] (ab_ol r []) M2 N2)) : zr_X11_more Q 30 [some (.ref 0), some (.int l1), some (.int l2), none, none, none, none] [.long s0] M N := ab_Run_s zm_X11_more (sp := [(30, [true, true, true, false, false, false, false]), (51, [true, false, false, true, false, false, false])]) 36 h
set_option maxRecDepth 20000 in
theorem zv_X11_more_51 {Q : ab_R} {M : ab_M} {N : ab_N} (l3 : Int64) (s0 : Int64) (h : let z1 : Nat → Int32 := upd (M 6) 11 (-1 : Int32); Q (some (.long (l3 - s0))) (ab_u M 6 z1) N) : zr_X11_more Q 51 [some (.ref 0), none, none, some (.long l3), none, none, none] [.long s0] M N := ab_Run_s zm_X11_more (sp := [(30, [true, true, true, false, false, false, false]), (51, [true, false, false, true, false, false, false])]) 36 h
theorem zE_X11_more (as : List Value) (M : ab_M) (N : ab_N) (k : ab_R) (hT : zt_X11_more as M N k) : ab_cs as ≤ 7 ∧ zr_X11_more k 0 (ab_en as) [] M N := by
  obtain ⟨p, h, rfl, ⟨hN, h6⟩, hk⟩ := ab_m2_e hT
  obtain ⟨n7, p8, n12, m5, n0, h12, -⟩ := zCn hN
  have hk := fun M2 N2 (hF : zFr (6 :: zQc) M M2) (hA : zAsks M2) (h6 : zT6 M2) => hk _ M2 N2 ⟨hF, hA, h6, rfl⟩
  unfold zMoA at hk
  refine ⟨Nat.le_of_ble_eq_true rfl, zv_X11_more_0 _ _ ?_⟩
  rw [n7, n0]
  refine ⟨fun c => ?_, fun c => ⟨fun c2 => ?_, fun c2 => zAHC0 hN.2.1 hN.2.2 (zFr_rf _ _) hN.1 (fun M2 N2 f1 f2 => ?_)⟩⟩
  · have hk := hk M N (zFr_rf _ _) hN.1 h6
    rw [if_neg (zIcn p8 rfl (by decide) c)] at hk
    exact hk
  · have hk := hk M N (zFr_rf _ _) hN.1 h6
    rw [if_pos (zIcp p8 rfl (by decide) c), if_neg (zIcn h12 rfl (by decide) c2)] at hk
    exact hk
  · refine zv_X11_more_30 _ _ _ ?_
    intro z1 z2
    rw [ab_u_u]
    have ez : z2 = upd (upd (M 6) 11 p) 12 h := by simp only [z2, z1]; rw [f1 6 (by decide)]
    clear_value z2
    subst ez
    have g0 : zI0 (zMoreD M p h) := zI0_6 hN.2.1 _ (by decide)
    have g1 : zI1 (zMoreD M p h) := zI1_6 hN.2.2 _ (by rw [upd_ne _ _ (by decide), upd_ne _ _ (by decide)]) (by rw [upd_ne _ _ (by decide), upd_ne _ _ (by decide)])
    have gF : zFr zQc (zMoreD M p h) (ab_u M2 6 (upd (upd (M 6) 11 p) 12 h)) := zFr_same (zFr_mono f1 (by decide)) _
    refine zAHC0 g0 g1 gF (zAsks_u f2 _ (by decide)) (fun M3 N3 f3 f4 => ?_)
    refine zv_X11_more_51 _ _ ?_
    intro z1
    have e6 : ∀ j, j ≠ 11 → j ≠ 12 → z1 j = M 6 j := fun j a b => by
      show upd (M3 6) 11 (-1) j = _
      rw [upd_ne _ _ a, f3 6 (by decide), ab_u_eq, upd_ne _ _ b, upd_ne _ _ a]
    have e11 : z1 11 = -1 := upd_eq _ _ _
    have hk := hk (ab_u M3 6 z1) N3 (fun c hc => by
      rw [List.mem_cons, not_or] at hc
      rw [ab_u_ne _ _ hc.1, zFr_mono (L2 := zQc) f3 (by decide) c hc.2, ab_u_ne _ _ hc.1, zFr_mono (L2 := zQc) f1 (by decide) c hc.2]) (zAsks_u f4 _ (by decide)) ⟨by rw [ab_u_eq, e6 7 (by decide) (by decide)]; exact h6.1, by rw [ab_u_eq, e6 8 (by decide) (by decide)]; exact h6.2.1, by rw [ab_u_eq]; exact e11⟩
    rw [if_pos (zIcp p8 rfl (by decide) c), if_pos (zIcp h12 rfl (by decide) c2)] at hk
    have eP : zAll (zMoreD M p h) = zSum (zMoreD M p h) 0 (zPcs M) := by unfold zAll; rw [zMoreD_p]
    rw [eP]
    exact hk
abbrev zR_X11_more : Room := { frames := 7, cells := 0, slots := 0, locals := 178 }
set_option maxRecDepth 20000 in
theorem zM_X11_more (l : Launch) : ab_Met l zw_C vwCl zZ_C yX11_more cX11_more 7 (some .long) zR_X11_more zt_X11_more := ab_ofRun (G := zg_X11_more) (P := zp_X11_more) rfl zo_X11_more (by decide +kernel) zl_cl zl_lamC zf_X11_ok zs_tabOK zc_X11_ok zs_X11_ok (List.forall_mem_cons.mpr ⟨ab_callV zZ_C_ok (zM_X2_has l) (ab_in 554 (by decide +kernel) rfl) (ab_in 551 (by decide +kernel) rfl) (ab_in 552 (by decide +kernel) rfl) (ab_in 553 (by decide +kernel) rfl) (ab_in 2 (by decide +kernel) rfl) (by unfold ab_yok; decide +kernel) ⟨rfl, rfl⟩ (by decide) zV_X2_has, List.forall_mem_cons.mpr ⟨ab_callV zZ_C_ok (zM_X2_hasHour l) (ab_in 654 (by decide +kernel) rfl) (ab_in 651 (by decide +kernel) rfl) (ab_in 652 (by decide +kernel) rfl) (ab_in 653 (by decide +kernel) rfl) (ab_in 2 (by decide +kernel) rfl) (by unfold ab_yok; decide +kernel) ⟨rfl, rfl⟩ (by decide) zV_X2_hasHour, List.forall_mem_cons.mpr ⟨ab_callV zZ_C_ok (zM_X11_allHarm l) (ab_in 795 (by decide +kernel) rfl) (ab_in 792 (by decide +kernel) rfl) (ab_in 794 (by decide +kernel) rfl) (ab_inS (List.mem_of_getElem? (i := 21) (by decide +kernel)) rfl) (ab_in 1 (by decide +kernel) rfl) (by unfold ab_yok; decide +kernel) ⟨rfl, rfl⟩ (by decide) zV_X11_allHarm, List.forall_mem_nil _⟩⟩⟩) (List.forall_mem_nil _) zE_X11_more
