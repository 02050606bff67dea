/-! the reference: what the law says; how its cells tell a state d *)
-/
/-- what a night sees -/
def zRn (d M : ab_M) : Prop := (d 17 0 = M 0 0 ∧ d 17 1 = M 0 1 ∧ d 17 2 = M 0 2 ∧ d 17 3 = M 0 3 ∧ d 17 4 = M 0 4 ∧ d 1 7 = M 0 5 ∧ d 1 4 = M 0 7 ∧ d 2 6 = M 0 12) ∧ (d 18 = M 1 ∧ d 13 = M 2 ∧ d 14 = M 3 ∧ d 15 = M 4 ∧ d 16 = M 5 ∧ d 25 = M 6 ∧ d 26 = M 7 ∧ d 27 = M 8 ∧ d 28 = M 9 ∧ d 29 = M 10 ∧ d 30 = M 11) ∧ (d 6 7 = M 0 30 ∧ d 6 8 = M 0 27 ∧ (d 6 8 = -1 ∨ (d 6 9 = M 0 28 ∧ d 6 10 = M 0 29)) ∧ d 6 11 = M 0 25 ∧ (d 6 11 = -1 ∨ d 6 12 = M 0 26)) ∧ zLawR d M
/-- a state's numbers -/
def zNI (d : ab_M) : Prop := zI0 d ∧ zI1 d ∧ (∀ p, p < 8 → ∃ s : Nat, s ≤ 3 ∧ d 15 p = nI s) ∧ ∀ p, p < 8 → d 16 p = 0 ∨ d 16 p = 1
def zRN (d M : ab_M) : Prop := zRn d M ∧ zNI d
/-- cells of the reference that a night writes: counters apart -/
abbrev zSc8 : List Nat := [26, 27]
theorem zTextEq_fr {d M M2 : ab_M} {t : Nat} (h : zTextEq d M t) (h13 : M2 13 = M 13) (h14 : M2 14 = M 14) : zTextEq d M2 t := by
  unfold zTextEq at h ⊢
  rw [h13, h14]
  exact h
theorem zRN_fr {d M M2 : ab_M} (h : zRN d M) (h0 : ∀ j, j ≤ 31 → M2 0 j = M 0 j) (hc : ∀ c, 1 ≤ c → c ≤ 24 → M2 c = M c) : zRN d M2 := by
  obtain ⟨⟨⟨a1, a2, a3, a4, a5, a6, a7, a8⟩, ⟨b1, b2, b3, b4, b5, b6, b7, b8, b9, b10, b11⟩, ⟨c1, c2, c3, c4, c5⟩, w, hw, l1, l2, l3⟩, hn⟩ := h
  refine ⟨⟨?_, ?_, ?_, w, hw, l1, ?_, zTextEq_fr l3 (hc 13 (by decide) (by decide)) (hc 14 (by decide) (by decide))⟩, hn⟩
  · rw [h0 0 (by decide), h0 1 (by decide), h0 2 (by decide), h0 3 (by decide), h0 4 (by decide), h0 5 (by decide), h0 7 (by decide), h0 12 (by decide)]
    exact ⟨a1, a2, a3, a4, a5, a6, a7, a8⟩
  · rw [hc 1 (by decide) (by decide), hc 2 (by decide) (by decide), hc 3 (by decide) (by decide), hc 4 (by decide) (by decide), hc 5 (by decide) (by decide), hc 6 (by decide) (by decide), hc 7 (by decide) (by decide), hc 8 (by decide) (by decide), hc 9 (by decide) (by decide), hc 10 (by decide) (by decide), hc 11 (by decide) (by decide)]
    exact ⟨b1, b2, b3, b4, b5, b6, b7, b8, b9, b10, b11⟩
  · rw [h0 30 (by decide), h0 27 (by decide), h0 28 (by decide), h0 29 (by decide), h0 25 (by decide), h0 26 (by decide)]
    exact ⟨c1, c2, c3, c4, c5⟩
  · rw [h0 24 (by decide)]
    exact l2
theorem zRN_zfr {d M M2 : ab_M} {L : List Nat} (h : zRN d M) (hF : zFr L M M2) (hL : ∀ c ∈ L, 25 ≤ c) : zRN d M2 := zRN_fr h (fun j _ => by rw [hF 0 (fun z => by have := hL 0 z; omega)]) (fun c _ h2 => hF c (fun z => by have := hL c z; omega))
def zt_X12_says : ab_T := ab_lq (α := ab_M × Nat × Nat × Nat × Nat × Nat) (fun x r M _ => r = [.int (nI x.2.1), .int (nI x.2.2.1), .int (nI x.2.2.2.1), .int (nI x.2.2.2.2.1), .int (nI x.2.2.2.2.2)] ∧ zRN x.1 M ∧ x.2.1 < 3 ∧ x.2.2.1 < 8 ∧ x.2.2.2.1 < 12 ∧ x.2.2.2.2.1 < 1000)
  (fun x M N o M2 N2 => N2 = N ∧ zFr [26, 27] M M2 ∧ o = some (.int (nI (zAsk x.1 x.2.1 x.2.2.1 x.2.2.2.1 x.2.2.2.2.1 x.2.2.2.2.2))))
theorem zt_X12_says_mono : ab_mono zt_X12_says := ab_lq_mono _ _
theorem zV_X12_says : ab_recv zw_M vwCl RX12 zt_X12_says := ab_lq_v
def zp_X12_says : ab_P := [(0, .aload_n 0, 1, [0], []),
  (1, .getfield 141, 4, [], []),
  (4, .iconst 0, 5, [], [0]),
  (5, .aload_n 0, 6, [0], []),
  (6, .getfield 25, 9, [], []),
  (9, .iload_n 3, 10, [3], []),
  (10, .iaload, 11, [], []),
  (11, .iastore, 12, [], []),
  (12, .aload_n 0, 13, [0], []),
  (13, .getfield 141, 16, [], []),
  (16, .iconst 1, 17, [], [1]),
  (17, .aload_n 0, 18, [0], []),
  (18, .getfield 29, 21, [], []),
  (21, .iload_n 2, 22, [2], []),
  (22, .iaload, 23, [], []),
  (23, .iastore, 24, [], []),
  (24, .aload_n 0, 25, [0], []),
  (25, .getfield 141, 28, [], []),
  (28, .iconst 2, 29, [], [2]),
  (29, .aload_n 0, 30, [0], []),
  (30, .getfield 190, 33, [], []),
  (33, .iastore, 34, [], []),
  (34, .aload_n 0, 35, [0], []),
  (35, .getfield 141, 38, [], []),
  (38, .iconst 3, 39, [], [3]),
  (39, .iload_n 1, 40, [1], []),
  (40, .iconst 2, 41, [], [2]),
  (41, .if_icmp .eq 8, 44, [49], []),
  (44, .iload 4, 46, [], []),
  (46, .goto 27, 49, [73], []),
  (49, .iload 4, 51, [], []),
  (51, .aload_n 0, 52, [0], []),
  (52, .getfield 35, 55, [], []),
  (55, .iload_n 2, 56, [2], []),
  (56, .iaload, 57, [], []),
  (57, .if_icmp .le 15, 60, [72], []),
  (60, .iload 4, 62, [], []),
  (62, .aload_n 0, 63, [0], []),
  (63, .getfield 35, 66, [], []),
  (66, .iload_n 2, 67, [2], []),
  (67, .iaload, 68, [], []),
  (68, .isub, 69, [], []),
  (69, .goto 4, 72, [73], []),
  (72, .iconst 0, 73, [], [0]),
  (73, .iastore, 74, [], []),
  (74, .aload_n 0, 75, [0], []),
  (75, .getfield 141, 78, [], []),
  (78, .iconst 4, 79, [], [4]),
  (79, .aload_n 0, 80, [0], []),
  (80, .getfield 32, 83, [], []),
  (83, .iload_n 2, 84, [2], []),
  (84, .iaload, 85, [], []),
  (85, .iastore, 86, [], []),
  (86, .aload_n 0, 87, [0], []),
  (87, .getfield 141, 90, [], []),
  (90, .iconst 5, 91, [], [5]),
  (91, .iload_n 1, 92, [1], []),
  (92, .iconst 1, 93, [], [1]),
  (93, .if_icmp .ne 8, 96, [101], []),
  (96, .iload 5, 98, [], []),
  (98, .goto 4, 101, [102], []),
  (101, .iconst 0, 102, [], [0]),
  (102, .iastore, 103, [], []),
  (103, .aload_n 0, 104, [0], []),
  (104, .iload_n 1, 105, [1], []),
  (105, .invokevirtual 261, 108, [], []),
  (108, .istore 6, 110, [], []),
  (110, .iload_n 1, 111, [1], []),
  (111, .ifCond .ne 9, 114, [120], []),
  (114, .sipush 200, 117, [], [200]),
  (117, .goto 16, 120, [133], []),
  (120, .iload_n 1, 121, [1], []),
  (121, .iconst 1, 122, [], [1]),
  (122, .if_icmp .ne 8, 125, [130], []),
  (125, .bipush 100, 127, [], [100]),
  (127, .goto 6, 130, [133], []),
  (130, .sipush 999, 133, [], [999]),
  (133, .istore 7, 135, [], []),
  (135, .iload 6, 137, [], []),
  (137, .ifCond .ge 7, 140, [144], []),
  (140, .iconst 0, 141, [], [0]),
  (141, .goto 17, 144, [158], []),
  (144, .iload 6, 146, [], []),
  (146, .iload 7, 148, [], []),
  (148, .if_icmp .le 8, 151, [156], []),
  (151, .iload 7, 153, [], []),
  (153, .goto 5, 156, [158], []),
  (156, .iload 6, 158, [], []),
  (158, .ireturn, 159, [], [])]
theorem zo_X12_says : ab_ok cX12_says zp_X12_says = true := by decide +kernel
def zg_X12_says : ab_G := (zw_M, [], zf_X12, zc_X12, [], [(261, 2, zt_X12_worth)], [])
theorem zm_X12_says : ab_MG zg_X12_says := ab_MGof (List.forall_mem_cons.mpr ⟨zt_X12_worth_mono, List.forall_mem_nil _⟩) (List.forall_mem_nil _)
abbrev zr_X12_says (Q : ab_R) : ab_K := ab_Run zg_X12_says zp_X12_says (some .int) 8 Q
set_option maxRecDepth 20000 in
theorem zv_X12_says_0 {Q : ab_R} {M : ab_M} {N : ab_N} (l1 : Int32) (l2 : Int32) (l3 : Int32) (l4 : Int32) (l5 : Int32) (h : vp_in l3 12 ∧ (vp_in (0 : Int32) 6 ∧ (let z1 : Nat → Int32 := upd (M 27) 0 (M 1 l3.toNatClampNeg); vp_in l2 8 ∧ (vp_in (1 : Int32) 6 ∧ (let z2 : Nat → Int32 := upd (z1) 1 (M 2 l2.toNatClampNeg); vp_in (2 : Int32) 6 ∧ (let z3 : Nat → Int32 := upd (z2) 2 (M 0 2); (l1 = (2 : Int32) → vp_in l2 8 ∧ ((l4 ≤ (M 4 l2.toNatClampNeg) → zr_X12_says Q 73 [some (.ref 0), some (.int l1), some (.int l2), none, none, some (.int l5), none, none] [.int (0 : Int32), .int (3 : Int32), .ref 27] (ab_u (ab_u (ab_u M 27 z1) 27 z2) 27 z3) N) ∧ (¬ (l4 ≤ (M 4 l2.toNatClampNeg)) → vp_in l2 8 ∧ (zr_X12_says Q 73 [some (.ref 0), some (.int l1), some (.int l2), none, none, some (.int l5), none, none] [.int (l4 - (M 4 l2.toNatClampNeg)), .int (3 : Int32), .ref 27] (ab_u (ab_u (ab_u M 27 z1) 27 z2) 27 z3) N)))) ∧ (¬ (l1 = (2 : Int32)) → zr_X12_says Q 73 [some (.ref 0), some (.int l1), some (.int l2), none, none, some (.int l5), none, none] [.int l4, .int (3 : Int32), .ref 27] (ab_u (ab_u (ab_u M 27 z1) 27 z2) 27 z3) N))))))) : zr_X12_says Q 0 [some (.ref 0), some (.int l1), some (.int l2), some (.int l3), some (.int l4), some (.int l5)] [] M N := ab_Run_s zm_X12_says (sp := [(73, [true, true, true, false, false, true, false, false]), (108, [false, true, false, false, false, false, false, false]), (133, [false, false, false, false, false, false, true, false])]) 91 h
set_option maxRecDepth 20000 in
theorem zv_X12_says_73 {Q : ab_R} {M : ab_M} {N : ab_N} (l1 : Int32) (l2 : Int32) (l5 : Int32) (s1 : Int32) (s2 : Int32) (h : vp_in s1 6 ∧ (let z1 : Nat → Int32 := upd (M 27) s1.toNatClampNeg s2; vp_in l2 8 ∧ (vp_in (4 : Int32) 6 ∧ (let z2 : Nat → Int32 := upd (z1) 4 (M 3 l2.toNatClampNeg); (l1 = (1 : Int32) → vp_in (5 : Int32) 6 ∧ (let z3 : Nat → Int32 := upd (z2) 5 l5; zt_X12_worth [.ref 0, .int l1] (ab_u (ab_u (ab_u M 27 z1) 27 z2) 27 z3) N (fun r M2 N2 => zr_X12_says Q 108 [none, some (.int l1), none, none, none, none, none, none] (ab_ol r []) M2 N2))) ∧ (¬ (l1 = (1 : Int32)) → vp_in (5 : Int32) 6 ∧ (let z4 : Nat → Int32 := upd (z2) 5 (0 : Int32); zt_X12_worth [.ref 0, .int l1] (ab_u (ab_u (ab_u M 27 z1) 27 z2) 27 z4) N (fun r M2 N2 => zr_X12_says Q 108 [none, some (.int l1), none, none, none, none, none, none] (ab_ol r []) M2 N2))))))) : zr_X12_says Q 73 [some (.ref 0), some (.int l1), some (.int l2), none, none, some (.int l5), none, none] [.int s2, .int s1, .ref 27] M N := ab_Run_s zm_X12_says (sp := [(73, [true, true, true, false, false, true, false, false]), (108, [false, true, false, false, false, false, false, false]), (133, [false, false, false, false, false, false, true, false])]) 91 h
set_option maxRecDepth 20000 in
theorem zv_X12_says_108 {Q : ab_R} {M : ab_M} {N : ab_N} (l1 : Int32) (s0 : Int32) (h : (l1 = 0 → zr_X12_says Q 133 [none, none, none, none, none, none, some (.int s0), none] [.int (200 : Int32)] M N) ∧ (¬ (l1 = 0) → (l1 = (1 : Int32) → zr_X12_says Q 133 [none, none, none, none, none, none, some (.int s0), none] [.int (100 : Int32)] M N) ∧ (¬ (l1 = (1 : Int32)) → zr_X12_says Q 133 [none, none, none, none, none, none, some (.int s0), none] [.int (999 : Int32)] M N))) : zr_X12_says Q 108 [none, some (.int l1), none, none, none, none, none, none] [.int s0] M N := ab_Run_s zm_X12_says (sp := [(73, [true, true, true, false, false, true, false, false]), (108, [false, true, false, false, false, false, false, false]), (133, [false, false, false, false, false, false, true, false])]) 91 h
set_option maxRecDepth 20000 in
theorem zv_X12_says_133 {Q : ab_R} {M : ab_M} {N : ab_N} (l6 : Int32) (s0 : Int32) (h : (0 ≤ l6 → (l6 ≤ s0 → Q (some (.int l6)) M N) ∧ (¬ (l6 ≤ s0) → Q (some (.int s0)) M N)) ∧ (¬ (0 ≤ l6) → Q (some (.int (0 : Int32))) M N)) : zr_X12_says Q 133 [none, none, none, none, none, none, some (.int l6), none] [.int s0] M N := ab_Run_s zm_X12_says (sp := [(73, [true, true, true, false, false, true, false, false]), (108, [false, true, false, false, false, false, false, false]), (133, [false, false, false, false, false, false, true, false])]) 91 h
theorem zClampR {Q : ab_R} {M : ab_M} {N : ab_N} (m v : Int32) (hm : 0 < m) (h : Q (some (.int (zClamp m v))) M N) : (0 ≤ v → (v ≤ m → Q (some (.int v)) M N) ∧ (¬ (v ≤ m) → Q (some (.int m)) M N)) ∧ (¬ (0 ≤ v) → Q (some (.int (0 : Int32))) M N) := by
  unfold zClamp at h
  refine ⟨fun c => ⟨fun c2 => ?_, fun c2 => ?_⟩, fun c => ?_⟩
  · rw [if_neg (Int32.not_lt.mpr c2)] at h
    by_cases c3 : 0 < v
    · rw [if_pos c3] at h; exact h
    · rw [if_neg c3] at h
      have : v = 0 := by grind
      rw [this]; exact h
  · rw [if_pos (Int32.not_le.mp c2), if_pos hm] at h; exact h
  · rw [if_neg (show ¬ 0 < (if m < v then m else v) by grind)] at h; exact h
theorem zL_X12_says2 {Q : ab_R} {M : ab_M} {N : ab_N} {th : Nat} {v : Int32} (hth : th < 3) (h : Q (some (.int (zClamp (zs_MOST_OF_THING th) v))) M N) : zr_X12_says Q 108 [none, some (.int (nI th)), none, none, none, none, none, none] [.int v] M N := by
  refine zv_X12_says_108 _ _ ?_
  rcases (show th = 0 ∨ th = 1 ∨ th = 2 by omega) with rfl | rfl | rfl
  · rw [show zs_MOST_OF_THING 0 = 200 from rfl] at h
    exact ⟨fun _ => zv_X12_says_133 _ _ (zClampR 200 _ (by decide) h), fun z => absurd nI_0 z⟩
  · rw [show zs_MOST_OF_THING 1 = 100 from rfl] at h
    exact ⟨fun z => absurd z (by decide), fun _ => ⟨fun _ => zv_X12_says_133 _ _ (zClampR 100 _ (by decide) h), fun z => absurd (show nI 1 = 1 by decide) z⟩⟩
  · rw [show zs_MOST_OF_THING 2 = 999 from rfl] at h
    exact ⟨fun z => absurd z (by decide), fun _ => ⟨fun z => absurd z (by decide), fun _ => zv_X12_says_133 _ _ (zClampR 999 _ (by decide) h)⟩⟩
theorem zL_X12_says {Q : ab_R} {M : ab_M} {N : ab_N} {d : ab_M} {th p h is by_ : Nat} (hR : zRN d M) (hth : th < 3) (hp : p < 8) (pc : Int32) (hby : (if th = 1 then pc else 0) = nI by_) (F : Nat → Int32) (e0 : F 0 = d 18 h) (e1 : F 1 = d 13 p) (e2 : F 2 = d 17 2) (hk : ∀ M2, zFr [26, 27] M M2 → Q (some (.int (nI (zAskN d th p h is by_)))) M2 N) : zr_X12_says Q 73 [some (.ref 0), some (.int (nI th)), some (.int (nI p)), none, none, some (.int pc), none, none] [.int (nI is), .int (3 : Int32), .ref 27] (ab_u M 27 F) N := by
  obtain ⟨⟨ha, hb, hc, hl⟩, hn⟩ := id hR
  refine zv_X12_says_73 _ _ _ _ _ ?_
  refine ⟨ab_vpk (by decide), ?_⟩
  intro z1
  refine ⟨nI_in_ hp, ab_vpk (by decide), ?_⟩
  intro z2
  have zz : ∀ F5 : Nat → Int32, F5 = upd z2 5 (nI by_) → zt_X12_worth [.ref 0, .int (nI th)] (ab_u (ab_u (ab_u (ab_u M 27 F) 27 z1) 27 z2) 27 F5) N (fun r M2 N2 => zr_X12_says Q 108 [none, some (.int (nI th)), none, none, none, none, none, none] (ab_ol r []) M2 N2) := by
    intro F5 eF
    rw [ab_u_u, ab_u_u, ab_u_u]
    have hl2 : zLawR d (ab_u M 27 F5) := by
      obtain ⟨w, hw, l1, l2, l3⟩ := hl
      exact ⟨w, hw, l1, l2, zTextEq_fr l3 rfl rfl⟩
    refine ⟨(d, th), _, rfl, ⟨rfl, hth, hl2⟩, ?_⟩
    rintro o M2 N2 ⟨rfl, hF, rfl⟩
    have hF2 : zFr [26, 27] M M2 := fun c hcc => by
      rw [hF c (fun z => hcc (by simp at z; simp [z])), ab_u_ne _ _ (fun z => hcc (by simp [z]))]
    have hnm : zVal d th (ab_u M 27 F5 27) = zVal d th (zNm d p h is by_) := by
      unfold zVal
      rw [zEval_nm]
      intro j hj
      have n27 : ab_u M 27 F5 27 = F5 := ab_u_eq _ _ _
      have m3 : ab_u M 27 F 3 = M 3 := ab_u_ne _ _ (by decide)
      rw [n27, eF]
      match j, hj with
      | 0, _ => simp [z2, z1, upd, ab_u_eq, e0, zNm]
      | 1, _ => simp [z2, z1, upd, ab_u_eq, e1, zNm]
      | 2, _ => simp [z2, z1, upd, ab_u_eq, e2, zNm]
      | 3, _ => simp [z2, z1, upd, zNm]
      | 4, _ => simp [z2, z1, upd, zNm, hb.2.2.1, m3, nI_clamp (show p < 2 ^ 31 by omega)]
      | 5, _ => simp [upd, zNm]
    obtain ⟨k1, -⟩ := zClamp_n th hth (zVal d th (zNm d p h is by_))
    have hk2 := hk M2 hF2
    rw [show nI (zAskN d th p h is by_) = zClamp (zs_MOST_OF_THING th) (zVal d th (zNm d p h is by_)) from k1.symm] at hk2
    rw [hnm]
    exact zL_X12_says2 hth hk2
  refine ⟨fun c => ⟨ab_vpk (by decide), ?_⟩, fun c => ⟨ab_vpk (by decide), ?_⟩⟩
  · intro z3
    have et : th = 1 := (nI_eq (by omega) (by decide)).mp (show nI th = nI 1 from c)
    rw [if_pos et] at hby
    exact zz z3 (by rw [← hby])
  · intro z3
    have et : ¬ th = 1 := fun z => c (by rw [z]; rfl)
    rw [if_neg et] at hby
    exact zz z3 (by rw [← hby])
theorem zE_X12_says (as : List Value) (M : ab_M) (N : ab_N) (k : ab_R) (hT : zt_X12_says as M N k) : ab_cs as ≤ 8 ∧ zr_X12_says k 0 (ab_en as) [] M N := by
  obtain ⟨⟨d, th, p, h, st, pc⟩, r, rfl, ⟨rfl, hR, hth, hp, hh, hst⟩, hk⟩ := hT
  dsimp only at hR hth hp hh hst hk ⊢
  refine ⟨Nat.le_of_ble_eq_true rfl, zv_X12_says_0 _ _ _ _ _ ?_⟩
  obtain ⟨⟨ha, hb, hc, hl⟩, hn⟩ := id hR
  obtain ⟨sk, hs1, hs2⟩ := hn.2.2.1 p hp
  have h4 : M 4 (nI p).toNatClampNeg = nI sk := by rw [nI_clamp (by omega), ← hb.2.2.2.1, hs2]
  refine ⟨nI_in_ hh, ab_vpk (by decide), ?_⟩
  intro z1
  refine ⟨nI_in_ hp, ab_vpk (by decide), ?_⟩
  intro z2
  refine ⟨ab_vpk (by decide), ?_⟩
  intro z3
  have hby : (if th = 1 then nI pc else 0) = nI (if th = 1 then pc else 0) := by
    by_cases c : th = 1
    · rw [if_pos c, if_pos c]
    · rw [if_neg c, if_neg c]; rfl
  have go : ∀ is, is = zIs d th p st → zr_X12_says k 73 [some (.ref 0), some (.int (nI th)), some (.int (nI p)), none, none, some (.int (nI pc)), none, none] [.int (nI is), .int (3 : Int32), .ref 27] (ab_u (ab_u (ab_u M 27 z1) 27 z2) 27 z3) N := by
    intro is eis
    subst eis
    rw [ab_u_u, ab_u_u]
    refine zL_X12_says hR hth hp (nI pc) hby z3 ?_ ?_ ?_ (fun M2 hF => hk _ _ _ ⟨rfl, hF, rfl⟩)
    · simp [z3, z2, z1, upd, hb.1, nI_clamp (show h < 2 ^ 31 by omega)]
    · simp [z3, z2, z1, upd, hb.2.1, nI_clamp (show p < 2 ^ 31 by omega)]
    · simp [z3, upd, ha.2.2.1]
  refine ⟨fun c => ⟨nI_in_ hp, ?_⟩, fun c => ?_⟩
  · have et : th = 2 := (nI_eq (by omega) (by decide)).mp (show nI th = nI 2 from c)
    rw [h4]
    refine ⟨fun c2 => ?_, fun c2 => ⟨nI_in_ hp, ?_⟩⟩
    · have : st ≤ sk := (nI_leI (by omega) (by omega)).mp c2
      refine go 0 ?_
      unfold zIs
      rw [if_pos et, hs2, nI_clamp (by omega)]
      omega
    · have : ¬ st ≤ sk := fun z => c2 (nI_le z (by omega))
      rw [pk_sub (by omega)]
      refine go (st - sk) ?_
      unfold zIs
      rw [if_pos et, hs2, nI_clamp (by omega)]
  · have et : ¬ th = 2 := fun z => c (by rw [z]; rfl)
    refine go st ?_
    unfold zIs
    rw [if_neg et]
abbrev zR_X12_says : Room := { frames := 2, cells := 0, slots := 0, locals := 46 }
set_option maxRecDepth 20000 in
theorem zM_X12_says (l : Launch) : ab_Met l zw_M vwCl zZ_M yX12_says cX12_says 8 (some .int) zR_X12_says zt_X12_says := ab_ofRun (G := zg_X12_says) (P := zp_X12_says) rfl zo_X12_says (by decide +kernel) zl_cl zl_lamM zf_X12_ok ab_Tab_nil zc_X12_ok ab_Sta_nil (List.forall_mem_cons.mpr ⟨ab_callV zZ_M_ok (zM_X12_worth l) (ab_in 1286 (by decide +kernel) rfl) (ab_in 1283 (by decide +kernel) rfl) (ab_in 1285 (by decide +kernel) rfl) (ab_inS (List.mem_of_getElem? (i := 38) (by decide +kernel)) rfl) (ab_in 17 (by decide +kernel) rfl) (by unfold ab_yok; decide +kernel) ⟨rfl, rfl⟩ (by decide) zV_X12_worth, List.forall_mem_nil _⟩) (List.forall_mem_nil _) zE_X12_says
