/-! the reference: a night in parts *)
-/
def zHasR (N : ab_N) (s : zRs) : Prop := (∀ j, j < 7 → N 32 j = s.1 j) ∧ N 0 66 = s.2.1 ∧ N 0 67 = s.2.2
theorem zAskR_le (d : ab_M) (th : Nat) (hth : th < 3) (p h st pc : Nat) : zAsk d th p h st pc ≤ 999 := (zClamp_n th hth _).2
def zt_X12_lookBy : ab_T := ab_lq (α := ab_M × Nat × Nat × Nat) (fun x r M _ => r = [.int (nI x.2.1), .int (nI x.2.2.1), .int (nI x.2.2.2)] ∧ zRN x.1 M ∧ x.2.1 < 8 ∧ x.2.2.1 < 12)
  (fun x M N o M2 N2 => o = none ∧ zFr [26, 27] M M2 ∧ zNfr [0, 32] N N2 ∧ ∀ s, zHasR N s → zHasR N2 (zLook x.1 x.2.1 x.2.2.1 x.2.2.2 (zBrk x.1 - 1) s))
theorem zt_X12_lookBy_mono : ab_mono zt_X12_lookBy := ab_lq_mono _ _
theorem zV_X12_lookBy : ab_recv zw_M vwCl RX12 zt_X12_lookBy := ab_lq_v
def zp_X12_lookBy : ab_P := [(0, .iconst 1, 1, [], [1]),
  (1, .istore 4, 3, [], []),
  (3, .iload 4, 5, [], []),
  (5, .aload_n 0, 6, [0], []),
  (6, .getfield 13, 9, [], []),
  (9, .if_icmp .ge 91, 12, [100], []),
  (12, .aload_n 0, 13, [0], []),
  (13, .getfield 157, 16, [], []),
  (16, .iload 4, 18, [], []),
  (18, .laload, 19, [], []),
  (19, .aload_n 0, 20, [0], []),
  (20, .iconst 1, 21, [], [1]),
  (21, .iload_n 1, 22, [1], []),
  (22, .iload_n 2, 23, [2], []),
  (23, .iload 4, 25, [], []),
  (25, .iload_n 3, 26, [3], []),
  (26, .invokevirtual 264, 29, [], []),
  (29, .i2l, 30, [], []),
  (30, .lmul, 31, [], []),
  (31, .ldc2_w 317, 34, [], []),
  (34, .ldiv, 35, [], []),
  (35, .lstore 5, 37, [], []),
  (37, .aload_n 0, 38, [0], []),
  (38, .getfield 157, 41, [], []),
  (41, .iload 4, 43, [], []),
  (43, .dup2, 44, [], []),
  (44, .laload, 45, [], []),
  (45, .lload 5, 47, [], []),
  (47, .lsub, 48, [], []),
  (48, .lastore, 49, [], []),
  (49, .aload_n 0, 50, [0], []),
  (50, .getfield 157, 53, [], []),
  (53, .iconst 0, 54, [], [0]),
  (54, .dup2, 55, [], []),
  (55, .laload, 56, [], []),
  (56, .lload 5, 58, [], []),
  (58, .ladd, 59, [], []),
  (59, .lastore, 60, [], []),
  (60, .aload_n 0, 61, [0], []),
  (61, .dup, 62, [], []),
  (62, .getfield 319, 65, [], []),
  (65, .lload 5, 67, [], []),
  (67, .ladd, 68, [], []),
  (68, .putfield 319, 71, [], []),
  (71, .aload_n 0, 72, [0], []),
  (72, .dup, 73, [], []),
  (73, .getfield 323, 76, [], []),
  (76, .lload 5, 78, [], []),
  (78, .aload_n 0, 79, [0], []),
  (79, .iconst 2, 80, [], [2]),
  (80, .iload_n 1, 81, [1], []),
  (81, .iload_n 2, 82, [2], []),
  (82, .iload 4, 84, [], []),
  (84, .iconst 0, 85, [], [0]),
  (85, .invokevirtual 264, 88, [], []),
  (88, .i2l, 89, [], []),
  (89, .lmul, 90, [], []),
  (90, .ladd, 91, [], []),
  (91, .putfield 323, 94, [], []),
  (94, .iinc 4 1, 97, [], [1]),
  (97, .goto (-94), 100, [3], []),
  (100, .return_, 101, [], [])]
theorem zo_X12_lookBy : ab_ok cX12_lookBy zp_X12_lookBy = true := by decide +kernel
def zg_X12_lookBy : ab_G := (zw_M, [], zf_X12, zc_X12, [], [(264, 6, zt_X12_says)], [])
theorem zm_X12_lookBy : ab_MG zg_X12_lookBy := ab_MGof (List.forall_mem_cons.mpr ⟨zt_X12_says_mono, List.forall_mem_nil _⟩) (List.forall_mem_nil _)
abbrev zr_X12_lookBy (Q : ab_R) : ab_K := ab_Run zg_X12_lookBy zp_X12_lookBy none 7 Q
set_option maxRecDepth 20000 in
theorem zv_X12_lookBy_0 {Q : ab_R} {M : ab_M} {N : ab_N} (l1 : Int32) (l2 : Int32) (l3 : Int32) (h : zr_X12_lookBy Q 3 [some (.ref 0), some (.int l1), some (.int l2), some (.int l3), some (.int (1 : Int32)), none, none] [] M N) : zr_X12_lookBy Q 0 [some (.ref 0), some (.int l1), some (.int l2), some (.int l3)] [] M N := ab_Run_s zm_X12_lookBy (sp := [(3, [true, true, true, true, true, false, false]), (29, [true, true, true, true, true, false, false]), (88, [true, true, true, true, true, false, false])]) 64 h
set_option maxRecDepth 20000 in
theorem zv_X12_lookBy_3 {Q : ab_R} {M : ab_M} {N : ab_N} (l1 : Int32) (l2 : Int32) (l3 : Int32) (l4 : Int32) (h : ((M 0 1) ≤ l4 → Q none M N) ∧ (¬ ((M 0 1) ≤ l4) → vp_in l4 7 ∧ (zt_X12_says [.ref 0, .int (1 : Int32), .int l1, .int l2, .int l4, .int l3] M N (fun r M2 N2 => zr_X12_lookBy Q 29 [some (.ref 0), some (.int l1), some (.int l2), some (.int l3), some (.int l4), none, none] (ab_ol r [.long (N 32 l4.toNatClampNeg)]) M2 N2)))) : zr_X12_lookBy Q 3 [some (.ref 0), some (.int l1), some (.int l2), some (.int l3), some (.int l4), none, none] [] M N := ab_Run_s zm_X12_lookBy (sp := [(3, [true, true, true, true, true, false, false]), (29, [true, true, true, true, true, false, false]), (88, [true, true, true, true, true, false, false])]) 64 h
set_option maxRecDepth 20000 in
theorem zv_X12_lookBy_29 {Q : ab_R} {M : ab_M} {N : ab_N} (l1 : Int32) (l2 : Int32) (l3 : Int32) (l4 : Int32) (s0 : Int64) (s1 : Int32) (h : ¬ (100 : Int64) = 0 ∧ (vp_in l4 7 ∧ (vp_in l4 7 ∧ (let y1 : Nat → Int64 := vp_updL (N 32) l4.toNatClampNeg ((N 32 l4.toNatClampNeg) - ((s0 * (s1.toInt64)) / (100 : Int64))); vp_in (0 : Int32) 7 ∧ (vp_in (0 : Int32) 7 ∧ (let y2 : Nat → Int64 := vp_updL (y1) 0 ((y1 0) + ((s0 * (s1.toInt64)) / (100 : Int64))); let y3 : Nat → Int64 := vp_updL (N 0) 67 ((N 0 67) + ((s0 * (s1.toInt64)) / (100 : Int64))); zt_X12_says [.ref 0, .int (2 : Int32), .int l1, .int l2, .int l4, .int (0 : Int32)] M (ab_u (ab_u (ab_u N 32 y1) 32 y2) 0 y3) (fun r M2 N2 => zr_X12_lookBy Q 88 [some (.ref 0), some (.int l1), some (.int l2), some (.int l3), some (.int l4), none, none] (ab_ol r [.long ((s0 * (s1.toInt64)) / (100 : Int64)), .long (y3 66), .ref 0]) M2 N2))))))) : zr_X12_lookBy Q 29 [some (.ref 0), some (.int l1), some (.int l2), some (.int l3), some (.int l4), none, none] [.int s1, .long s0] M N := ab_Run_s zm_X12_lookBy (sp := [(3, [true, true, true, true, true, false, false]), (29, [true, true, true, true, true, false, false]), (88, [true, true, true, true, true, false, false])]) 64 h
set_option maxRecDepth 20000 in
theorem zv_X12_lookBy_88 {Q : ab_R} {M : ab_M} {N : ab_N} (l1 : Int32) (l2 : Int32) (l3 : Int32) (l4 : Int32) (s1 : Int64) (s2 : Int64) (s3 : Int32) (h : let y1 : Nat → Int64 := vp_updL (N 0) 66 (s1 + (s2 * (s3.toInt64))); zr_X12_lookBy Q 3 [some (.ref 0), some (.int l1), some (.int l2), some (.int l3), some (.int (l4 + (1 : Int32))), none, none] [] M (ab_u N 0 y1)) : zr_X12_lookBy Q 88 [some (.ref 0), some (.int l1), some (.int l2), some (.int l3), some (.int l4), none, none] [.int s3, .long s2, .long s1, .ref 0] M N := ab_Run_s zm_X12_lookBy (sp := [(3, [true, true, true, true, true, false, false]), (29, [true, true, true, true, true, false, false]), (88, [true, true, true, true, true, false, false])]) 64 h
theorem zL_X12_lookBy {Q : ab_R} {d M0 : ab_M} {N0 : ab_N} {p h pc : Nat} (hR : zRN d M0) (hp : p < 8) (hh : h < 12) (kk : ∀ M N, zFr [26, 27] M0 M → zNfr [0, 32] N0 N → (∀ s, zHasR N0 s → zHasR N (zLook d p h pc (zBrk d - 1) s)) → Q none M N) : ∀ (r t : Nat) (M : ab_M) (N : ab_N), t + 1 + r = zBrk d → zFr [26, 27] M0 M → zNfr [0, 32] N0 N → (∀ s, zHasR N0 s → zHasR N (zLook d p h pc t s)) → zr_X12_lookBy Q 3 [some (.ref 0), some (.int (nI p)), some (.int (nI h)), some (.int (nI pc)), some (.int (nI (t + 1))), none, none] [] M N := by
  obtain ⟨n1, n2, n3, n4, n5, n6, n7, n8, n9, n10⟩ := zNI_n hR
  intro r
  induction r with
  | zero =>
    intro t M N ht hF hG hs
    refine zv_X12_lookBy_3 _ _ _ _ ?_
    rw [hF 0 (by decide), n8]
    refine ⟨fun _ => kk M N hF hG (fun s h => ?_), fun c => absurd (nI_le (by omega) (by omega)) c⟩
    rw [show zBrk d - 1 = t by omega]
    exact hs s h
  | succ r ih =>
    intro t M N ht hF hG hs
    have hin : vp_in (nI (t + 1)) 7 := nI_in_ (by omega)
    refine zv_X12_lookBy_3 _ _ _ _ ?_
    rw [hF 0 (by decide), n8, nI_clamp (show t + 1 < 2 ^ 31 by omega)]
    refine ⟨fun c => absurd c (nI_ge (by omega) (by omega)), fun _ => ⟨hin, ?_⟩⟩
    refine ⟨(d, 1, p, h, t + 1, pc), _, rfl, ⟨rfl, zRN_zfr hR hF (by decide), (show 1 < 3 by decide), hp, hh, by dsimp only; omega⟩, ?_⟩
    rintro o M2 N2 ⟨rfl, hF2, rfl⟩
    have hF2 := zFr_tr hF hF2
    have a1 := zAskR_le d 1 (by decide) p h (t + 1) pc
    have a2 := zAskR_le d 2 (by decide) p h (t + 1) 0
    refine zv_X12_lookBy_29 _ _ _ _ _ _ ?_
    dsimp -zeta only
    rw [nI_clamp (show t + 1 < 2 ^ 31 by omega), nI_l (by omega)]
    refine ⟨by decide, hin, hin, ?_⟩
    intro y1
    refine ⟨ab_vpk (by decide), ab_vpk (by decide), ?_⟩
    intro y2 y3
    refine ⟨(d, 2, p, h, t + 1, 0), _, rfl, ⟨rfl, zRN_zfr hR hF2 (by decide), (show 2 < 3 by decide), hp, hh, by dsimp only; omega⟩, ?_⟩
    rintro o M3 N3 ⟨rfl, hF3, rfl⟩
    have hF3 := zFr_tr hF2 hF3
    refine zv_X12_lookBy_88 _ _ _ _ _ _ _ ?_
    intro y4
    rw [nI_1]
    refine ih (t + 1) M3 _ (by omega) hF3 (zNfr_u (zNfr_u (zNfr_u (zNfr_u hG (by decide) _) (by decide) _) (by decide) _) (by decide) _) (fun s h0 => ?_)
    obtain ⟨b1, b2, b3⟩ := hs s h0
    have e1 : zLook d p h pc (t + 1) s = zLook1 d p h pc (t + 1) (zLook d p h pc t s) := rfl
    rw [e1]
    generalize zLook d p h pc t s = z at b1 b2 b3 ⊢
    have bt : N2 32 (t + 1) = z.1 (t + 1) := b1 (t + 1) (by omega)
    have ey1 : ∀ j, j < 7 → y1 j = vp_updL z.1 (t + 1) (z.1 (t + 1) - z.1 (t + 1) * lN (zAsk d 1 p h (t + 1) pc) / 100) j := fun j hj => by
      simp only [y1]
      rw [bt]
      by_cases e : j = t + 1
      · subst e; rw [updL_eq, updL_eq]
      · rw [updL_ne _ _ e, updL_ne _ _ e]; exact b1 j hj
    refine ⟨fun j hj => ?_, ?_, ?_⟩
    · show ab_u (ab_u (ab_u (ab_u N2 32 y1) 32 y2) 0 y3) 0 y4 32 j = _
      rw [ab_u_ne _ _ (by decide), ab_u_ne _ _ (by decide), ab_u_eq]
      unfold zLook1
      dsimp only
      simp only [y2]
      rw [bt, ey1 0 (by omega)]
      by_cases e : j = 0
      · subst e; rw [updL_eq, updL_eq]
      · rw [updL_ne _ _ e, updL_ne _ _ e]; exact ey1 j hj
    · show ab_u (ab_u (ab_u (ab_u N2 32 y1) 32 y2) 0 y3) 0 y4 0 66 = _
      rw [ab_u_eq]
      unfold zLook1
      dsimp only
      simp only [y4, y3]
      rw [updL_eq, updL_ne _ _ (by decide), nI_l (by omega), bt, b2]
    · show ab_u (ab_u (ab_u (ab_u N2 32 y1) 32 y2) 0 y3) 0 y4 0 67 = _
      rw [ab_u_eq]
      unfold zLook1
      dsimp only
      simp only [y4]
      rw [updL_ne _ _ (by decide), ab_u_eq]
      simp only [y3]
      rw [updL_eq, bt, b3]
theorem zE_X12_lookBy (as : List Value) (M : ab_M) (N : ab_N) (k : ab_R) (hT : zt_X12_lookBy as M N k) : ab_cs as ≤ 7 ∧ zr_X12_lookBy k 0 (ab_en as) [] M N := by
  obtain ⟨⟨d, p, h, pc⟩, r, rfl, ⟨rfl, hR, hp, hh⟩, hk⟩ := hT
  obtain ⟨n1, n2, n3, n4, n5, n6, n7, n8, n9, n10⟩ := zNI_n hR
  refine ⟨Nat.le_of_ble_eq_true rfl, zv_X12_lookBy_0 _ _ _ ?_⟩
  exact zL_X12_lookBy hR hp hh (fun M2 N2 hF hG hs => hk _ _ _ ⟨rfl, hF, hG, hs⟩) (zBrk d - 1) 0 M N (by dsimp only at n9 ⊢; omega) (zFr_rf _ _) (zNfr_rf _ _) (fun s h => h)
abbrev zR_X12_lookBy : Room := { frames := 3, cells := 0, slots := 0, locals := 73 }
set_option maxRecDepth 20000 in
theorem zM_X12_lookBy (l : Launch) : ab_Met l zw_M vwCl zZ_M yX12_lookBy cX12_lookBy 7 none zR_X12_lookBy zt_X12_lookBy := ab_ofRun (G := zg_X12_lookBy) (P := zp_X12_lookBy) rfl zo_X12_lookBy (by decide +kernel) zl_cl zl_lamM zf_X12_ok ab_Tab_nil zc_X12_ok ab_Sta_nil (List.forall_mem_cons.mpr ⟨ab_callV zZ_M_ok (zM_X12_says l) (ab_in 1282 (by decide +kernel) rfl) (ab_in 1279 (by decide +kernel) rfl) (ab_in 1281 (by decide +kernel) rfl) (ab_inS (List.mem_of_getElem? (i := 37) (by decide +kernel)) rfl) (ab_in 17 (by decide +kernel) rfl) (by unfold ab_yok; decide +kernel) ⟨rfl, rfl⟩ (by decide) zV_X12_says, List.forall_mem_nil _⟩) (List.forall_mem_nil _) zE_X12_lookBy
theorem zBit_iff {d : ab_M} {h p w : Nat} {pl : Nat → Int32} (h5 : zMen d ≤ 5) (hw : w < 8) : zBit (zLk d h pl (zMen d) p) w ↔ (w < zMen d ∧ zDoes d w h ∧ pl w = nI p) ∨ (w = 5 ∧ zVil d p h) ∨ (w = 6 ∧ ¬ d 16 p = 0) ∨ (w = 7 ∧ zMor d p h) := by
  obtain ⟨l1, l2⟩ := zLk_N (d := d) (h := h) (p := p) (pl := pl) (zMen d) h5
  rw [← zLkN_bit hw (zMen d) h5]
  unfold zBit
  rw [l1]
  have := zB_bit _ l2 w hw
  cases e : (zLkN d h pl (zMen d) p).testBit w
  · rw [e] at this
    simp at this
    simp [this]
  · rw [e] at this
    simp at this
    simp [this]
def zt_X12_reckons : ab_T := ab_lq (α := ab_M × Nat × Nat) (fun x r M _ => r = [.int (nI x.2.1), .int (nI x.2.2)] ∧ zRN x.1 M ∧ zWkR x.1 M (zHrs x.1) ∧ x.2.1 < zPcs x.1 ∧ x.2.2 < zHrs x.1)
  (fun x M N o M2 N2 => o = none ∧ zFr [26, 27] M M2 ∧ zNfr [0, 32] N N2 ∧ zHasR N2 (zRk x.1 x.2.1 (x.2.2 + 1)))
theorem zt_X12_reckons_mono : ab_mono zt_X12_reckons := ab_lq_mono _ _
theorem zV_X12_reckons : ab_recv zw_M vwCl RX12 zt_X12_reckons := ab_lq_v
def zp_X12_reckons : ab_P := [(0, .iconst 0, 1, [], [0]),
  (1, .istore_n 3, 2, [3], []),
  (2, .iload_n 3, 3, [3], []),
  (3, .bipush 7, 5, [], [7]),
  (5, .if_icmp .ge 26, 8, [31], []),
  (8, .aload_n 0, 9, [0], []),
  (9, .getfield 157, 12, [], []),
  (12, .iload_n 3, 13, [3], []),
  (13, .iload_n 3, 14, [3], []),
  (14, .ifCond .ne 9, 17, [23], []),
  (17, .ldc2_w 326, 20, [], []),
  (20, .goto 4, 23, [24], []),
  (23, .lconst 0, 24, [0], []),
  (24, .lastore, 25, [], []),
  (25, .iinc 3 1, 28, [], [1]),
  (28, .goto (-26), 31, [2], []),
  (31, .aload_n 0, 32, [0], []),
  (32, .lconst 0, 33, [0], []),
  (33, .putfield 323, 36, [], []),
  (36, .aload_n 0, 37, [0], []),
  (37, .lconst 0, 38, [0], []),
  (38, .putfield 319, 41, [], []),
  (41, .iconst 0, 42, [], [0]),
  (42, .istore_n 3, 43, [3], []),
  (43, .iload_n 3, 44, [3], []),
  (44, .iload_n 2, 45, [2], []),
  (45, .if_icmp .gt 283, 48, [328], []),
  (48, .aload_n 0, 49, [0], []),
  (49, .getfield 157, 52, [], []),
  (52, .iconst 0, 53, [], [0]),
  (53, .laload, 54, [], []),
  (54, .lstore 4, 56, [], []),
  (56, .aload_n 0, 57, [0], []),
  (57, .dup, 58, [], []),
  (58, .getfield 323, 61, [], []),
  (61, .aload_n 0, 62, [0], []),
  (62, .getfield 157, 65, [], []),
  (65, .aload_n 0, 66, [0], []),
  (66, .getfield 13, 69, [], []),
  (69, .iconst 1, 70, [], [1]),
  (70, .isub, 71, [], []),
  (71, .laload, 72, [], []),
  (72, .aload_n 0, 73, [0], []),
  (73, .getfield 13, 76, [], []),
  (76, .iconst 1, 77, [], [1]),
  (77, .if_icmp .le 18, 80, [95], []),
  (80, .aload_n 0, 81, [0], []),
  (81, .iconst 2, 82, [], [2]),
  (82, .iload_n 1, 83, [1], []),
  (83, .iload_n 3, 84, [3], []),
  (84, .aload_n 0, 85, [0], []),
  (85, .getfield 13, 88, [], []),
  (88, .iconst 0, 89, [], [0]),
  (89, .invokevirtual 264, 92, [], []),
  (92, .goto 4, 95, [96], []),
  (95, .iconst 0, 96, [], [0]),
  (96, .i2l, 97, [], []),
  (97, .lmul, 98, [], []),
  (98, .ladd, 99, [], []),
  (99, .putfield 323, 102, [], []),
  (102, .aload_n 0, 103, [0], []),
  (103, .getfield 157, 106, [], []),
  (106, .aload_n 0, 107, [0], []),
  (107, .getfield 13, 110, [], []),
  (110, .dup2, 111, [], []),
  (111, .laload, 112, [], []),
  (112, .aload_n 0, 113, [0], []),
  (113, .getfield 157, 116, [], []),
  (116, .aload_n 0, 117, [0], []),
  (117, .getfield 13, 120, [], []),
  (120, .iconst 1, 121, [], [1]),
  (121, .isub, 122, [], []),
  (122, .laload, 123, [], []),
  (123, .ladd, 124, [], []),
  (124, .lastore, 125, [], []),
  (125, .aload_n 0, 126, [0], []),
  (126, .getfield 13, 129, [], []),
  (129, .iconst 1, 130, [], [1]),
  (130, .isub, 131, [], []),
  (131, .istore 6, 133, [], []),
  (133, .iload 6, 135, [], []),
  (135, .iconst 1, 136, [], [1]),
  (136, .if_icmp .le 25, 139, [161], []),
  (139, .aload_n 0, 140, [0], []),
  (140, .getfield 157, 143, [], []),
  (143, .iload 6, 145, [], []),
  (145, .aload_n 0, 146, [0], []),
  (146, .getfield 157, 149, [], []),
  (149, .iload 6, 151, [], []),
  (151, .iconst 1, 152, [], [1]),
  (152, .isub, 153, [], []),
  (153, .laload, 154, [], []),
  (154, .lastore, 155, [], []),
  (155, .iinc 6 (-1), 158, [], [(-1)]),
  (158, .goto (-25), 161, [133], []),
  (161, .lload 4, 163, [], []),
  (163, .aload_n 0, 164, [0], []),
  (164, .iconst 0, 165, [], [0]),
  (165, .iload_n 1, 166, [1], []),
  (166, .iload_n 3, 167, [3], []),
  (167, .aload_n 0, 168, [0], []),
  (168, .getfield 150, 171, [], []),
  (171, .bipush 12, 173, [], [12]),
  (173, .iload_n 1, 174, [1], []),
  (174, .imul, 175, [], []),
  (175, .iload_n 3, 176, [3], []),
  (176, .iadd, 177, [], []),
  (177, .iaload, 178, [], []),
  (178, .iconst 0, 179, [], [0]),
  (179, .invokevirtual 264, 182, [], []),
  (182, .i2l, 183, [], []),
  (183, .lmul, 184, [], []),
  (184, .ldc2_w 328, 187, [], []),
  (187, .ldiv, 188, [], []),
  (188, .lstore 6, 190, [], []),
  (190, .aload_n 0, 191, [0], []),
  (191, .getfield 157, 194, [], []),
  (194, .iconst 0, 195, [], [0]),
  (195, .dup2, 196, [], []),
  (196, .laload, 197, [], []),
  (197, .lload 6, 199, [], []),
  (199, .lsub, 200, [], []),
  (200, .lastore, 201, [], []),
  (201, .aload_n 0, 202, [0], []),
  (202, .getfield 157, 205, [], []),
  (205, .iconst 1, 206, [], [1]),
  (206, .lload 6, 208, [], []),
  (208, .lastore, 209, [], []),
  (209, .iconst 0, 210, [], [0]),
  (210, .istore 8, 212, [], []),
  (212, .iload 8, 214, [], []),
  (214, .aload_n 0, 215, [0], []),
  (215, .getfield 179, 218, [], []),
  (218, .if_icmp .ge 48, 221, [266], []),
  (221, .aload_n 0, 222, [0], []),
  (222, .getfield 144, 225, [], []),
  (225, .bipush 12, 227, [], [12]),
  (227, .iload 8, 229, [], []),
  (229, .imul, 230, [], []),
  (230, .iload_n 3, 231, [3], []),
  (231, .iadd, 232, [], []),
  (232, .iaload, 233, [], []),
  (233, .iload_n 1, 234, [1], []),
  (234, .if_icmp .ne 26, 237, [260], []),
  (237, .aload_n 0, 238, [0], []),
  (238, .iload 8, 240, [], []),
  (240, .iload_n 3, 241, [3], []),
  (241, .invokevirtual 282, 244, [], []),
  (244, .ifCond .eq 16, 247, [260], []),
  (247, .aload_n 0, 248, [0], []),
  (248, .iload_n 1, 249, [1], []),
  (249, .iload_n 3, 250, [3], []),
  (250, .aload_n 0, 251, [0], []),
  (251, .getfield 50, 254, [], []),
  (254, .iload 8, 256, [], []),
  (256, .iaload, 257, [], []),
  (257, .invokevirtual 330, 260, [], []),
  (260, .iinc 8 1, 263, [], [1]),
  (263, .goto (-51), 266, [212], []),
  (266, .aload_n 0, 267, [0], []),
  (267, .iload_n 1, 268, [1], []),
  (268, .iload_n 3, 269, [3], []),
  (269, .invokevirtual 286, 272, [], []),
  (272, .ifCond .eq 10, 275, [282], []),
  (275, .aload_n 0, 276, [0], []),
  (276, .iload_n 1, 277, [1], []),
  (277, .iload_n 3, 278, [3], []),
  (278, .iconst 0, 279, [], [0]),
  (279, .invokevirtual 330, 282, [], []),
  (282, .aload_n 0, 283, [0], []),
  (283, .getfield 38, 286, [], []),
  (286, .iload_n 1, 287, [1], []),
  (287, .iaload, 288, [], []),
  (288, .iconst 1, 289, [], [1]),
  (289, .if_icmp .ne 10, 292, [299], []),
  (292, .aload_n 0, 293, [0], []),
  (293, .iload_n 1, 294, [1], []),
  (294, .iload_n 3, 295, [3], []),
  (295, .iconst 0, 296, [], [0]),
  (296, .invokevirtual 330, 299, [], []),
  (299, .iload_n 1, 300, [1], []),
  (300, .aload_n 0, 301, [0], []),
  (301, .getfield 71, 304, [], []),
  (304, .if_icmp .ne 18, 307, [322], []),
  (307, .iload_n 3, 308, [3], []),
  (308, .aload_n 0, 309, [0], []),
  (309, .getfield 289, 312, [], []),
  (312, .if_icmp .ne 10, 315, [322], []),
  (315, .aload_n 0, 316, [0], []),
  (316, .iload_n 1, 317, [1], []),
  (317, .iload_n 3, 318, [3], []),
  (318, .iconst 1, 319, [], [1]),
  (319, .invokevirtual 330, 322, [], []),
  (322, .iinc 3 1, 325, [], [1]),
  (325, .goto (-282), 328, [43], []),
  (328, .return_, 329, [], [])]
theorem zo_X12_reckons : ab_ok cX12_reckons zp_X12_reckons = true := by decide +kernel
def zg_X12_reckons : ab_G := (zw_M, [], zf_X12, zc_X12, [], [(264, 6, zt_X12_says), (282, 3, zt_X12_doesLook), (286, 3, zt_X12_isVillage), (330, 4, zt_X12_lookBy)], [])
theorem zm_X12_reckons : ab_MG zg_X12_reckons := ab_MGof (List.forall_mem_cons.mpr ⟨zt_X12_says_mono, List.forall_mem_cons.mpr ⟨ab_pp_mono _, List.forall_mem_cons.mpr ⟨ab_pure_mono _, List.forall_mem_cons.mpr ⟨zt_X12_lookBy_mono, List.forall_mem_nil _⟩⟩⟩⟩) (List.forall_mem_nil _)
abbrev zr_X12_reckons (Q : ab_R) : ab_K := ab_Run zg_X12_reckons zp_X12_reckons none 9 Q
set_option maxRecDepth 20000 in
theorem zv_X12_reckons_0 {Q : ab_R} {M : ab_M} {N : ab_N} (l1 : Int32) (l2 : Int32) (h : zr_X12_reckons Q 2 [some (.ref 0), some (.int l1), some (.int l2), some (.int (0 : Int32)), none, none, none, none, none] [] M N) : zr_X12_reckons Q 0 [some (.ref 0), some (.int l1), some (.int l2)] [] M N := ab_Run_s zm_X12_reckons (sp := [(2, [true, true, true, true, false, false, false, false, false]), (43, [true, true, true, true, false, false, false, false, false]), (92, [true, true, true, true, true, false, false, false, false]), (96, [true, true, true, true, true, false, false, false, false]), (133, [true, true, true, true, true, false, true, false, false]), (182, [true, true, true, true, false, false, false, false, false]), (212, [true, true, true, true, false, false, false, false, true]), (260, [true, true, true, true, false, false, false, false, true]), (282, [true, true, true, true, false, false, false, false, false]), (299, [true, true, true, true, false, false, false, false, false]), (322, [true, true, true, true, false, false, false, false, false])]) 198 h
set_option maxRecDepth 20000 in
theorem zv_X12_reckons_2 {Q : ab_R} {M : ab_M} {N : ab_N} (l1 : Int32) (l2 : Int32) (l3 : Int32) (h : ((7 : Int32) ≤ l3 → let y1 : Nat → Int64 := vp_updL (N 0) 66 (0 : Int64); let y2 : Nat → Int64 := vp_updL (y1) 67 (0 : Int64); zr_X12_reckons Q 43 [some (.ref 0), some (.int l1), some (.int l2), some (.int (0 : Int32)), none, none, none, none, none] [] M (ab_u (ab_u N 0 y1) 0 y2)) ∧ (¬ ((7 : Int32) ≤ l3) → (l3 = 0 → vp_in l3 7 ∧ (let y3 : Nat → Int64 := vp_updL (N 32) l3.toNatClampNeg (1000000000 : Int64); zr_X12_reckons Q 2 [some (.ref 0), some (.int l1), some (.int l2), some (.int (l3 + (1 : Int32))), none, none, none, none, none] [] M (ab_u N 32 y3))) ∧ (¬ (l3 = 0) → vp_in l3 7 ∧ (let y4 : Nat → Int64 := vp_updL (N 32) l3.toNatClampNeg (0 : Int64); zr_X12_reckons Q 2 [some (.ref 0), some (.int l1), some (.int l2), some (.int (l3 + (1 : Int32))), none, none, none, none, none] [] M (ab_u N 32 y4))))) : zr_X12_reckons Q 2 [some (.ref 0), some (.int l1), some (.int l2), some (.int l3), none, none, none, none, none] [] M N := ab_Run_s zm_X12_reckons (sp := [(2, [true, true, true, true, false, false, false, false, false]), (43, [true, true, true, true, false, false, false, false, false]), (92, [true, true, true, true, true, false, false, false, false]), (96, [true, true, true, true, true, false, false, false, false]), (133, [true, true, true, true, true, false, true, false, false]), (182, [true, true, true, true, false, false, false, false, false]), (212, [true, true, true, true, false, false, false, false, true]), (260, [true, true, true, true, false, false, false, false, true]), (282, [true, true, true, true, false, false, false, false, false]), (299, [true, true, true, true, false, false, false, false, false]), (322, [true, true, true, true, false, false, false, false, false])]) 198 h
set_option maxRecDepth 20000 in
theorem zv_X12_reckons_43 {Q : ab_R} {M : ab_M} {N : ab_N} (l1 : Int32) (l2 : Int32) (l3 : Int32) (h : (l2 < l3 → Q none M N) ∧ (¬ (l2 < l3) → vp_in (0 : Int32) 7 ∧ (vp_in ((M 0 1) - (1 : Int32)) 7 ∧ (((M 0 1) ≤ (1 : Int32) → zr_X12_reckons Q 96 [some (.ref 0), some (.int l1), some (.int l2), some (.int l3), some (.long (N 32 0)), none, none, none, none] [.int (0 : Int32), .long (N 32 ((M 0 1) - (1 : Int32)).toNatClampNeg), .long (N 0 66), .ref 0] M N) ∧ (¬ ((M 0 1) ≤ (1 : Int32)) → zt_X12_says [.ref 0, .int (2 : Int32), .int l1, .int l3, .int (M 0 1), .int (0 : Int32)] M N (fun r M2 N2 => zr_X12_reckons Q 92 [some (.ref 0), some (.int l1), some (.int l2), some (.int l3), some (.long (N 32 0)), none, none, none, none] (ab_ol r [.long (N 32 ((M 0 1) - (1 : Int32)).toNatClampNeg), .long (N 0 66), .ref 0]) M2 N2)))))) : zr_X12_reckons Q 43 [some (.ref 0), some (.int l1), some (.int l2), some (.int l3), none, none, none, none, none] [] M N := ab_Run_s zm_X12_reckons (sp := [(2, [true, true, true, true, false, false, false, false, false]), (43, [true, true, true, true, false, false, false, false, false]), (92, [true, true, true, true, true, false, false, false, false]), (96, [true, true, true, true, true, false, false, false, false]), (133, [true, true, true, true, true, false, true, false, false]), (182, [true, true, true, true, false, false, false, false, false]), (212, [true, true, true, true, false, false, false, false, true]), (260, [true, true, true, true, false, false, false, false, true]), (282, [true, true, true, true, false, false, false, false, false]), (299, [true, true, true, true, false, false, false, false, false]), (322, [true, true, true, true, false, false, false, false, false])]) 198 h
set_option maxRecDepth 20000 in
theorem zv_X12_reckons_92 {Q : ab_R} {M : ab_M} {N : ab_N} (l1 : Int32) (l2 : Int32) (l3 : Int32) (l4 : Int64) (s1 : Int64) (s2 : Int64) (s3 : Int32) (h : zr_X12_reckons Q 96 [some (.ref 0), some (.int l1), some (.int l2), some (.int l3), some (.long l4), none, none, none, none] [.int s3, .long s2, .long s1, .ref 0] M N) : zr_X12_reckons Q 92 [some (.ref 0), some (.int l1), some (.int l2), some (.int l3), some (.long l4), none, none, none, none] [.int s3, .long s2, .long s1, .ref 0] M N := ab_Run_s zm_X12_reckons (sp := [(2, [true, true, true, true, false, false, false, false, false]), (43, [true, true, true, true, false, false, false, false, false]), (92, [true, true, true, true, true, false, false, false, false]), (96, [true, true, true, true, true, false, false, false, false]), (133, [true, true, true, true, true, false, true, false, false]), (182, [true, true, true, true, false, false, false, false, false]), (212, [true, true, true, true, false, false, false, false, true]), (260, [true, true, true, true, false, false, false, false, true]), (282, [true, true, true, true, false, false, false, false, false]), (299, [true, true, true, true, false, false, false, false, false]), (322, [true, true, true, true, false, false, false, false, false])]) 198 h
set_option maxRecDepth 20000 in
theorem zv_X12_reckons_96 {Q : ab_R} {M : ab_M} {N : ab_N} (l1 : Int32) (l2 : Int32) (l3 : Int32) (l4 : Int64) (s1 : Int64) (s2 : Int64) (s3 : Int32) (h : let y1 : Nat → Int64 := vp_updL (N 0) 66 (s1 + (s2 * (s3.toInt64))); vp_in (M 0 1) 7 ∧ (vp_in ((M 0 1) - (1 : Int32)) 7 ∧ (vp_in (M 0 1) 7 ∧ (let y2 : Nat → Int64 := vp_updL (N 32) (M 0 1).toNatClampNeg ((N 32 (M 0 1).toNatClampNeg) + (N 32 ((M 0 1) - (1 : Int32)).toNatClampNeg)); zr_X12_reckons Q 133 [some (.ref 0), some (.int l1), some (.int l2), some (.int l3), some (.long l4), none, some (.int ((M 0 1) - (1 : Int32))), none, none] [] M (ab_u (ab_u N 0 y1) 32 y2))))) : zr_X12_reckons Q 96 [some (.ref 0), some (.int l1), some (.int l2), some (.int l3), some (.long l4), none, none, none, none] [.int s3, .long s2, .long s1, .ref 0] M N := ab_Run_s zm_X12_reckons (sp := [(2, [true, true, true, true, false, false, false, false, false]), (43, [true, true, true, true, false, false, false, false, false]), (92, [true, true, true, true, true, false, false, false, false]), (96, [true, true, true, true, true, false, false, false, false]), (133, [true, true, true, true, true, false, true, false, false]), (182, [true, true, true, true, false, false, false, false, false]), (212, [true, true, true, true, false, false, false, false, true]), (260, [true, true, true, true, false, false, false, false, true]), (282, [true, true, true, true, false, false, false, false, false]), (299, [true, true, true, true, false, false, false, false, false]), (322, [true, true, true, true, false, false, false, false, false])]) 198 h
set_option maxRecDepth 20000 in
theorem zv_X12_reckons_133 {Q : ab_R} {M : ab_M} {N : ab_N} (l1 : Int32) (l2 : Int32) (l3 : Int32) (l4 : Int64) (l6 : Int32) (h : (l6 ≤ (1 : Int32) → vp_in (((12 : Int32) * l1) + l3) 96 ∧ (zt_X12_says [.ref 0, .int (0 : Int32), .int l1, .int l3, .int (M 30 (((12 : Int32) * l1) + l3).toNatClampNeg), .int (0 : Int32)] M N (fun r M2 N2 => zr_X12_reckons Q 182 [some (.ref 0), some (.int l1), some (.int l2), some (.int l3), none, none, none, none, none] (ab_ol r [.long l4]) M2 N2))) ∧ (¬ (l6 ≤ (1 : Int32)) → vp_in (l6 - (1 : Int32)) 7 ∧ (vp_in l6 7 ∧ (let y1 : Nat → Int64 := vp_updL (N 32) l6.toNatClampNeg (N 32 (l6 - (1 : Int32)).toNatClampNeg); zr_X12_reckons Q 133 [some (.ref 0), some (.int l1), some (.int l2), some (.int l3), some (.long l4), none, some (.int (l6 + (-1 : Int32))), none, none] [] M (ab_u N 32 y1))))) : zr_X12_reckons Q 133 [some (.ref 0), some (.int l1), some (.int l2), some (.int l3), some (.long l4), none, some (.int l6), none, none] [] M N := ab_Run_s zm_X12_reckons (sp := [(2, [true, true, true, true, false, false, false, false, false]), (43, [true, true, true, true, false, false, false, false, false]), (92, [true, true, true, true, true, false, false, false, false]), (96, [true, true, true, true, true, false, false, false, false]), (133, [true, true, true, true, true, false, true, false, false]), (182, [true, true, true, true, false, false, false, false, false]), (212, [true, true, true, true, false, false, false, false, true]), (260, [true, true, true, true, false, false, false, false, true]), (282, [true, true, true, true, false, false, false, false, false]), (299, [true, true, true, true, false, false, false, false, false]), (322, [true, true, true, true, false, false, false, false, false])]) 198 h
set_option maxRecDepth 20000 in
theorem zv_X12_reckons_182 {Q : ab_R} {M : ab_M} {N : ab_N} (l1 : Int32) (l2 : Int32) (l3 : Int32) (s0 : Int64) (s1 : Int32) (h : ¬ (1000 : Int64) = 0 ∧ (vp_in (0 : Int32) 7 ∧ (vp_in (0 : Int32) 7 ∧ (let y1 : Nat → Int64 := vp_updL (N 32) 0 ((N 32 0) - ((s0 * (s1.toInt64)) / (1000 : Int64))); vp_in (1 : Int32) 7 ∧ (let y2 : Nat → Int64 := vp_updL (y1) 1 ((s0 * (s1.toInt64)) / (1000 : Int64)); zr_X12_reckons Q 212 [some (.ref 0), some (.int l1), some (.int l2), some (.int l3), none, none, none, none, some (.int (0 : Int32))] [] M (ab_u (ab_u N 32 y1) 32 y2)))))) : zr_X12_reckons Q 182 [some (.ref 0), some (.int l1), some (.int l2), some (.int l3), none, none, none, none, none] [.int s1, .long s0] M N := ab_Run_s zm_X12_reckons (sp := [(2, [true, true, true, true, false, false, false, false, false]), (43, [true, true, true, true, false, false, false, false, false]), (92, [true, true, true, true, true, false, false, false, false]), (96, [true, true, true, true, true, false, false, false, false]), (133, [true, true, true, true, true, false, true, false, false]), (182, [true, true, true, true, false, false, false, false, false]), (212, [true, true, true, true, false, false, false, false, true]), (260, [true, true, true, true, false, false, false, false, true]), (282, [true, true, true, true, false, false, false, false, false]), (299, [true, true, true, true, false, false, false, false, false]), (322, [true, true, true, true, false, false, false, false, false])]) 198 h
set_option maxRecDepth 20000 in
theorem zv_X12_reckons_212 {Q : ab_R} {M : ab_M} {N : ab_N} (l1 : Int32) (l2 : Int32) (l3 : Int32) (l8 : Int32) (h : ((M 0 12) ≤ l8 → ((ab_b (0 ≤ (M 0) 5 ∧ l1 < (M 0) 3 ∧ (M 0) 5 + (M 0) 4 ≤ l3)) = 0 → zr_X12_reckons Q 282 [some (.ref 0), some (.int l1), some (.int l2), some (.int l3), none, none, none, none, none] [] M N) ∧ (¬ ((ab_b (0 ≤ (M 0) 5 ∧ l1 < (M 0) 3 ∧ (M 0) 5 + (M 0) 4 ≤ l3)) = 0) → zt_X12_lookBy [.ref 0, .int l1, .int l3, .int (0 : Int32)] M N (fun r M2 N2 => zr_X12_reckons Q 282 [some (.ref 0), some (.int l1), some (.int l2), some (.int l3), none, none, none, none, none] (ab_ol r []) M2 N2))) ∧ (¬ ((M 0 12) ≤ l8) → vp_in (((12 : Int32) * l8) + l3) 60 ∧ (((M 28 (((12 : Int32) * l8) + l3).toNatClampNeg) = l1 → (vp_in l8 5 ∧ ¬ (M 10) l8.toNatClampNeg + 2 = 0) ∧ (((ab_b (¬ l8 = (M 0) 30 ∧ (¬ (M 6) l8.toNatClampNeg = 5 ∨ ¬ l3 - l3 / ((M 10) l8.toNatClampNeg + 2) * ((M 10) l8.toNatClampNeg + 2) = (M 10) l8.toNatClampNeg + 1))) = 0 → zr_X12_reckons Q 260 [some (.ref 0), some (.int l1), some (.int l2), some (.int l3), none, none, none, none, some (.int l8)] [] M N) ∧ (¬ ((ab_b (¬ l8 = (M 0) 30 ∧ (¬ (M 6) l8.toNatClampNeg = 5 ∨ ¬ l3 - l3 / ((M 10) l8.toNatClampNeg + 2) * ((M 10) l8.toNatClampNeg + 2) = (M 10) l8.toNatClampNeg + 1))) = 0) → vp_in l8 5 ∧ (zt_X12_lookBy [.ref 0, .int l1, .int l3, .int (M 9 l8.toNatClampNeg)] M N (fun r M2 N2 => zr_X12_reckons Q 260 [some (.ref 0), some (.int l1), some (.int l2), some (.int l3), none, none, none, none, some (.int l8)] (ab_ol r []) M2 N2))))) ∧ (¬ ((M 28 (((12 : Int32) * l8) + l3).toNatClampNeg) = l1) → zr_X12_reckons Q 260 [some (.ref 0), some (.int l1), some (.int l2), some (.int l3), none, none, none, none, some (.int l8)] [] M N)))) : zr_X12_reckons Q 212 [some (.ref 0), some (.int l1), some (.int l2), some (.int l3), none, none, none, none, some (.int l8)] [] M N := ab_Run_s zm_X12_reckons (sp := [(2, [true, true, true, true, false, false, false, false, false]), (43, [true, true, true, true, false, false, false, false, false]), (92, [true, true, true, true, true, false, false, false, false]), (96, [true, true, true, true, true, false, false, false, false]), (133, [true, true, true, true, true, false, true, false, false]), (182, [true, true, true, true, false, false, false, false, false]), (212, [true, true, true, true, false, false, false, false, true]), (260, [true, true, true, true, false, false, false, false, true]), (282, [true, true, true, true, false, false, false, false, false]), (299, [true, true, true, true, false, false, false, false, false]), (322, [true, true, true, true, false, false, false, false, false])]) 198 h
set_option maxRecDepth 20000 in
theorem zv_X12_reckons_260 {Q : ab_R} {M : ab_M} {N : ab_N} (l1 : Int32) (l2 : Int32) (l3 : Int32) (l8 : Int32) (h : zr_X12_reckons Q 212 [some (.ref 0), some (.int l1), some (.int l2), some (.int l3), none, none, none, none, some (.int (l8 + (1 : Int32)))] [] M N) : zr_X12_reckons Q 260 [some (.ref 0), some (.int l1), some (.int l2), some (.int l3), none, none, none, none, some (.int l8)] [] M N := ab_Run_s zm_X12_reckons (sp := [(2, [true, true, true, true, false, false, false, false, false]), (43, [true, true, true, true, false, false, false, false, false]), (92, [true, true, true, true, true, false, false, false, false]), (96, [true, true, true, true, true, false, false, false, false]), (133, [true, true, true, true, true, false, true, false, false]), (182, [true, true, true, true, false, false, false, false, false]), (212, [true, true, true, true, false, false, false, false, true]), (260, [true, true, true, true, false, false, false, false, true]), (282, [true, true, true, true, false, false, false, false, false]), (299, [true, true, true, true, false, false, false, false, false]), (322, [true, true, true, true, false, false, false, false, false])]) 198 h
set_option maxRecDepth 20000 in
theorem zv_X12_reckons_282 {Q : ab_R} {M : ab_M} {N : ab_N} (l1 : Int32) (l2 : Int32) (l3 : Int32) (h : vp_in l1 8 ∧ (((M 5 l1.toNatClampNeg) = (1 : Int32) → zt_X12_lookBy [.ref 0, .int l1, .int l3, .int (0 : Int32)] M N (fun r M2 N2 => zr_X12_reckons Q 299 [some (.ref 0), some (.int l1), some (.int l2), some (.int l3), none, none, none, none, none] (ab_ol r []) M2 N2)) ∧ (¬ ((M 5 l1.toNatClampNeg) = (1 : Int32)) → zr_X12_reckons Q 299 [some (.ref 0), some (.int l1), some (.int l2), some (.int l3), none, none, none, none, none] [] M N))) : zr_X12_reckons Q 282 [some (.ref 0), some (.int l1), some (.int l2), some (.int l3), none, none, none, none, none] [] M N := ab_Run_s zm_X12_reckons (sp := [(2, [true, true, true, true, false, false, false, false, false]), (43, [true, true, true, true, false, false, false, false, false]), (92, [true, true, true, true, true, false, false, false, false]), (96, [true, true, true, true, true, false, false, false, false]), (133, [true, true, true, true, true, false, true, false, false]), (182, [true, true, true, true, false, false, false, false, false]), (212, [true, true, true, true, false, false, false, false, true]), (260, [true, true, true, true, false, false, false, false, true]), (282, [true, true, true, true, false, false, false, false, false]), (299, [true, true, true, true, false, false, false, false, false]), (322, [true, true, true, true, false, false, false, false, false])]) 198 h
set_option maxRecDepth 20000 in
theorem zv_X12_reckons_299 {Q : ab_R} {M : ab_M} {N : ab_N} (l1 : Int32) (l2 : Int32) (l3 : Int32) (h : (l1 = (M 0 25) → (l3 = (M 0 26) → zt_X12_lookBy [.ref 0, .int l1, .int l3, .int (1 : Int32)] M N (fun r M2 N2 => zr_X12_reckons Q 322 [some (.ref 0), some (.int l1), some (.int l2), some (.int l3), none, none, none, none, none] (ab_ol r []) M2 N2)) ∧ (¬ (l3 = (M 0 26)) → zr_X12_reckons Q 322 [some (.ref 0), some (.int l1), some (.int l2), some (.int l3), none, none, none, none, none] [] M N)) ∧ (¬ (l1 = (M 0 25)) → zr_X12_reckons Q 322 [some (.ref 0), some (.int l1), some (.int l2), some (.int l3), none, none, none, none, none] [] M N)) : zr_X12_reckons Q 299 [some (.ref 0), some (.int l1), some (.int l2), some (.int l3), none, none, none, none, none] [] M N := ab_Run_s zm_X12_reckons (sp := [(2, [true, true, true, true, false, false, false, false, false]), (43, [true, true, true, true, false, false, false, false, false]), (92, [true, true, true, true, true, false, false, false, false]), (96, [true, true, true, true, true, false, false, false, false]), (133, [true, true, true, true, true, false, true, false, false]), (182, [true, true, true, true, false, false, false, false, false]), (212, [true, true, true, true, false, false, false, false, true]), (260, [true, true, true, true, false, false, false, false, true]), (282, [true, true, true, true, false, false, false, false, false]), (299, [true, true, true, true, false, false, false, false, false]), (322, [true, true, true, true, false, false, false, false, false])]) 198 h
set_option maxRecDepth 20000 in
theorem zv_X12_reckons_322 {Q : ab_R} {M : ab_M} {N : ab_N} (l1 : Int32) (l2 : Int32) (l3 : Int32) (h : zr_X12_reckons Q 43 [some (.ref 0), some (.int l1), some (.int l2), some (.int (l3 + (1 : Int32))), none, none, none, none, none] [] M N) : zr_X12_reckons Q 322 [some (.ref 0), some (.int l1), some (.int l2), some (.int l3), none, none, none, none, none] [] M N := ab_Run_s zm_X12_reckons (sp := [(2, [true, true, true, true, false, false, false, false, false]), (43, [true, true, true, true, false, false, false, false, false]), (92, [true, true, true, true, true, false, false, false, false]), (96, [true, true, true, true, true, false, false, false, false]), (133, [true, true, true, true, true, false, true, false, false]), (182, [true, true, true, true, false, false, false, false, false]), (212, [true, true, true, true, false, false, false, false, true]), (260, [true, true, true, true, false, false, false, false, true]), (282, [true, true, true, true, false, false, false, false, false]), (299, [true, true, true, true, false, false, false, false, false]), (322, [true, true, true, true, false, false, false, false, false])]) 198 h
theorem zWkR_fr {d M M2 : ab_M} {n : Nat} (h : zWkR d M n) (hF : zFr [26, 27] M M2) : zWkR d M2 n := fun g hg => by
  rw [hF 28 (by decide), hF 29 (by decide), hF 30 (by decide)]
  exact h g hg
section Reck
variable {Q : ab_R} {d M0 : ab_M} {N0 : ab_N} {p last : Nat}
/-- the looks of an hour -/
theorem zL_reck_w (hR : zRN d M0) (hW : zWkR d M0 (zHrs d)) (hp : p < zPcs d) (h : Nat) (hh : h < zHrs d) (s0 : zRs) (kk : ∀ M N, zFr [26, 27] M0 M → zNfr [0, 32] N0 N → zHasR N (zLooks d p h ((zWk d h).2.2.2 p) 8 s0) → zr_X12_reckons Q 322 [some (.ref 0), some (.int (nI p)), some (.int (nI last)), some (.int (nI h)), none, none, none, none, none] [] M N) :
    ∀ (r m : Nat) (M : ab_M) (N : ab_N), m + r = zMen d → zFr [26, 27] M0 M → zNfr [0, 32] N0 N → zHasR N (zLooks d p h ((zWk d h).2.2.2 p) m s0) → zr_X12_reckons Q 212 [some (.ref 0), some (.int (nI p)), some (.int (nI last)), some (.int (nI h)), none, none, none, none, some (.int (nI m))] [] M N := by
  obtain ⟨n1, n2, n3, n4, n5, n6, n7, n8, n9, n10⟩ := zNI_n hR
  have elk : (zWk d h).2.2.2 p = zLk d h (zWk d h).1 (zMen d) p := by rw [zWk_lk]
  rw [elk] at kk ⊢
  have bit := fun w (hw : w < 8) => zBit_iff (d := d) (h := h) (p := p) (pl := (zWk d h).1) n4 hw
  have yes : ∀ w s, zBit (zLk d h (zWk d h).1 (zMen d) p) w → zLooks d p h (zLk d h (zWk d h).1 (zMen d) p) (w + 1) s = zLook d p h (zPace d w) (zBrk d - 1) (zLooks d p h (zLk d h (zWk d h).1 (zMen d) p) w s) := fun w s z => if_pos z
  have no : ∀ w s, ¬ zBit (zLk d h (zWk d h).1 (zMen d) p) w → zLooks d p h (zLk d h (zWk d h).1 (zMen d) p) (w + 1) s = zLooks d p h (zLk d h (zWk d h).1 (zMen d) p) w s := fun w s z => if_neg z
  -- a look of one, or none
  have look : ∀ (w : Nat) (M : ab_M) (N : ab_N) (K : ab_R), zBit (zLk d h (zWk d h).1 (zMen d) p) w → zFr [26, 27] M0 M → zNfr [0, 32] N0 N → zHasR N (zLooks d p h (zLk d h (zWk d h).1 (zMen d) p) w s0) → (∀ M2 N2, zFr [26, 27] M0 M2 → zNfr [0, 32] N0 N2 → zHasR N2 (zLooks d p h (zLk d h (zWk d h).1 (zMen d) p) (w + 1) s0) → K none M2 N2) → zt_X12_lookBy [.ref 0, .int (nI p), .int (nI h), .int (nI (zPace d w))] M N K := by
    intro w M N K hb hF hG hs hk
    refine ⟨(d, p, h, zPace d w), _, rfl, ⟨rfl, zRN_zfr hR hF (by decide), by dsimp only; omega, by dsimp only; omega⟩, ?_⟩
    rintro o M2 N2 ⟨rfl, hF2, hG2, hs2⟩
    refine hk M2 N2 (zFr_tr hF hF2) (zNfr_tr hG hG2) ?_
    rw [yes w s0 hb]
    exact hs2 _ hs
  have l7 : ∀ (M : ab_M) (N : ab_N), zFr [26, 27] M0 M → zNfr [0, 32] N0 N → zHasR N (zLooks d p h (zLk d h (zWk d h).1 (zMen d) p) 7 s0) → zr_X12_reckons Q 299 [some (.ref 0), some (.int (nI p)), some (.int (nI last)), some (.int (nI h)), none, none, none, none, none] [] M N := by
    intro M N hF hG hs
    have hRM := zRN_zfr hR hF (show ∀ c ∈ [26, 27], 25 ≤ c by decide)
    have mor := zMor_r hRM (show p < 2 ^ 31 by omega) h
    have b7 := bit 7 (by decide)
    have t7 : zBit (zLk d h (zWk d h).1 (zMen d) p) 7 ↔ zMor d p h := by
      rw [b7]
      constructor
      · rintro (z | z | z | z)
        · omega
        · omega
        · omega
        · exact z.2
      · exact fun z => Or.inr (Or.inr (Or.inr ⟨rfl, z⟩))
    have ep : zPace d 7 = 1 := by unfold zPace; rw [if_neg (by omega), if_pos rfl]
    have off : ¬ zMor d p h → zr_X12_reckons Q 322 [some (.ref 0), some (.int (nI p)), some (.int (nI last)), some (.int (nI h)), none, none, none, none, none] [] M N := fun z => kk M N hF hG (by rw [no 7 s0 (fun q => z (t7.mp q))]; exact hs)
    refine zv_X12_reckons_299 _ _ _ ⟨fun c => ⟨fun c2 => ?_, fun c2 => off (fun z => c2 (mor.mpr z).2)⟩, fun c => off (fun z => c (mor.mpr z).1)⟩
    have := look 7 M N (fun r M2 N2 => zr_X12_reckons Q 322 [some (.ref 0), some (.int (nI p)), some (.int (nI last)), some (.int (nI h)), none, none, none, none, none] (ab_ol r []) M2 N2) (t7.mpr (mor.mp ⟨c, c2⟩)) hF hG hs (fun M2 N2 a b c => kk M2 N2 a b c)
    rw [ep] at this
    exact this
  have l6 : ∀ (M : ab_M) (N : ab_N), zFr [26, 27] M0 M → zNfr [0, 32] N0 N → zHasR N (zLooks d p h (zLk d h (zWk d h).1 (zMen d) p) 6 s0) → zr_X12_reckons Q 282 [some (.ref 0), some (.int (nI p)), some (.int (nI last)), some (.int (nI h)), none, none, none, none, none] [] M N := by
    intro M N hF hG hs
    have hRM := zRN_zfr hR hF (show ∀ c ∈ [26, 27], 25 ≤ c by decide)
    have lam := zLamp_r hRM (show p < 8 by omega)
    have b6 := bit 6 (by decide)
    have t6 : zBit (zLk d h (zWk d h).1 (zMen d) p) 6 ↔ ¬ d 16 p = 0 := by
      rw [b6]
      constructor
      · rintro (z | z | z | z)
        · omega
        · omega
        · exact z.2
        · omega
      · exact fun z => Or.inr (Or.inr (Or.inl ⟨rfl, z⟩))
    have ep : zPace d 6 = 0 := by unfold zPace; rw [if_neg (by omega), if_neg (by decide)]
    refine zv_X12_reckons_282 _ _ _ ?_
    rw [nI_clamp (show p < 2 ^ 31 by omega)]
    refine ⟨nI_in_ (by omega), fun c => ?_, fun c => l7 M N hF hG (by rw [no 6 s0 (fun q => c (lam.mpr (t6.mp q)))]; exact hs)⟩
    have := look 6 M N (fun r M2 N2 => zr_X12_reckons Q 299 [some (.ref 0), some (.int (nI p)), some (.int (nI last)), some (.int (nI h)), none, none, none, none, none] (ab_ol r []) M2 N2) (t6.mpr (lam.mp c)) hF hG hs (fun M2 N2 a b c => l7 M2 N2 a b c)
    rw [ep] at this
    exact this
  intro r
  induction r with
  | zero =>
    intro m M N hm hF hG hs
    have em : m = zMen d := by omega
    subst em
    have hRM := zRN_zfr hR hF (show ∀ c ∈ [26, 27], 25 ≤ c by decide)
    have vil := zVil_r hRM p h
    have up : ∀ j, zMen d ≤ j → j ≤ 5 → zLooks d p h (zLk d h (zWk d h).1 (zMen d) p) j s0 = zLooks d p h (zLk d h (zWk d h).1 (zMen d) p) (zMen d) s0 := by
      intro j
      induction j with
      | zero => intro z _; rw [show zMen d = 0 by omega]
      | succ j ihj =>
        intro z z5
        by_cases e : zMen d = j + 1
        · rw [e]
        · rw [no j s0 (fun q => ?_), ihj (by omega) (by omega)]
          rcases (bit j (by omega)).mp q with q | q | q | q <;> omega
    rw [← up 5 n4 (Nat.le_refl _)] at hs
    have b5 := bit 5 (by decide)
    have t5 : zBit (zLk d h (zWk d h).1 (zMen d) p) 5 ↔ zVil d p h := by
      rw [b5]
      constructor
      · rintro (z | z | z | z)
        · omega
        · exact z.2
        · omega
        · omega
      · exact fun z => Or.inr (Or.inl ⟨rfl, z⟩)
    have ep : zPace d 5 = 0 := by unfold zPace; rw [if_neg (by omega), if_neg (by decide)]
    refine zv_X12_reckons_212 _ _ _ _ ⟨fun _ => ⟨fun c => l6 M N hF hG (by rw [no 5 s0 (fun q => vil.mp c (t5.mp q))]; exact hs), fun c => ?_⟩, fun c => absurd ?_ c⟩
    · have := look 5 M N (fun r M2 N2 => zr_X12_reckons Q 282 [some (.ref 0), some (.int (nI p)), some (.int (nI last)), some (.int (nI h)), none, none, none, none, none] (ab_ol r []) M2 N2) (t5.mpr (Decidable.byContradiction fun z => c (vil.mpr z))) hF hG hs (fun M2 N2 a b c => l6 M2 N2 a b c)
      rw [ep] at this
      exact this
    · rw [hF 0 (by decide), n3]; exact nI_le (Nat.le_refl _) (by omega)
  | succ r ih =>
    intro m M N hm hF hG hs
    have hm5 : m < zMen d := by omega
    have hRM := zRN_zfr hR hF (show ∀ c ∈ [26, 27], 25 ≤ c by decide)
    have dz := zDoes_r hRM hm5 h
    have h28 : M 28 (12 * m + h) = (zWk d h).1 m := by rw [hF 28 (by decide)]; exact (hW h hh).1 m hm5
    have bm := bit m (by omega)
    have tm : zBit (zLk d h (zWk d h).1 (zMen d) p) m ↔ zDoes d m h ∧ (zWk d h).1 m = nI p := by
      rw [bm]
      constructor
      · rintro (z | z | z | z)
        · exact z.2
        · omega
        · omega
        · omega
      · exact fun z => Or.inl ⟨hm5, z⟩
    obtain ⟨kd, po, en, pa, mo, q1, q2, q3, q4, q5, q6, e1, e2, e3, e4, e5, f1, f2, f3, f4, f5⟩ := zMan_n hRM hm5
    have ep : zPace d m = pa := by unfold zPace; rw [if_pos hm5, e4, nI_clamp (by omega)]
    refine zv_X12_reckons_212 _ _ _ _ ?_
    have hn : M 0 12 = nI (zMen d) := by rw [hF 0 (by decide), n3]
    rw [hn, e12, nI_clamp (show 12 * m + h < 2 ^ 31 by omega), nI_clamp (show m < 2 ^ 31 by omega), h28]
    have nope : ¬ (zDoes d m h ∧ (zWk d h).1 m = nI p) → zr_X12_reckons Q 260 [some (.ref 0), some (.int (nI p)), some (.int (nI last)), some (.int (nI h)), none, none, none, none, some (.int (nI m))] [] M N := fun z => zv_X12_reckons_260 _ _ _ _ (by rw [nI_1]; exact ih (m + 1) M N (by omega) hF hG (by rw [no m s0 (fun q => z (tm.mp q))]; exact hs))
    refine ⟨fun c => absurd c (nI_ge (by omega) (by omega)), fun _ => ⟨nI_in_ (by omega), fun c => ⟨⟨nI_in_ (by omega), zMo_ne hRM hm5⟩, fun c2 => ?_, fun c2 => ⟨nI_in_ (by omega), ?_⟩⟩, fun c => nope (fun z => c z.2)⟩⟩
    · exact nope (fun z => dz.mp c2 z.1)
    · have := look m M N (fun r M2 N2 => zr_X12_reckons Q 260 [some (.ref 0), some (.int (nI p)), some (.int (nI last)), some (.int (nI h)), none, none, none, none, some (.int (nI m))] (ab_ol r []) M2 N2) (tm.mpr ⟨Decidable.byContradiction fun z => c2 (dz.mpr z), c⟩) hF hG hs (fun M2 N2 a b c => zv_X12_reckons_260 _ _ _ _ (by rw [nI_1]; exact ih (m + 1) M2 N2 (by omega) a b c))
      rw [ep] at this
      rw [f4]
      exact this
/-- the steps are shifted -/
theorem zL_reck_s (hR : zRN d M0) (h : Nat) (none0 : Int64) (f : Nat → Int64) {M : ab_M} {N1 : ab_N} (kk : ∀ F : Nat → Int64, (∀ j, j < 7 → F j = zShift f (zBrk d) j) → zr_X12_reckons Q 133 [some (.ref 0), some (.int (nI p)), some (.int (nI last)), some (.int (nI h)), some (.long none0), none, some (.int (nI 1)), none, none] [] M (ab_u N1 32 F)) :
    ∀ (t : Nat) (F : Nat → Int64), t + 1 < zBrk d → (∀ j, j < 7 → F j = if t + 1 < j ∧ 2 ≤ j ∧ j < zBrk d then f (j - 1) else f j) → zr_X12_reckons Q 133 [some (.ref 0), some (.int (nI p)), some (.int (nI last)), some (.int (nI h)), some (.long none0), none, some (.int (nI (t + 1))), none, none] [] M (ab_u N1 32 F) := by
  obtain ⟨n1, n2, n3, n4, n5, n6, n7, n8, n9, n10⟩ := zNI_n hR
  intro t
  induction t with
  | zero =>
    intro F ht hF
    refine kk F (fun j hj => ?_)
    rw [hF j hj]
    unfold zShift
    by_cases c : 2 ≤ j ∧ j < zBrk d
    · rw [if_pos c, if_pos ⟨by omega, c⟩]
    · rw [if_neg c, if_neg (fun z => c z.2)]
  | succ t ih =>
    intro F ht hF
    refine zv_X12_reckons_133 _ _ _ _ _ ⟨fun c => absurd c (show ¬ nI (t + 1 + 1) ≤ nI 1 from nI_ge (by omega) (by omega)), fun _ => ?_⟩
    rw [nI_pred, pk_m1, nI_clamp (show t + 1 + 1 < 2 ^ 31 by omega), nI_clamp (show t + 1 < 2 ^ 31 by omega), ab_u_eq]
    refine ⟨nI_in_ (by omega), nI_in_ (by omega), ?_⟩
    intro y1
    rw [ab_u_u]
    refine ih y1 (by omega) (fun j hj => ?_)
    simp only [y1]
    by_cases e : j = t + 1 + 1
    · subst e
      rw [updL_eq, hF (t + 1) (by omega), if_neg (by omega), if_pos (by omega)]
      rfl
    · rw [updL_ne _ _ e, hF j hj]
      by_cases c : t + 1 + 1 < j ∧ 2 ≤ j ∧ j < zBrk d
      · rw [if_pos c, if_pos ⟨by omega, c.2⟩]
      · rw [if_neg c, if_neg (fun z => c ⟨by omega, z.2⟩)]
theorem zL_reck_h (hR : zRN d M0) (hW : zWkR d M0 (zHrs d)) (hp : p < zPcs d) (hl : last < zHrs d) (kk : ∀ M N, zFr [26, 27] M0 M → zNfr [0, 32] N0 N → zHasR N (zRk d p (last + 1)) → Q none M N) : ∀ (r h : Nat) (M : ab_M) (N : ab_N), h + r = last + 1 → zFr [26, 27] M0 M → zNfr [0, 32] N0 N → zHasR N (zRk d p h) → zr_X12_reckons Q 43 [some (.ref 0), some (.int (nI p)), some (.int (nI last)), some (.int (nI h)), none, none, none, none, none] [] M N := by
  obtain ⟨n1, n2, n3, n4, n5, n6, n7, n8, n9, n10⟩ := zNI_n hR
  intro r
  induction r with
  | zero =>
    intro h M N hr hF hG hs
    refine zv_X12_reckons_43 _ _ _ ⟨fun _ => kk M N hF hG ?_, fun c => absurd (nI_lt (by omega) (by omega)) c⟩
    rw [show last + 1 = h by omega]
    exact hs
  | succ r ih =>
    intro h M N hr hF hG hs
    have hh : h < zHrs d := by omega
    have hRM := zRN_zfr hR hF (show ∀ c ∈ [26, 27], 25 ≤ c by decide)
    have hb : M 0 1 = nI (zBrk d) := by rw [hF 0 (by decide), n8]
    have sb : nI (zBrk d) - 1 = nI (zBrk d - 1) := pk_sub (b := 1) (by omega)
    obtain ⟨s1, s2, s3⟩ := hs
    refine zv_X12_reckons_43 _ _ _ ?_
    rw [hb, sb, nI_clamp (show zBrk d - 1 < 2 ^ 31 by omega)]
    refine ⟨fun c => absurd c (nI_nlt (by omega) (by omega)), fun _ => ⟨ab_vpk (by decide), nI_in_ (by omega), fun c => absurd c (show ¬ nI (zBrk d) ≤ nI 1 from nI_ge (by omega) (by omega)), fun _ => ?_⟩⟩
    refine ⟨(d, 2, p, h, zBrk d, 0), _, rfl, ⟨rfl, hRM, (show 2 < 3 by decide), by dsimp only; omega, by dsimp only; omega, by dsimp only; omega⟩, ?_⟩
    rintro o M2 N2 ⟨rfl, hF2, rfl⟩
    have hF2 := zFr_tr hF hF2
    have hb2 : M2 0 1 = nI (zBrk d) := by rw [hF2 0 (by decide), n8]
    have a2 := zAskR_le d 2 (by decide) p h (zBrk d) 0
    refine zv_X12_reckons_92 _ _ _ _ _ _ _ (zv_X12_reckons_96 _ _ _ _ _ _ _ ?_)
    dsimp -zeta only
    rw [hb2, sb, nI_clamp (show zBrk d - 1 < 2 ^ 31 by omega), nI_clamp (show zBrk d < 2 ^ 31 by omega), nI_l (by omega)]
    intro y1
    refine ⟨nI_in_ (by omega), nI_in_ (by omega), nI_in_ (by omega), ?_⟩
    intro y2
    have ey2 : ∀ j, j < 7 → y2 j = vp_updL (zRk d p h).1 (zBrk d) ((zRk d p h).1 (zBrk d) + (zRk d p h).1 (zBrk d - 1)) j := fun j hj => by
      simp only [y2]
      rw [s1 (zBrk d) (by omega), s1 (zBrk d - 1) (by omega)]
      by_cases e : j = zBrk d
      · subst e; rw [updL_eq, updL_eq]
      · rw [updL_ne _ _ e, updL_ne _ _ e]; exact s1 j hj
    have e0 : N2 32 0 = (zRk d p h).1 0 := s1 0 (by omega)
    refine zL_reck_s (p := p) (last := last) hR h (N2 32 0) y2 (fun F hFf => ?_) (zBrk d - 2) y2 (by omega) (fun j hj => ?_) |> fun z => by rw [show zBrk d - 2 + 1 = zBrk d - 1 by omega] at z; exact z
    · -- a hole begins
      have h30 : M2 30 (12 * p + h) = nI (zSc d h p) := by rw [hF2 30 (by decide)]; exact (hW h hh).2.1 p hp
      have hsc := (zSc_le d p h).2
      refine zv_X12_reckons_133 _ _ _ _ _ ⟨fun _ => ?_, fun c => absurd (show nI 1 ≤ nI 1 from nI_le (by omega) (by omega)) c⟩
      rw [e12, nI_clamp (show 12 * p + h < 2 ^ 31 by omega), h30]
      refine ⟨nI_in_ (by omega), (d, 0, p, h, zSc d h p, 0), _, rfl, ⟨rfl, zRN_zfr hR hF2 (by decide), (show 0 < 3 by decide), by dsimp only; omega, by dsimp only; omega, by dsimp only; omega⟩, ?_⟩
      rintro o M3 N3 ⟨rfl, hF3, rfl⟩
      have hF3 := zFr_tr hF2 hF3
      have a0 := zAskR_le d 0 (by decide) p h (zSc d h p) 0
      refine zv_X12_reckons_182 _ _ _ _ _ ?_
      dsimp -zeta only
      rw [nI_l (by omega)]
      refine ⟨by decide, ab_vpk (by decide), ab_vpk (by decide), ?_⟩
      intro y3
      refine ⟨ab_vpk (by decide), ?_⟩
      intro y4
      refine zL_reck_w (N0 := N0) hR hW hp h hh (zGrow d p h (zSc d h p) (zRk d p h)) (fun M4 N4 hF4 hG4 hs4 => ?_) (zMen d) 0 M3 _ (by omega) hF3 (zNfr_u (zNfr_u (zNfr_u (zNfr_u hG (by decide) _) (by decide) _) (by decide) _) (by decide) _) ?_
      · refine zv_X12_reckons_322 _ _ _ ?_
        rw [nI_1]
        exact ih (h + 1) M4 N4 (by omega) hF4 hG4 hs4
      · have f0 : F 0 = (zRk d p h).1 0 := by
          rw [hFf 0 (by omega)]
          unfold zShift
          rw [if_neg (by omega), ey2 0 (by omega), updL_ne _ _ (by omega)]
        have ff : ∀ j, j < 7 → F j = zShift (vp_updL (zRk d p h).1 (zBrk d) ((zRk d p h).1 (zBrk d) + (zRk d p h).1 (zBrk d - 1))) (zBrk d) j := fun j hj => by
          rw [hFf j hj]
          unfold zShift
          by_cases c : 2 ≤ j ∧ j < zBrk d
          · rw [if_pos c, if_pos c, ey2 (j - 1) (by omega)]
          · rw [if_neg c, if_neg c, ey2 j hj]
        have g0 : zShift (vp_updL (zRk d p h).1 (zBrk d) ((zRk d p h).1 (zBrk d) + (zRk d p h).1 (zBrk d - 1))) (zBrk d) 0 = (zRk d p h).1 0 := by rw [← ff 0 (by omega), f0]
        refine ⟨fun j hj => ?_, ?_, ?_⟩
        · show ab_u _ 32 y4 32 j = _
          rw [ab_u_eq]
          simp only [y4]
          unfold zGrow zLooks
          dsimp only
          rw [g0, e0]
          by_cases j0 : j = 0
          · subst j0
            rw [updL_ne _ _ (by decide), updL_eq, updL_ne _ _ (by decide), g0]
            simp only [y3]
            rw [updL_eq, ab_u_eq, f0, e0]
          · rw [updL_ne (vp_updL _ _ _) _ j0]
            by_cases j1 : j = 1
            · subst j1; rw [updL_eq, updL_eq]
            · rw [updL_ne _ _ j1, updL_ne _ _ j1]
              simp only [y3]
              rw [updL_ne _ _ j0, ab_u_eq]
              exact ff j hj
        · show ab_u _ 32 y4 0 66 = _
          rw [ab_u_ne _ _ (by decide), ab_u_ne _ _ (by decide), ab_u_ne _ _ (by decide), ab_u_eq]
          simp only [y1]
          rw [updL_eq, s2, s1 (zBrk d - 1) (by omega)]
          rfl
        · show ab_u _ 32 y4 0 67 = _
          rw [ab_u_ne _ _ (by decide), ab_u_ne _ _ (by decide), ab_u_ne _ _ (by decide), ab_u_eq]
          simp only [y1]
          rw [updL_ne _ _ (by decide), s3]
          rfl
    · rw [if_neg (by omega)]
end Reck
theorem zE_X12_reckons (as : List Value) (M : ab_M) (N : ab_N) (k : ab_R) (hT : zt_X12_reckons as M N k) : ab_cs as ≤ 9 ∧ zr_X12_reckons k 0 (ab_en as) [] M N := by
  obtain ⟨⟨d, p, last⟩, r, rfl, ⟨rfl, hR, hW, hp, hl⟩, hk⟩ := hT
  dsimp only at hR hW hp hl hk ⊢
  refine ⟨Nat.le_of_ble_eq_true rfl, zv_X12_reckons_0 _ _ ?_⟩
  have lp : ∀ (r j : Nat) (F : Nat → Int64), j + r = 7 → (∀ i, i < j → F i = if i = 0 then 1000000000 else 0) → zr_X12_reckons k 2 [some (.ref 0), some (.int (nI p)), some (.int (nI last)), some (.int (nI j)), none, none, none, none, none] [] M (ab_u N 32 F) := by
    intro r
    induction r with
    | zero =>
      intro j F hj hF
      refine zv_X12_reckons_2 _ _ _ ⟨fun _ => ?_, fun c => absurd (show nI 7 ≤ nI j from nI_le (by omega) (by omega)) c⟩
      intro y1 y2
      refine zL_reck_h (N0 := N) hR hW hp hl (fun M2 N2 hF hG hs => hk _ _ _ ⟨rfl, hF, hG, hs⟩) (last + 1) 0 M _ (by omega) (zFr_rf _ _) (zNfr_u (zNfr_u (zNfr_u (zNfr_rf _ _) (by decide) _) (by decide) _) (by decide) _) ⟨fun i hi => ?_, ?_, ?_⟩
      · rw [ab_u_ne _ _ (by decide), ab_u_ne _ _ (by decide), ab_u_eq]
        exact hF i (by omega)
      · rw [ab_u_eq]; simp only [y2, y1]; rw [updL_ne _ _ (by decide), updL_eq]; rfl
      · rw [ab_u_eq]; simp only [y2]; rw [updL_eq]; rfl
    | succ r ih =>
      intro j F hj hF
      refine zv_X12_reckons_2 _ _ _ ?_
      rw [nI_clamp (show j < 2 ^ 31 by omega), nI_1, ab_u_eq]
      have step : ∀ v : Int64, v = (if j = 0 then 1000000000 else 0) → zr_X12_reckons k 2 [some (.ref 0), some (.int (nI p)), some (.int (nI last)), some (.int (nI (j + 1))), none, none, none, none, none] [] M (ab_u (ab_u N 32 F) 32 (vp_updL F j v)) := by
        intro v ev
        rw [ab_u_u]
        refine ih (j + 1) _ (by omega) (fun i hi => ?_)
        by_cases e : i = j
        · subst e; rw [updL_eq, ev]
        · rw [updL_ne _ _ e]; exact hF i (by omega)
      refine ⟨fun c => absurd c (show ¬ nI 7 ≤ nI j from nI_ge (by omega) (by omega)), fun _ => ⟨fun c => ⟨nI_in_ (by omega), ?_⟩, fun c => ⟨nI_in_ (by omega), ?_⟩⟩⟩
      · intro y3
        have e0 : j = 0 := (nI_eq (by omega) (by omega)).mp (show nI j = nI 0 from c)
        exact step _ (by rw [if_pos e0])
      · intro y4
        have e0 : ¬ j = 0 := fun z => c (by rw [z]; rfl)
        exact step _ (by rw [if_neg e0])
  have := lp 7 0 (N 32) (by omega) (fun i hi => absurd hi (Nat.not_lt_zero i))
  rw [ab_u_self] at this
  exact this
abbrev zR_X12_reckons : Room := { frames := 4, cells := 0, slots := 0, locals := 99 }
set_option maxRecDepth 20000 in
theorem zM_X12_reckons (l : Launch) : ab_Met l zw_M vwCl zZ_M yX12_reckons cX12_reckons 9 none zR_X12_reckons zt_X12_reckons := ab_ofRun (G := zg_X12_reckons) (P := zp_X12_reckons) rfl zo_X12_reckons (by decide +kernel) zl_cl zl_lamM zf_X12_ok ab_Tab_nil zc_X12_ok ab_Sta_nil (List.forall_mem_cons.mpr ⟨ab_callV zZ_M_ok (zM_X12_says l) (ab_in 1282 (by decide +kernel) rfl) (ab_in 1279 (by decide +kernel) rfl) (ab_in 1281 (by decide +kernel) rfl) (ab_inS (List.mem_of_getElem? (i := 37) (by decide +kernel)) rfl) (ab_in 17 (by decide +kernel) rfl) (by unfold ab_yok; decide +kernel) ⟨rfl, rfl⟩ (by decide) zV_X12_says, List.forall_mem_cons.mpr ⟨ab_callV zZ_M_ok (zM_X12_doesLook l) (ab_in 1329 (by decide +kernel) rfl) (ab_in 1326 (by decide +kernel) rfl) (ab_in 1328 (by decide +kernel) rfl) (ab_inS (List.mem_of_getElem? (i := 44) (by decide +kernel)) rfl) (ab_in 17 (by decide +kernel) rfl) (by unfold ab_yok; decide +kernel) ⟨rfl, rfl⟩ (by decide) zV_X12_doesLook, List.forall_mem_cons.mpr ⟨ab_callV zZ_M_ok (zM_X12_isVillage l) (ab_in 1333 (by decide +kernel) rfl) (ab_in 1330 (by decide +kernel) rfl) (ab_in 1332 (by decide +kernel) rfl) (ab_inS (List.mem_of_getElem? (i := 45) (by decide +kernel)) rfl) (ab_in 17 (by decide +kernel) rfl) (by unfold ab_yok; decide +kernel) ⟨rfl, rfl⟩ (by decide) zV_X12_isVillage, List.forall_mem_cons.mpr ⟨ab_callV zZ_M_ok (zM_X12_lookBy l) (ab_in 1382 (by decide +kernel) rfl) (ab_in 1379 (by decide +kernel) rfl) (ab_in 1381 (by decide +kernel) rfl) (ab_inS (List.mem_of_getElem? (i := 52) (by decide +kernel)) rfl) (ab_in 17 (by decide +kernel) rfl) (by unfold ab_yok; decide +kernel) ⟨rfl, rfl⟩ (by decide) zV_X12_lookBy, List.forall_mem_nil _⟩⟩⟩⟩) (List.forall_mem_nil _) zE_X12_reckons
def zt_X12_runAll : ab_T := ab_lq (α := ab_M × Nat) (fun x r M _ => r = [.int (nI x.2)] ∧ zRN x.1 M ∧ x.2 ≤ 2)
  (fun x M N o M2 N2 => zFr zSL M M2 ∧ zNfr [0, 32] N N2 ∧ o = some (.long (zSum x.1 x.2 (zPcs x.1))))
theorem zt_X12_runAll_mono : ab_mono zt_X12_runAll := ab_lq_mono _ _
theorem zV_X12_runAll : ab_recv zw_M vwCl RX12 zt_X12_runAll := ab_lq_v
def zp_X12_runAll : ab_P := [(0, .aload_n 0, 1, [0], []),
  (1, .invokevirtual 311, 4, [], []),
  (4, .lconst 0, 5, [0], []),
  (5, .lstore_n 2, 6, [2], []),
  (6, .iconst 0, 7, [], [0]),
  (7, .istore 4, 9, [], []),
  (9, .iload 4, 11, [], []),
  (11, .aload_n 0, 12, [0], []),
  (12, .getfield 172, 15, [], []),
  (15, .if_icmp .ge 56, 18, [71], []),
  (18, .aload_n 0, 19, [0], []),
  (19, .iload 4, 21, [], []),
  (21, .aload_n 0, 22, [0], []),
  (22, .getfield 7, 25, [], []),
  (25, .iconst 1, 26, [], [1]),
  (26, .isub, 27, [], []),
  (27, .invokevirtual 334, 30, [], []),
  (30, .lload_n 2, 31, [2], []),
  (31, .iload_n 1, 32, [1], []),
  (32, .ifCond .ne 10, 35, [42], []),
  (35, .aload_n 0, 36, [0], []),
  (36, .getfield 323, 39, [], []),
  (39, .goto 24, 42, [63], []),
  (42, .iload_n 1, 43, [1], []),
  (43, .iconst 1, 44, [], [1]),
  (44, .if_icmp .ne 15, 47, [59], []),
  (47, .aload_n 0, 48, [0], []),
  (48, .getfield 157, 51, [], []),
  (51, .aload_n 0, 52, [0], []),
  (52, .getfield 13, 55, [], []),
  (55, .laload, 56, [], []),
  (56, .goto 7, 59, [63], []),
  (59, .aload_n 0, 60, [0], []),
  (60, .getfield 319, 63, [], []),
  (63, .ladd, 64, [], []),
  (64, .lstore_n 2, 65, [2], []),
  (65, .iinc 4 1, 68, [], [1]),
  (68, .goto (-59), 71, [9], []),
  (71, .lload_n 2, 72, [2], []),
  (72, .lreturn, 73, [], [])]
theorem zo_X12_runAll : ab_ok cX12_runAll zp_X12_runAll = true := by decide +kernel
def zg_X12_runAll : ab_G := (zw_M, [], zf_X12, zc_X12, [], [(311, 1, zt_X12_walk), (334, 3, zt_X12_reckons)], [])
theorem zm_X12_runAll : ab_MG zg_X12_runAll := ab_MGof (List.forall_mem_cons.mpr ⟨zt_X12_walk_mono, List.forall_mem_cons.mpr ⟨zt_X12_reckons_mono, List.forall_mem_nil _⟩⟩) (List.forall_mem_nil _)
abbrev zr_X12_runAll (Q : ab_R) : ab_K := ab_Run zg_X12_runAll zp_X12_runAll (some .long) 5 Q
set_option maxRecDepth 20000 in
theorem zv_X12_runAll_0 {Q : ab_R} {M : ab_M} {N : ab_N} (l1 : Int32) (h : zt_X12_walk [.ref 0] M N (fun r M2 N2 => zr_X12_runAll Q 4 [some (.ref 0), some (.int l1), none, none, none] (ab_ol r []) M2 N2)) : zr_X12_runAll Q 0 [some (.ref 0), some (.int l1)] [] M N := ab_Run_s zm_X12_runAll (sp := [(4, [true, true, false, false, false]), (9, [true, true, true, false, true]), (30, [true, true, true, false, true])]) 42 h
set_option maxRecDepth 20000 in
theorem zv_X12_runAll_4 {Q : ab_R} {M : ab_M} {N : ab_N} (l1 : Int32) (h : zr_X12_runAll Q 9 [some (.ref 0), some (.int l1), some (.long (0 : Int64)), none, some (.int (0 : Int32))] [] M N) : zr_X12_runAll Q 4 [some (.ref 0), some (.int l1), none, none, none] [] M N := ab_Run_s zm_X12_runAll (sp := [(4, [true, true, false, false, false]), (9, [true, true, true, false, true]), (30, [true, true, true, false, true])]) 42 h
set_option maxRecDepth 20000 in
theorem zv_X12_runAll_9 {Q : ab_R} {M : ab_M} {N : ab_N} (l1 : Int32) (l2 : Int64) (l4 : Int32) (h : ((M 0 7) ≤ l4 → Q (some (.long l2)) M N) ∧ (¬ ((M 0 7) ≤ l4) → zt_X12_reckons [.ref 0, .int l4, .int ((M 0 0) - (1 : Int32))] M N (fun r M2 N2 => zr_X12_runAll Q 30 [some (.ref 0), some (.int l1), some (.long l2), none, some (.int l4)] (ab_ol r []) M2 N2))) : zr_X12_runAll Q 9 [some (.ref 0), some (.int l1), some (.long l2), none, some (.int l4)] [] M N := ab_Run_s zm_X12_runAll (sp := [(4, [true, true, false, false, false]), (9, [true, true, true, false, true]), (30, [true, true, true, false, true])]) 42 h
set_option maxRecDepth 20000 in
theorem zv_X12_runAll_30 {Q : ab_R} {M : ab_M} {N : ab_N} (l1 : Int32) (l2 : Int64) (l4 : Int32) (h : (l1 = 0 → zr_X12_runAll Q 9 [some (.ref 0), some (.int l1), some (.long (l2 + (N 0 66))), none, some (.int (l4 + (1 : Int32)))] [] M N) ∧ (¬ (l1 = 0) → (l1 = (1 : Int32) → vp_in (M 0 1) 7 ∧ (zr_X12_runAll Q 9 [some (.ref 0), some (.int l1), some (.long (l2 + (N 32 (M 0 1).toNatClampNeg))), none, some (.int (l4 + (1 : Int32)))] [] M N)) ∧ (¬ (l1 = (1 : Int32)) → zr_X12_runAll Q 9 [some (.ref 0), some (.int l1), some (.long (l2 + (N 0 67))), none, some (.int (l4 + (1 : Int32)))] [] M N))) : zr_X12_runAll Q 30 [some (.ref 0), some (.int l1), some (.long l2), none, some (.int l4)] [] M N := ab_Run_s zm_X12_runAll (sp := [(4, [true, true, false, false, false]), (9, [true, true, true, false, true]), (30, [true, true, true, false, true])]) 42 h
theorem zE_X12_runAll (as : List Value) (M : ab_M) (N : ab_N) (k : ab_R) (hT : zt_X12_runAll as M N k) : ab_cs as ≤ 5 ∧ zr_X12_runAll k 0 (ab_en as) [] M N := by
  obtain ⟨⟨d, w⟩, r, rfl, ⟨rfl, hR, hw⟩, hk⟩ := hT
  dsimp only at hR hw hk ⊢
  obtain ⟨n1, n2, n3, n4, n5, n6, n7, n8, n9, n10⟩ := zNI_n hR
  refine ⟨Nat.le_of_ble_eq_true rfl, zv_X12_runAll_0 _ ?_⟩
  refine ⟨d, _, rfl, ⟨rfl, hR⟩, ?_⟩
  rintro o M1 N1 ⟨rfl, rfl, hF1, hW1⟩
  have lp : ∀ (r p : Nat) (M2 : ab_M) (N2 : ab_N), p + r = zPcs d → zFr [26, 27] M1 M2 → zNfr [0, 32] N1 N2 → zr_X12_runAll k 9 [some (.ref 0), some (.int (nI w)), some (.long (zSum d w p)), none, some (.int (nI p))] [] M2 N2 := by
    intro r
    induction r with
    | zero =>
      intro p M2 N2 hp hF hG
      refine zv_X12_runAll_9 _ _ _ ⟨fun _ => ?_, fun c => absurd ?_ c⟩
      · rw [show p = zPcs d by omega]
        exact hk _ _ _ ⟨zFr_tr hF1 (zFr_mono hF (by decide)), hG, rfl⟩
      · rw [hF 0 (by decide), hF1 0 (by decide), n1]; exact nI_le (by omega) (by omega)
    | succ r ih =>
      intro p M2 N2 hp hF hG
      have hF0 : zFr zSL M M2 := zFr_tr hF1 (zFr_mono hF (by decide))
      refine zv_X12_runAll_9 _ _ _ ?_
      rw [hF0 0 (by decide), n1, n5, show nI (zHrs d) - 1 = nI (zHrs d - 1) from pk_sub (b := 1) (by omega)]
      refine ⟨fun c => absurd c (nI_ge (by omega) (by omega)), fun _ => ?_⟩
      refine ⟨(d, p, zHrs d - 1), _, rfl, ⟨rfl, zRN_zfr hR hF0 (by decide), zWkR_fr hW1 hF, by dsimp only; omega, by dsimp only; omega⟩, ?_⟩
      rintro o M3 N3 ⟨rfl, hF3, hG3, hs⟩
      have hF4 := zFr_tr hF hF3
      have hG4 := zNfr_tr hG hG3
      have hF5 : zFr zSL M M3 := zFr_tr hF1 (zFr_mono hF4 (by decide))
      dsimp only at hs
      rw [show zHrs d - 1 + 1 = zHrs d by omega] at hs
      obtain ⟨s1, s2, s3⟩ := hs
      refine zv_X12_runAll_30 _ _ _ ?_
      rw [hF5 0 (by decide), n8, nI_clamp (show zBrk d < 2 ^ 31 by omega), s1 (zBrk d) (by omega), s2, s3, nI_1]
      have go : ∀ v : Int64, v = zTold d (zRk d p (zHrs d)) w → zr_X12_runAll k 9 [some (.ref 0), some (.int (nI w)), some (.long (zSum d w p + v)), none, some (.int (nI (p + 1)))] [] M3 N3 := by
        intro v ev
        have := ih (p + 1) M3 N3 (by omega) hF4 hG4
        rw [show zSum d w (p + 1) = zSum d w p + v by rw [ev]; rfl] at this
        exact this
      refine ⟨fun c => go _ ?_, fun c => ⟨fun c2 => ⟨nI_in_ (by omega), go _ ?_⟩, fun c2 => go _ ?_⟩⟩
      · have e : w = 0 := (nI_eq (by omega) (by omega)).mp (show nI w = nI 0 from c)
        unfold zTold; rw [if_pos e]
      · have e0 : ¬ w = 0 := fun z => c (by rw [z]; rfl)
        have e : w = 1 := (nI_eq (by omega) (by omega)).mp (show nI w = nI 1 from c2)
        unfold zTold; rw [if_neg e0, if_pos e]
      · have e0 : ¬ w = 0 := fun z => c (by rw [z]; rfl)
        have e1 : ¬ w = 1 := fun z => c2 (by rw [z]; rfl)
        unfold zTold; rw [if_neg e0, if_neg e1]
  exact zv_X12_runAll_4 _ (lp (zPcs d) 0 M1 N1 (by omega) (zFr_rf _ _) (zNfr_rf _ _))
abbrev zR_X12_runAll : Room := { frames := 7, cells := 0, slots := 0, locals := 166 }
set_option maxRecDepth 20000 in
theorem zM_X12_runAll (l : Launch) : ab_Met l zw_M vwCl zZ_M yX12_runAll cX12_runAll 5 (some .long) zR_X12_runAll zt_X12_runAll := ab_ofRun (G := zg_X12_runAll) (P := zp_X12_runAll) rfl zo_X12_runAll (by decide +kernel) zl_cl zl_lamM zf_X12_ok ab_Tab_nil zc_X12_ok ab_Sta_nil (List.forall_mem_cons.mpr ⟨ab_callV zZ_M_ok (zM_X12_walk l) (ab_in 1317 (by decide +kernel) rfl) (ab_in 1314 (by decide +kernel) rfl) (ab_in 1316 (by decide +kernel) rfl) (ab_inS (List.mem_of_getElem? (i := 41) (by decide +kernel)) rfl) (ab_in 17 (by decide +kernel) rfl) (by unfold ab_yok; decide +kernel) ⟨rfl, rfl⟩ (by decide) zV_X12_walk, List.forall_mem_cons.mpr ⟨ab_callV zZ_M_ok (zM_X12_reckons l) (ab_in 1376 (by decide +kernel) rfl) (ab_in 1373 (by decide +kernel) rfl) (ab_in 1375 (by decide +kernel) rfl) (ab_inS (List.mem_of_getElem? (i := 51) (by decide +kernel)) rfl) (ab_in 17 (by decide +kernel) rfl) (by unfold ab_yok; decide +kernel) ⟨rfl, rfl⟩ (by decide) zV_X12_reckons, List.forall_mem_nil _⟩⟩) (List.forall_mem_nil _) zE_X12_runAll
