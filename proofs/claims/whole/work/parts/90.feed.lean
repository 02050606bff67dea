/-! feed, text of the class *)
-/
theorem ab_u2 {α : Type} (M : Nat → Nat → α) {a b : Nat} (h : a ≠ b) (f g f2 g2 : Nat → α) : ab_u (ab_u (ab_u (ab_u M a f) b g) a f2) b g2 = ab_u (ab_u M a f2) b g2 := funext fun k => by
  by_cases kb : k = b
  · rw [kb, ab_u_eq, ab_u_eq]
  · rw [ab_u_ne _ _ kb, ab_u_ne _ _ kb]
    by_cases ka : k = a
    · rw [ka, ab_u_eq, ab_u_eq]
    · rw [ab_u_ne _ _ ka, ab_u_ne _ _ kb, ab_u_ne _ _ ka, ab_u_ne _ _ ka]
def zByt (w : Int64) (r : Nat) : Int32 := ((w >>> (((8 : Int32) * nI r).toInt64 &&& 63)).toInt32) &&& (255 : Int32)
theorem zAnd255 (x : Int32) : 0 ≤ x &&& (255 : Int32) := by
  rw [Int32.le_iff_toInt_le]
  have e : (x &&& (255 : Int32)).toBitVec = x.toBitVec &&& 255#32 := rfl
  have l : (x.toBitVec &&& 255#32).toNat ≤ 255 := by
    rw [BitVec.toNat_and]
    exact Nat.and_le_right
  show (0 : Int32).toInt ≤ (x &&& (255 : Int32)).toBitVec.toInt
  rw [e, BitVec.toInt_eq_toNat_of_lt (by omega)]
  exact Int.natCast_nonneg _
theorem zByt_0 (w : Int64) (r : Nat) : 0 ≤ zByt w r := zAnd255 _
/-- m bytes, the highest first, t of them put from a on -/
def zFdF (w : Int64) (a m t : Nat) (f : Nat → Int32) : Nat → Int32 := fun j => if a ≤ j ∧ j < a + t then zByt w (m - 1 - (j - a)) else f j
theorem zFdF_0 (w : Int64) (a m : Nat) (f : Nat → Int32) : zFdF w a m 0 f = f := funext fun j => if_neg (by omega)
theorem zFdF_s (w : Int64) (a m t : Nat) (f : Nat → Int32) : upd (zFdF w a m t f) (a + t) (zByt w (m - 1 - t)) = zFdF w a m (t + 1) f := funext fun j => by
  by_cases e : j = a + t
  · rw [e, upd_eq]
    unfold zFdF
    rw [if_pos (by omega), show a + t - a = t by omega]
  · rw [upd_ne _ _ e]
    unfold zFdF
    by_cases q : a ≤ j ∧ j < a + t
    · rw [if_pos q, if_pos (by omega)]
    · rw [if_neg q, if_neg (by omega)]
theorem zFd_d (r : Nat) : nI r + (-1 : Int32) = nI r - 1 := by rw [Int32.sub_eq_add_neg]
abbrev zFdV (n : Nat) (q : Int32) : Prop := (1 ≤ q ∧ q ≤ 8) ∧ n + q.toNatClampNeg ≤ 160
def zFdA (n : Nat) (q : Int32) : Int32 := if 1 ≤ q ∧ q ≤ 8 then (if n + q.toNatClampNeg ≤ 160 then nI (n + q.toNatClampNeg) else -4) else -2
def zFdC (M : ab_M) (n : Nat) (w : Int64) (q : Int32) : ab_M := if zFdV n q then ab_u (ab_u M 34 (zFdF w n q.toNatClampNeg q.toNatClampNeg (M 34))) 4 (upd (M 4) 2 (nI (n + q.toNatClampNeg))) else M
def zFdR (M : ab_M) (n : Nat) (w : Int64) (q : Int32) : ab_M := if zFdV n q then ab_u (ab_u M 12 (zFdF w n q.toNatClampNeg q.toNatClampNeg (M 12))) 0 (upd (M 0) 20 (nI (n + q.toNatClampNeg))) else M
def zt_X11_feed : ab_T := fun as M N k => match as with
  | [.ref r, .long w, .int q] => r = 0 ∧ ∃ n : Nat, n ≤ 160 ∧ M 4 2 = nI n ∧ k (some (.int (zFdA n q))) (zFdC M n w q) N
  | _ => False
theorem zt_X11_feed_mono : ab_mono zt_X11_feed := fun as M N k k2 hk h => by
  unfold zt_X11_feed at h ⊢
  split at h
  · obtain ⟨a, n, b, c, d⟩ := h
    exact ⟨a, n, b, c, hk _ _ _ d⟩
  · exact h
theorem zV_X11_feed : ab_recv zw_C vwCl RX11 zt_X11_feed := fun as M N k h => by
  unfold zt_X11_feed at h
  split at h
  · obtain ⟨rfl, -⟩ := h
    exact ⟨_, _, _, _, _, _, rfl, rfl, rfl⟩
  · exact h.elim
def zp_X11_feed : ab_P := [(0, .iload_n 3, 1, [3], []),
  (1, .iconst 1, 2, [], [1]),
  (2, .bipush 8, 4, [], [8]),
  (4, .invokestatic 117, 7, [], []),
  (7, .ifCond .ne 6, 10, [13], []),
  (10, .bipush (-2), 12, [], [(-2)]),
  (12, .ireturn, 13, [], []),
  (13, .aload_n 0, 14, [0], []),
  (14, .getfield 35, 17, [], []),
  (17, .getfield 113, 20, [], []),
  (20, .iload_n 3, 21, [3], []),
  (21, .iadd, 22, [], []),
  (22, .sipush 160, 25, [], [160]),
  (25, .if_icmp .le 6, 28, [31], []),
  (28, .bipush (-4), 30, [], [(-4)]),
  (30, .ireturn, 31, [], []),
  (31, .iload_n 3, 32, [3], []),
  (32, .iconst 1, 33, [], [1]),
  (33, .isub, 34, [], []),
  (34, .istore 4, 36, [], []),
  (36, .iload 4, 38, [], []),
  (38, .ifCond .lt 28, 41, [66], []),
  (41, .aload_n 0, 42, [0], []),
  (42, .getfield 35, 45, [], []),
  (45, .lload_n 1, 46, [1], []),
  (46, .bipush 8, 48, [], [8]),
  (48, .iload 4, 50, [], []),
  (50, .imul, 51, [], []),
  (51, .lshr, 52, [], []),
  (52, .l2i, 53, [], []),
  (53, .sipush 255, 56, [], [255]),
  (56, .iand, 57, [], []),
  (57, .invokevirtual 106, 60, [], []),
  (60, .iinc 4 (-1), 63, [], [(-1)]),
  (63, .goto (-27), 66, [36], []),
  (66, .aload_n 0, 67, [0], []),
  (67, .getfield 35, 70, [], []),
  (70, .getfield 113, 73, [], []),
  (73, .ireturn, 74, [], [])]
theorem zo_X11_feed : ab_ok cX11_feed zp_X11_feed = true := by decide +kernel
def zg_X11_feed : ab_G := (zw_C, zs_tab, zf_X11, zc_X11, [(144, 50), (147, 51)], [(106, 2, zt_X8_add)], [(117, 3, zt_X11_within)])
theorem zm_X11_feed : ab_MG zg_X11_feed := ab_MGof (List.forall_mem_cons.mpr ⟨zt_X8_add_mono, List.forall_mem_nil _⟩) (List.forall_mem_cons.mpr ⟨ab_pure_mono _, List.forall_mem_nil _⟩)
abbrev zr_X11_feed (Q : ab_R) : ab_K := ab_Run zg_X11_feed zp_X11_feed (some .int) 5 Q
set_option maxRecDepth 20000 in
theorem zv_X11_feed_0 {Q : ab_R} {M : ab_M} {N : ab_N} (l1 : Int64) (l3 : Int32) (h : ((ab_b ((1 : Int32) ≤ l3 ∧ l3 ≤ (8 : Int32))) = 0 → Q (some (.int (-2 : Int32))) M N) ∧ (¬ ((ab_b ((1 : Int32) ≤ l3 ∧ l3 ≤ (8 : Int32))) = 0) → (((M 4 2) + l3) ≤ (160 : Int32) → zr_X11_feed Q 36 [some (.ref 0), some (.long l1), none, none, some (.int (l3 - (1 : Int32)))] [] M N) ∧ (¬ (((M 4 2) + l3) ≤ (160 : Int32)) → Q (some (.int (-4 : Int32))) M N))) : zr_X11_feed Q 0 [some (.ref 0), some (.long l1), none, some (.int l3)] [] M N := ab_Run_s zm_X11_feed (sp := [(36, [true, true, false, false, true]), (60, [true, true, false, false, true])]) 41 h
set_option maxRecDepth 20000 in
theorem zv_X11_feed_36 {Q : ab_R} {M : ab_M} {N : ab_N} (l1 : Int64) (l4 : Int32) (h : (l4 < 0 → Q (some (.int (M 4 2))) M N) ∧ (¬ (l4 < 0) → zt_X8_add [.ref 4, .int (((l1 >>> (((8 : Int32) * l4).toInt64 &&& 63)).toInt32) &&& (255 : Int32))] M N (fun r M2 N2 => zr_X11_feed Q 60 [some (.ref 0), some (.long l1), none, none, some (.int l4)] (ab_ol r []) M2 N2))) : zr_X11_feed Q 36 [some (.ref 0), some (.long l1), none, none, some (.int l4)] [] M N := ab_Run_s zm_X11_feed (sp := [(36, [true, true, false, false, true]), (60, [true, true, false, false, true])]) 41 h
set_option maxRecDepth 20000 in
theorem zv_X11_feed_60 {Q : ab_R} {M : ab_M} {N : ab_N} (l1 : Int64) (l4 : Int32) (h : zr_X11_feed Q 36 [some (.ref 0), some (.long l1), none, none, some (.int (l4 + (-1 : Int32)))] [] M N) : zr_X11_feed Q 60 [some (.ref 0), some (.long l1), none, none, some (.int l4)] [] M N := ab_Run_s zm_X11_feed (sp := [(36, [true, true, false, false, true]), (60, [true, true, false, false, true])]) 41 h
theorem zFd_18 {q : Int32} (h : 1 ≤ q ∧ q ≤ 8) : ∃ m : Nat, 1 ≤ m ∧ m ≤ 8 ∧ q = nI m := by
  obtain ⟨m, y, e⟩ := zIxM (n := 8) (by decide) ⟨Int32.le_trans (by decide) h.1, h.2⟩
  refine ⟨m, ?_, y, e⟩
  have := h.1
  rw [e] at this
  exact (nI_leI (a := 1) (by decide) (by omega)).mp this
theorem zL_X11_feed {Q : ab_R} {N : ab_N} {w : Int64} {n m : Nat} (f : Nat → Int32) (hm : n + m ≤ 160) : ∀ (r t : Nat) (M : ab_M), t + r = m → M 34 = zFdF w n m t f → M 4 2 = nI (n + t) → Q (some (.int (nI (n + m)))) (ab_u (ab_u M 34 (zFdF w n m m f)) 4 (upd (M 4) 2 (nI (n + m)))) N → zr_X11_feed Q 36 [some (.ref 0), some (.long w), none, none, some (.int (nI r - 1))] [] M N := by
  intro r
  induction r with
  | zero =>
    intro t M ht h34 h42 hk
    have e : t = m := by omega
    subst e
    refine zv_X11_feed_36 _ _ ⟨fun _ => ?_, fun z => absurd (by decide) z⟩
    rw [h42]
    rw [← h34, ab_u_self, ab_u_id (by rw [← h42, upd_same])] at hk
    exact hk
  | succ r ih =>
    intro t M ht h34 h42 hk
    rw [nI_pred]
    refine zv_X11_feed_36 _ _ ⟨fun z => absurd z (Int32.not_lt.mpr (nI_pos' (by omega))), fun _ => ab_m1_i ⟨n + t, by omega, h42⟩ ?_⟩
    rintro o M2 N2 ⟨rfl, e1, e2⟩
    rw [e1, e2, h42, nI_clamp (show n + t < 2 ^ 31 by omega), nI_1, h34]
    refine zv_X11_feed_60 _ _ ?_
    rw [zFd_d]
    have eb : ((w >>> (((8 : Int32) * nI r).toInt64 &&& 63)).toInt32) &&& (255 : Int32) = zByt w (m - 1 - t) := by
      rw [show m - 1 - t = r by omega]
      rfl
    rw [eb, zFdF_s]
    refine ih (t + 1) _ (by omega) ?_ ?_ ?_
    · rw [ab_u_ne _ _ (by decide), ab_u_eq]
    · rw [ab_u_eq, upd_eq]
      rfl
    · rw [ab_u2 M (by decide), ab_u_eq, upd_upd]
      exact hk
theorem zE_X11_feed (as : List Value) (M : ab_M) (N : ab_N) (k : ab_R) (hT : zt_X11_feed as M N k) : ab_cs as ≤ 5 ∧ zr_X11_feed k 0 (ab_en as) [] M N := by
  unfold zt_X11_feed at hT
  split at hT
  · rename_i r w q
    obtain ⟨rfl, n, hn, h42, hk⟩ := hT
    unfold zFdA zFdC at hk
    refine ⟨Nat.le_of_ble_eq_true rfl, zv_X11_feed_0 _ _ ⟨fun c => ?_, fun c => ?_⟩⟩
    · have c := ab_b_0.mp c
      have nv : ¬ zFdV n q := fun z => c z.1
      rw [if_neg c, if_neg nv] at hk
      exact hk
    · have c := zIx0 c
      obtain ⟨m, m1, m8, rfl⟩ := zFd_18 c
      have cm : (nI m).toNatClampNeg = m := nI_clamp (by omega)
      rw [if_pos c] at hk
      simp only [cm] at hk
      rw [h42, nI_add]
      refine ⟨fun c2 => ?_, fun c2 => ?_⟩
      · have c2 := (nI_leI (b := 160) (by omega) (by decide)).mp c2
        have vv : zFdV n (nI m) := ⟨c, by rw [nI_clamp (show m < 2 ^ 31 by omega)]; exact c2⟩
        rw [if_pos c2, if_pos vv] at hk
        refine zL_X11_feed (M 34) c2 m 0 M (by omega) (zFdF_0 _ _ _ _).symm h42 hk
      · have c3 : ¬ n + m ≤ 160 := fun z => c2 (nI_le (b := 160) z (by decide))
        have nv : ¬ zFdV n (nI m) := fun z => c3 (by have := z.2; rw [nI_clamp (show m < 2 ^ 31 by omega)] at this; exact this)
        rw [if_neg c3, if_neg nv] at hk
        exact hk
  · exact hT.elim
abbrev zR_X11_feed : Room := { frames := 1, cells := 0, slots := 0, locals := 22 }
set_option maxRecDepth 20000 in
theorem zM_X11_feed (l : Launch) : ab_Met l zw_C vwCl zZ_C yX11_feed cX11_feed 5 (some .int) zR_X11_feed zt_X11_feed := ab_ofRun (G := zg_X11_feed) (P := zp_X11_feed) rfl zo_X11_feed (by decide +kernel) zl_cl zl_lamC zf_X11_ok zs_tabOK zc_X11_ok zs_X11_ok (List.forall_mem_cons.mpr ⟨ab_callV zZ_C_ok (zM_X8_add l) (ab_in 432 (by decide +kernel) rfl) (ab_in 429 (by decide +kernel) rfl) (ab_in 430 (by decide +kernel) rfl) (ab_in 431 (by decide +kernel) rfl) (ab_in 5 (by decide +kernel) rfl) (by unfold ab_yok; decide +kernel) ⟨rfl, rfl⟩ (by decide) zV_X8_add, List.forall_mem_nil _⟩) (List.forall_mem_cons.mpr ⟨ab_callS zZ_C_ok (zM_X11_within l) (ab_in 538 (by decide +kernel) rfl) (ab_in 536 (by decide +kernel) rfl) (ab_in 537 (by decide +kernel) rfl) (ab_in 1 (by decide +kernel) rfl) (by unfold ab_yok; decide +kernel) ⟨rfl, rfl⟩ (by decide), List.forall_mem_nil _⟩) zE_X11_feed
def zt_X12_feed : ab_T := ab_lq (α := Nat × Int64 × Int32) (fun x r M _ => r = [.long x.2.1, .int x.2.2] ∧ x.1 ≤ 160 ∧ M 0 20 = nI x.1)
  (fun x M N o M2 N2 => N2 = N ∧ M2 = zFdR M x.1 x.2.1 x.2.2 ∧ o = some (.int (zFdA x.1 x.2.2)))
theorem zt_X12_feed_mono : ab_mono zt_X12_feed := ab_lq_mono _ _
theorem zV_X12_feed : ab_recv zw_M vwCl RX12 zt_X12_feed := ab_lq_v
def zp_X12_feed : ab_P := [(0, .iload_n 3, 1, [3], []),
  (1, .iconst 1, 2, [], [1]),
  (2, .bipush 8, 4, [], [8]),
  (4, .invokestatic 175, 7, [], []),
  (7, .ifCond .ne 6, 10, [13], []),
  (10, .bipush (-2), 12, [], [(-2)]),
  (12, .ireturn, 13, [], []),
  (13, .aload_n 0, 14, [0], []),
  (14, .getfield 196, 17, [], []),
  (17, .iload_n 3, 18, [3], []),
  (18, .iadd, 19, [], []),
  (19, .sipush 160, 22, [], [160]),
  (22, .if_icmp .le 6, 25, [28], []),
  (25, .bipush (-4), 27, [], [(-4)]),
  (27, .ireturn, 28, [], []),
  (28, .iload_n 3, 29, [3], []),
  (29, .iconst 1, 30, [], [1]),
  (30, .isub, 31, [], []),
  (31, .istore 4, 33, [], []),
  (33, .iload 4, 35, [], []),
  (35, .ifCond .lt 40, 38, [75], []),
  (38, .aload_n 0, 39, [0], []),
  (39, .getfield 59, 42, [], []),
  (42, .aload_n 0, 43, [0], []),
  (43, .getfield 196, 46, [], []),
  (46, .lload_n 1, 47, [1], []),
  (47, .bipush 8, 49, [], [8]),
  (49, .iload 4, 51, [], []),
  (51, .imul, 52, [], []),
  (52, .lshr, 53, [], []),
  (53, .ldc2_w 199, 56, [], []),
  (56, .land, 57, [], []),
  (57, .l2i, 58, [], []),
  (58, .iastore, 59, [], []),
  (59, .aload_n 0, 60, [0], []),
  (60, .dup, 61, [], []),
  (61, .getfield 196, 64, [], []),
  (64, .iconst 1, 65, [], [1]),
  (65, .iadd, 66, [], []),
  (66, .putfield 196, 69, [], []),
  (69, .iinc 4 (-1), 72, [], [(-1)]),
  (72, .goto (-39), 75, [33], []),
  (75, .aload_n 0, 76, [0], []),
  (76, .getfield 196, 79, [], []),
  (79, .ireturn, 80, [], [])]
theorem zo_X12_feed : ab_ok cX12_feed zp_X12_feed = true := by decide +kernel
def zg_X12_feed : ab_G := (zw_M, [], zf_X12, zc_X12, [], [], [(175, 3, zt_X12_in)])
theorem zm_X12_feed : ab_MG zg_X12_feed := ab_MGof (List.forall_mem_nil _) (List.forall_mem_cons.mpr ⟨ab_pure_mono _, List.forall_mem_nil _⟩)
abbrev zr_X12_feed (Q : ab_R) : ab_K := ab_Run zg_X12_feed zp_X12_feed (some .int) 5 Q
set_option maxRecDepth 20000 in
theorem zv_X12_feed_0 {Q : ab_R} {M : ab_M} {N : ab_N} (l1 : Int64) (l3 : Int32) (h : ((ab_b ((1 : Int32) ≤ l3 ∧ l3 ≤ (8 : Int32))) = 0 → Q (some (.int (-2 : Int32))) M N) ∧ (¬ ((ab_b ((1 : Int32) ≤ l3 ∧ l3 ≤ (8 : Int32))) = 0) → (((M 0 20) + l3) ≤ (160 : Int32) → zr_X12_feed Q 33 [some (.ref 0), some (.long l1), none, none, some (.int (l3 - (1 : Int32)))] [] M N) ∧ (¬ (((M 0 20) + l3) ≤ (160 : Int32)) → Q (some (.int (-4 : Int32))) M N))) : zr_X12_feed Q 0 [some (.ref 0), some (.long l1), none, some (.int l3)] [] M N := ab_Run_s zm_X12_feed (sp := [(33, [true, true, false, false, true])]) 47 h
set_option maxRecDepth 20000 in
theorem zv_X12_feed_33 {Q : ab_R} {M : ab_M} {N : ab_N} (l1 : Int64) (l4 : Int32) (h : (l4 < 0 → Q (some (.int (M 0 20))) M N) ∧ (¬ (l4 < 0) → vp_in (M 0 20) 160 ∧ (let z1 : Nat → Int32 := upd (M 12) (M 0 20).toNatClampNeg (((l1 >>> (((8 : Int32) * l4).toInt64 &&& 63)) &&& (255 : Int64)).toInt32); let z2 : Nat → Int32 := upd (M 0) 20 ((M 0 20) + (1 : Int32)); zr_X12_feed Q 33 [some (.ref 0), some (.long l1), none, none, some (.int (l4 + (-1 : Int32)))] [] (ab_u (ab_u M 12 z1) 0 z2) N))) : zr_X12_feed Q 33 [some (.ref 0), some (.long l1), none, none, some (.int l4)] [] M N := ab_Run_s zm_X12_feed (sp := [(33, [true, true, false, false, true])]) 47 h
theorem zL_X12_feed {Q : ab_R} {N : ab_N} {w : Int64} {n m : Nat} (f : Nat → Int32) (hm : n + m ≤ 160) : ∀ (r t : Nat) (M : ab_M), t + r = m → M 12 = zFdF w n m t f → M 0 20 = nI (n + t) → Q (some (.int (nI (n + m)))) (ab_u (ab_u M 12 (zFdF w n m m f)) 0 (upd (M 0) 20 (nI (n + m)))) N → zr_X12_feed Q 33 [some (.ref 0), some (.long w), none, none, some (.int (nI r - 1))] [] M N := by
  intro r
  induction r with
  | zero =>
    intro t M ht h34 h42 hk
    have e : t = m := by omega
    subst e
    refine zv_X12_feed_33 _ _ ⟨fun _ => ?_, fun z => absurd (by decide) z⟩
    rw [h42]
    rw [← h34, ab_u_self, ab_u_id (by rw [← h42, upd_same])] at hk
    exact hk
  | succ r ih =>
    intro t M ht h34 h42 hk
    rw [nI_pred]
    refine zv_X12_feed_33 _ _ ⟨fun z => absurd z (Int32.not_lt.mpr (nI_pos' (by omega))), fun _ => ?_⟩
    rw [h42, nI_clamp (show n + t < 2 ^ 31 by omega), nI_1, h34, zFd_d]
    have eb : ((w >>> (((8 : Int32) * nI r).toInt64 &&& 63)) &&& (255 : Int64)).toInt32 = zByt w (m - 1 - t) := by
      rw [show m - 1 - t = r by omega, Int64.toInt32_and]
      rfl
    rw [eb, zFdF_s]
    refine ⟨nI_in_ (by omega), ?_⟩
    intro z1 z2
    refine ih (t + 1) _ (by omega) ?_ ?_ ?_
    · rw [ab_u_ne _ _ (by decide), ab_u_eq]
    · rw [ab_u_eq]
      show upd (M 0) 20 _ 20 = _
      rw [upd_eq]
      rfl
    · rw [ab_u2 M (by decide), ab_u_eq]
      show Q _ (ab_u _ 0 (upd (upd (M 0) 20 _) 20 _)) N
      rw [upd_upd]
      exact hk
theorem zE_X12_feed (as : List Value) (M : ab_M) (N : ab_N) (k : ab_R) (hT : zt_X12_feed as M N k) : ab_cs as ≤ 5 ∧ zr_X12_feed k 0 (ab_en as) [] M N := by
  obtain ⟨⟨n, w, q⟩, r, rfl, ⟨rfl, hn, h42⟩, hk⟩ := hT
  dsimp only at hn h42 hk ⊢
  have hk := hk _ _ _ ⟨rfl, rfl, rfl⟩
  unfold zFdA zFdR at hk
  refine ⟨Nat.le_of_ble_eq_true rfl, zv_X12_feed_0 _ _ ⟨fun c => ?_, fun c => ?_⟩⟩
  · have c := ab_b_0.mp c
    have nv : ¬ zFdV n q := fun z => c z.1
    rw [if_neg c, if_neg nv] at hk
    exact hk
  · have c := zIx0 c
    obtain ⟨m, m1, m8, rfl⟩ := zFd_18 c
    have cm : (nI m).toNatClampNeg = m := nI_clamp (by omega)
    rw [if_pos c] at hk
    simp only [cm] at hk
    rw [h42, nI_add]
    refine ⟨fun c2 => ?_, fun c2 => ?_⟩
    · have c2 := (nI_leI (b := 160) (by omega) (by decide)).mp c2
      have vv : zFdV n (nI m) := ⟨c, by rw [nI_clamp (show m < 2 ^ 31 by omega)]; exact c2⟩
      rw [if_pos c2, if_pos vv] at hk
      refine zL_X12_feed (M 12) c2 m 0 M (by omega) (zFdF_0 _ _ _ _).symm h42 hk
    · have c3 : ¬ n + m ≤ 160 := fun z => c2 (nI_le (b := 160) z (by decide))
      have nv : ¬ zFdV n (nI m) := fun z => c3 (by have := z.2; rw [nI_clamp (show m < 2 ^ 31 by omega)] at this; exact this)
      rw [if_neg c3, if_neg nv] at hk
      exact hk
abbrev zR_X12_feed : Room := { frames := 1, cells := 0, slots := 0, locals := 22 }
set_option maxRecDepth 20000 in
theorem zM_X12_feed (l : Launch) : ab_Met l zw_M vwCl zZ_M yX12_feed cX12_feed 5 (some .int) zR_X12_feed zt_X12_feed := ab_ofRun (G := zg_X12_feed) (P := zp_X12_feed) rfl zo_X12_feed (by decide +kernel) zl_cl zl_lamM zf_X12_ok ab_Tab_nil zc_X12_ok ab_Sta_nil (List.forall_mem_nil _) (List.forall_mem_cons.mpr ⟨ab_callS zZ_M_ok (zM_X12_in l) (ab_in 1200 (by decide +kernel) rfl) (ab_in 1198 (by decide +kernel) rfl) (ab_in 1199 (by decide +kernel) rfl) (ab_in 17 (by decide +kernel) rfl) (by unfold ab_yok; decide +kernel) ⟨rfl, rfl⟩ (by decide), List.forall_mem_nil _⟩) zE_X12_feed
/-- the class: a text is read -/
def zt_X11_text : ab_T := fun as M N k => match as with
  | [.ref q] => q = 0 ∧ ∃ n w : Nat, M 3 2 = nI w ∧ w ≤ 6 ∧ zTp M n ∧ (w = 6 → k (some (.int (-4))) M N) ∧ (w < 6 → ∀ (res : zTr) (o : Option Value) (M2 : ab_M), zTx (M 34) n 3 0 res → zRead M n w res o M2 → k o (ab_u M2 4 (upd (M2 4) 2 0)) N)
  | _ => False
theorem zt_X11_text_mono : ab_mono zt_X11_text := fun as M N k k2 hk h => by
  unfold zt_X11_text at h ⊢
  split at h
  · obtain ⟨a, n, w, b, c, d, e, f⟩ := h
    exact ⟨a, n, w, b, c, d, fun z => hk _ _ _ (e z), fun z res o M2 p q => hk _ _ _ (f z res o M2 p q)⟩
  · exact h
theorem zV_X11_text : ab_recv zw_C vwCl RX11 zt_X11_text := fun as M N k h => by
  unfold zt_X11_text at h
  split at h
  · obtain ⟨rfl, -⟩ := h
    exact ⟨_, _, _, _, _, _, rfl, rfl, rfl⟩
  · exact h.elim
def zp_X11_text : ab_P := [(0, .aload_n 0, 1, [0], []),
  (1, .getfield 26, 4, [], []),
  (4, .getfield 159, 7, [], []),
  (7, .bipush 6, 9, [], [6]),
  (9, .if_icmp .lt 6, 12, [15], []),
  (12, .bipush (-4), 14, [], [(-4)]),
  (14, .ireturn, 15, [], []),
  (15, .aload_n 0, 16, [0], []),
  (16, .getfield 35, 19, [], []),
  (19, .invokevirtual 110, 22, [], []),
  (22, .istore_n 1, 23, [1], []),
  (23, .aload_n 0, 24, [0], []),
  (24, .getfield 35, 27, [], []),
  (27, .iconst 0, 28, [], [0]),
  (28, .putfield 113, 31, [], []),
  (31, .iload_n 1, 32, [1], []),
  (32, .ireturn, 33, [], [])]
theorem zo_X11_text : ab_ok cX11_text zp_X11_text = true := by decide +kernel
def zg_X11_text : ab_G := (zw_C, zs_tab, zf_X11, zc_X11, [(144, 50), (147, 51)], [(110, 1, zt_X8_read)], [])
theorem zm_X11_text : ab_MG zg_X11_text := ab_MGof (List.forall_mem_cons.mpr ⟨zt_X8_read_mono, List.forall_mem_nil _⟩) (List.forall_mem_nil _)
abbrev zr_X11_text (Q : ab_R) : ab_K := ab_Run zg_X11_text zp_X11_text (some .int) 2 Q
set_option maxRecDepth 20000 in
theorem zv_X11_text_0 {Q : ab_R} {M : ab_M} {N : ab_N}  (h : ((M 3 2) < (6 : Int32) → zt_X8_read [.ref 4] M N (fun r M2 N2 => zr_X11_text Q 22 [some (.ref 0), none] (ab_ol r []) M2 N2)) ∧ (¬ ((M 3 2) < (6 : Int32)) → Q (some (.int (-4 : Int32))) M N)) : zr_X11_text Q 0 [some (.ref 0)] [] M N := ab_Run_s zm_X11_text (sp := [(22, [true, false])]) 19 h
set_option maxRecDepth 20000 in
theorem zv_X11_text_22 {Q : ab_R} {M : ab_M} {N : ab_N} (s0 : Int32) (h : let z1 : Nat → Int32 := upd (M 4) 2 (0 : Int32); Q (some (.int s0)) (ab_u M 4 z1) N) : zr_X11_text Q 22 [some (.ref 0), none] [.int s0] M N := ab_Run_s zm_X11_text (sp := [(22, [true, false])]) 19 h
theorem zE_X11_text (as : List Value) (M : ab_M) (N : ab_N) (k : ab_R) (hT : zt_X11_text as M N k) : ab_cs as ≤ 2 ∧ zr_X11_text k 0 (ab_en as) [] M N := by
  unfold zt_X11_text at hT
  split at hT
  · obtain ⟨rfl, n, w, h3, hw, hTp, k6, kr⟩ := hT
    refine ⟨Nat.le_of_ble_eq_true rfl, zv_X11_text_0 ?_⟩
    rw [h3]
    refine ⟨fun c => ?_, fun c => ?_⟩
    · have c := (nI_ltI (b := 6) (by omega) (by decide)).mp c
      refine ⟨rfl, n, w, hTp, h3, c, fun res o M2 hx hr => ?_⟩
      have ho : ∃ x : Int32, o = some (.int x) := by
        rcases hr.2.2.2.2.2 with ⟨p, -, -, h, -⟩ | ⟨O0, O1, O2, -, h, -⟩
        · exact ⟨_, h⟩
        · exact ⟨_, h⟩
      obtain ⟨x, rfl⟩ := ho
      exact zv_X11_text_22 _ (kr c res _ M2 hx hr)
    · have : w = 6 := by
        rcases Nat.lt_or_ge w 6 with q | q
        · exact absurd (nI_lt (b := 6) q (by decide)) c
        · omega
      exact k6 this
  · exact hT.elim
abbrev zR_X11_text : Room := { frames := 60, cells := 0, slots := 0, locals := 1784 }
set_option maxRecDepth 20000 in
theorem zM_X11_text (l : Launch) : ab_Met l zw_C vwCl zZ_C yX11_text cX11_text 2 (some .int) zR_X11_text zt_X11_text := ab_ofRun (G := zg_X11_text) (P := zp_X11_text) rfl zo_X11_text (by decide +kernel) zl_cl zl_lamC zf_X11_ok zs_tabOK zc_X11_ok zs_X11_ok (List.forall_mem_cons.mpr ⟨ab_callV zZ_C_ok (zM_X8_read l) (ab_in 436 (by decide +kernel) rfl) (ab_in 433 (by decide +kernel) rfl) (ab_in 434 (by decide +kernel) rfl) (ab_in 435 (by decide +kernel) rfl) (ab_in 5 (by decide +kernel) rfl) (by unfold ab_yok; decide +kernel) ⟨rfl, rfl⟩ (by decide) zV_X8_read, List.forall_mem_nil _⟩) (List.forall_mem_nil _) zE_X11_text
