/-! the reference: drawn *)
-/
/-- how many are broken -/
def zCb (b : Nat) (f : Nat → Nat) : Nat → Nat
  | 0 => 0
  | n + 1 => zCb b f n + (if f n = b then 1 else 0)
theorem zCb_up {b k v : Nat} {f : Nat → Nat} : ∀ n, k < n → zCb b (zUp f k v) n + (if f k = b then 1 else 0) = zCb b f n + (if v = b then 1 else 0)
  | 0, h => absurd h (Nat.not_lt_zero _)
  | n + 1, h => by
    unfold zCb
    by_cases e : k = n
    · subst e
      have q : ∀ m, m ≤ k → zCb b (zUp f k v) m = zCb b f m := by
        intro m
        induction m with
        | zero => intro _; rfl
        | succ m ih =>
          intro hm
          unfold zCb
          rw [ih (by omega)]
          congr 1
          unfold zUp
          rw [if_neg (show ¬ m = k by omega)]
      rw [q k (Nat.le_refl _), show zUp f k v k = v by unfold zUp; rw [if_pos rfl]]
      omega
    · have ih := zCb_up (b := b) (v := v) (f := f) n (show k < n by omega)
      rw [show zUp f k v n = f n by unfold zUp; rw [if_neg (fun z => e z.symm)]]
      omega
theorem zCb_le {b : Nat} {f : Nat → Nat} : ∀ n, zCb b f n ≤ n
  | 0 => Nat.le_refl _
  | n + 1 => by
    have := zCb_le (b := b) (f := f) n
    unfold zCb
    split <;> omega
def zBrI (d : ab_M) (s : zDs) : Prop := s.2.2.2.1 = nI (zCb (zBrk d) s.1 (zPcs d))
theorem zBrI_look1 {d : ab_M} {p h pc : Nat} (b2 : 2 ≤ zBrk d) (hp : p < zPcs d) : ∀ (f : Nat → Nat) (l ha : Int64) (br fo : Int32), zBrI d (f, l, ha, br, fo) → zBrI d (zDLook1 d p h pc (f, l, ha, br, fo)) := by
  intro f l ha br fo hb
  have hb : br = nI (zCb (zBrk d) f (zPcs d)) := hb
  unfold zDLook1
  dsimp only
  split
  · show br = nI (zCb (zBrk d) f (zPcs d))
    exact hb
  · rename_i c
    split
    · show br = nI (zCb (zBrk d) (zUp f p 0) (zPcs d))
      have := zCb_up (b := zBrk d) (k := p) (v := 0) (f := f) (zPcs d) hp
      rw [if_neg (fun z => c (Or.inr z)), if_neg (show ¬ 0 = zBrk d by omega)] at this
      rw [show zCb (zBrk d) (zUp f p 0) (zPcs d) = zCb (zBrk d) f (zPcs d) by omega]
      exact hb
    · show br = nI (zCb (zBrk d) f (zPcs d))
      exact hb
theorem zBrI_looks {d : ab_M} {p h : Nat} {lk : Int32} {s : zDs} (b2 : 2 ≤ zBrk d) (hp : p < zPcs d) (hb : zBrI d s) : ∀ n, zBrI d (zDLooks d p h lk n s)
  | 0 => hb
  | n + 1 => by
    have ih := zBrI_looks (h := h) (lk := lk) b2 hp hb n
    unfold zDLooks
    split
    · generalize zDLooks d p h lk n s = t at ih
      obtain ⟨f, l, ha, br, fo⟩ := t
      exact zBrI_look1 b2 hp f l ha br fo ih
    · exact ih
theorem zBrI_grow {d : ab_M} {p h sc : Nat} (b2 : 2 ≤ zBrk d) (hp : p < zPcs d) : ∀ (f : Nat → Nat) (l ha : Int64) (br fo : Int32), f p < zBrk d → zBrI d (f, l, ha, br, fo) → zBrI d (zDGrow d p h sc (f, l, ha, br, fo)) := by
  intro f l ha br fo hf hb
  have hb : br = nI (zCb (zBrk d) f (zPcs d)) := hb
  unfold zDGrow
  dsimp only
  split
  · rename_i c
    show br = nI (zCb (zBrk d) (zUp f p _) (zPcs d))
    have := zCb_up (b := zBrk d) (k := p) (v := if zLot l - zLot l / 1000 * 1000 < lN (zAsk d 0 p h sc 0) then 1 else 0) (f := f) (zPcs d) hp
    rw [if_neg (show ¬ f p = zBrk d by omega), if_neg (show ¬ (if zLot l - zLot l / 1000 * 1000 < lN (zAsk d 0 p h sc 0) then 1 else 0) = zBrk d by split <;> omega)] at this
    rw [hb, ← show zCb (zBrk d) (zUp f p (if zLot l - zLot l / 1000 * 1000 < lN (zAsk d 0 p h sc 0) then 1 else 0)) (zPcs d) = zCb (zBrk d) f (zPcs d) by omega]
  · split
    · rename_i c
      show br + 1 = nI (zCb (zBrk d) (zUp f p (f p + 1)) (zPcs d))
      have := zCb_up (b := zBrk d) (k := p) (v := f p + 1) (f := f) (zPcs d) hp
      rw [if_neg (show ¬ f p = zBrk d by omega), if_pos c] at this
      rw [hb, nI_1, show zCb (zBrk d) (zUp f p (f p + 1)) (zPcs d) = zCb (zBrk d) f (zPcs d) + 1 by omega]
    · rename_i c
      show br = nI (zCb (zBrk d) (zUp f p (f p + 1)) (zPcs d))
      have := zCb_up (b := zBrk d) (k := p) (v := f p + 1) (f := f) (zPcs d) hp
      rw [if_neg (show ¬ f p = zBrk d by omega), if_neg c] at this
      rw [hb, show zCb (zBrk d) (zUp f p (f p + 1)) (zPcs d) = zCb (zBrk d) f (zPcs d) by omega]
theorem zBrI_P {d : ab_M} {h p : Nat} {s : zDs} (b2 : 2 ≤ zBrk d) (hp : p < zPcs d) (hb : zBrI d s) : zBrI d (zDP d h p s) := by
  unfold zDP
  split
  · rename_i c
    obtain ⟨f, l, ha, br, fo⟩ := s
    exact zBrI_looks b2 hp (zBrI_grow b2 hp f l ha br fo c hb) 8
  · exact hb
theorem zBrI_hour {d : ab_M} {h : Nat} {s : zDs} (b2 : 2 ≤ zBrk d) (hb : zBrI d s) : ∀ n, n ≤ zPcs d → zBrI d (zDHour d h n s)
  | 0, _ => hb
  | n + 1, hn => zBrI_P b2 hn (zBrI_hour b2 hb n (by omega))
theorem zBrI_all {d : ab_M} {s : zDs} (b2 : 2 ≤ zBrk d) (hb : zBrI d s) : ∀ n, zBrI d (zDAll d s n)
  | 0 => hb
  | n + 1 => zBrI_hour b2 (zBrI_all b2 hb n) _ (Nat.le_refl _)
theorem zCb_0 {b : Nat} (hb : 2 ≤ b) : ∀ n, zCb b (fun _ => 0) n = 0
  | 0 => rfl
  | n + 1 => by
    unfold zCb
    rw [zCb_0 hb n, if_neg (show ¬ 0 = b by omega)]
theorem zBrI_0 {d : ab_M} (b2 : 2 ≤ zBrk d) (x : Int32) : zBrI d (zDs0 x) := by
  show (0 : Int32) = nI (zCb (zBrk d) (fun _ => 0) (zPcs d))
  rw [zCb_0 b2]
  rfl
def zt_X12_drawn : ab_T := ab_lq (α := ab_M × Int32 × Int32) (fun x r M _ => r = [.int x.2.1, .int x.2.2] ∧ zRN x.1 M ∧ x.1 6 11 = -1)
  (fun x M N o M2 N2 => zFr (0 :: 33 :: zSL) M M2 ∧ (∀ j, j ≠ 71 → M2 0 j = M 0 j) ∧ zNfr [0, 32] N N2 ∧ o = some (.long (zDrA x.1 x.2.1 x.2.2)))
theorem zt_X12_drawn_mono : ab_mono zt_X12_drawn := ab_lq_mono _ _
theorem zV_X12_drawn : ab_recv zw_M vwCl RX12 zt_X12_drawn := ab_lq_v
def zp_X12_drawn : ab_P := [(0, .iload_n 1, 1, [1], []),
  (1, .iconst 0, 2, [], [0]),
  (2, .ldc_w 377, 5, [], []),
  (5, .invokestatic 175, 8, [], []),
  (8, .ifCond .eq 12, 11, [20], []),
  (11, .iload_n 2, 12, [2], []),
  (12, .iconst 0, 13, [], [0]),
  (13, .iconst 2, 14, [], [2]),
  (14, .invokestatic 175, 17, [], []),
  (17, .ifCond .ne 7, 20, [24], []),
  (20, .ldc2_w 341, 23, [], []),
  (23, .lreturn, 24, [], []),
  (24, .aload_n 0, 25, [0], []),
  (25, .invokevirtual 311, 28, [], []),
  (28, .aload_n 0, 29, [0], []),
  (29, .iload_n 1, 30, [1], []),
  (30, .i2l, 31, [], []),
  (31, .lconst 1, 32, [1], []),
  (32, .ladd, 33, [], []),
  (33, .putfield 358, 36, [], []),
  (36, .aload_n 0, 37, [0], []),
  (37, .lconst 0, 38, [0], []),
  (38, .putfield 368, 41, [], []),
  (41, .aload_n 0, 42, [0], []),
  (42, .iconst 0, 43, [], [0]),
  (43, .putfield 371, 46, [], []),
  (46, .iconst 0, 47, [], [0]),
  (47, .istore_n 3, 48, [3], []),
  (48, .iload_n 3, 49, [3], []),
  (49, .bipush 8, 51, [], [8]),
  (51, .if_icmp .ge 16, 54, [67], []),
  (54, .aload_n 0, 55, [0], []),
  (55, .getfield 160, 58, [], []),
  (58, .iload_n 3, 59, [3], []),
  (59, .iconst 0, 60, [], [0]),
  (60, .iastore, 61, [], []),
  (61, .iinc 3 1, 64, [], [1]),
  (64, .goto (-16), 67, [48], []),
  (67, .iconst 0, 68, [], [0]),
  (68, .istore_n 3, 69, [3], []),
  (69, .iload_n 3, 70, [3], []),
  (70, .aload_n 0, 71, [0], []),
  (71, .getfield 7, 74, [], []),
  (74, .if_icmp .ge 34, 77, [108], []),
  (77, .iconst 0, 78, [], [0]),
  (78, .istore 4, 80, [], []),
  (80, .iload 4, 82, [], []),
  (82, .aload_n 0, 83, [0], []),
  (83, .getfield 172, 86, [], []),
  (86, .if_icmp .ge 16, 89, [102], []),
  (89, .aload_n 0, 90, [0], []),
  (90, .iload 4, 92, [], []),
  (92, .iload_n 3, 93, [3], []),
  (93, .invokevirtual 378, 96, [], []),
  (96, .iinc 4 1, 99, [], [1]),
  (99, .goto (-19), 102, [80], []),
  (102, .iinc 3 1, 105, [], [1]),
  (105, .goto (-36), 108, [69], []),
  (108, .iconst 0, 109, [], [0]),
  (109, .istore_n 3, 110, [3], []),
  (110, .iconst 0, 111, [], [0]),
  (111, .istore 4, 113, [], []),
  (113, .iload 4, 115, [], []),
  (115, .aload_n 0, 116, [0], []),
  (116, .getfield 172, 119, [], []),
  (119, .if_icmp .ge 31, 122, [150], []),
  (122, .iload_n 3, 123, [3], []),
  (123, .aload_n 0, 124, [0], []),
  (124, .getfield 160, 127, [], []),
  (127, .iload 4, 129, [], []),
  (129, .iaload, 130, [], []),
  (130, .aload_n 0, 131, [0], []),
  (131, .getfield 13, 134, [], []),
  (134, .if_icmp .ne 7, 137, [141], []),
  (137, .iconst 1, 138, [], [1]),
  (138, .goto 4, 141, [142], []),
  (141, .iconst 0, 142, [], [0]),
  (142, .iadd, 143, [], []),
  (143, .istore_n 3, 144, [3], []),
  (144, .iinc 4 1, 147, [], [1]),
  (147, .goto (-34), 150, [113], []),
  (150, .iload_n 2, 151, [2], []),
  (151, .ifCond .ne 10, 154, [161], []),
  (154, .aload_n 0, 155, [0], []),
  (155, .getfield 368, 158, [], []),
  (158, .goto 18, 161, [176], []),
  (161, .iload_n 2, 162, [2], []),
  (162, .iconst 1, 163, [], [1]),
  (163, .if_icmp .ne 8, 166, [171], []),
  (166, .iload_n 3, 167, [3], []),
  (167, .i2l, 168, [], []),
  (168, .goto 8, 171, [176], []),
  (171, .aload_n 0, 172, [0], []),
  (172, .getfield 371, 175, [], []),
  (175, .i2l, 176, [], []),
  (176, .lreturn, 177, [], [])]
theorem zo_X12_drawn : ab_ok cX12_drawn zp_X12_drawn = true := by decide +kernel
def zg_X12_drawn : ab_G := (zw_M, [], zf_X12, zc_X12, [], [(311, 1, zt_X12_walk), (378, 3, zt_X12_drawsHour)], [(175, 3, zt_X12_in)])
theorem zm_X12_drawn : ab_MG zg_X12_drawn := ab_MGof (List.forall_mem_cons.mpr ⟨zt_X12_walk_mono, List.forall_mem_cons.mpr ⟨zt_X12_drawsHour_mono, List.forall_mem_nil _⟩⟩) (List.forall_mem_cons.mpr ⟨ab_pure_mono _, List.forall_mem_nil _⟩)
abbrev zr_X12_drawn (Q : ab_R) : ab_K := ab_Run zg_X12_drawn zp_X12_drawn (some .long) 5 Q
set_option maxRecDepth 20000 in
theorem zv_X12_drawn_0 {Q : ab_R} {M : ab_M} {N : ab_N} (l1 : Int32) (l2 : Int32) (h : ((ab_b ((0 : Int32) ≤ l1 ∧ l1 ≤ (99999 : Int32))) = 0 → Q (some (.long (-4611686018427387904 : Int64))) M N) ∧ (¬ ((ab_b ((0 : Int32) ≤ l1 ∧ l1 ≤ (99999 : Int32))) = 0) → ((ab_b ((0 : Int32) ≤ l2 ∧ l2 ≤ (2 : Int32))) = 0 → Q (some (.long (-4611686018427387904 : Int64))) M N) ∧ (¬ ((ab_b ((0 : Int32) ≤ l2 ∧ l2 ≤ (2 : Int32))) = 0) → zt_X12_walk [.ref 0] M N (fun r M2 N2 => zr_X12_drawn Q 28 [some (.ref 0), some (.int l1), some (.int l2), none, none] (ab_ol r []) M2 N2)))) : zr_X12_drawn Q 0 [some (.ref 0), some (.int l1), some (.int l2)] [] M N := ab_Run_s zm_X12_drawn (sp := [(28, [true, true, true, false, false]), (48, [true, false, true, true, false]), (69, [true, false, true, true, false]), (80, [true, false, true, true, true]), (96, [true, false, true, true, true]), (113, [true, false, true, true, true])]) 98 h
set_option maxRecDepth 20000 in
theorem zv_X12_drawn_28 {Q : ab_R} {M : ab_M} {N : ab_N} (l1 : Int32) (l2 : Int32) (h : let y1 : Nat → Int64 := vp_updL (N 0) 68 ((l1.toInt64) + (1 : Int64)); let y2 : Nat → Int64 := vp_updL (y1) 70 (0 : Int64); let z3 : Nat → Int32 := upd (M 0) 71 (0 : Int32); zr_X12_drawn Q 48 [some (.ref 0), none, some (.int l2), some (.int (0 : Int32)), none] [] (ab_u M 0 z3) (ab_u (ab_u N 0 y1) 0 y2)) : zr_X12_drawn Q 28 [some (.ref 0), some (.int l1), some (.int l2), none, none] [] M N := ab_Run_s zm_X12_drawn (sp := [(28, [true, true, true, false, false]), (48, [true, false, true, true, false]), (69, [true, false, true, true, false]), (80, [true, false, true, true, true]), (96, [true, false, true, true, true]), (113, [true, false, true, true, true])]) 98 h
set_option maxRecDepth 20000 in
theorem zv_X12_drawn_48 {Q : ab_R} {M : ab_M} {N : ab_N} (l2 : Int32) (l3 : Int32) (h : ((8 : Int32) ≤ l3 → zr_X12_drawn Q 69 [some (.ref 0), none, some (.int l2), some (.int (0 : Int32)), none] [] M N) ∧ (¬ ((8 : Int32) ≤ l3) → vp_in l3 8 ∧ (let z1 : Nat → Int32 := upd (M 33) l3.toNatClampNeg (0 : Int32); zr_X12_drawn Q 48 [some (.ref 0), none, some (.int l2), some (.int (l3 + (1 : Int32))), none] [] (ab_u M 33 z1) N))) : zr_X12_drawn Q 48 [some (.ref 0), none, some (.int l2), some (.int l3), none] [] M N := ab_Run_s zm_X12_drawn (sp := [(28, [true, true, true, false, false]), (48, [true, false, true, true, false]), (69, [true, false, true, true, false]), (80, [true, false, true, true, true]), (96, [true, false, true, true, true]), (113, [true, false, true, true, true])]) 98 h
set_option maxRecDepth 20000 in
theorem zv_X12_drawn_69 {Q : ab_R} {M : ab_M} {N : ab_N} (l2 : Int32) (l3 : Int32) (h : ((M 0 0) ≤ l3 → zr_X12_drawn Q 113 [some (.ref 0), none, some (.int l2), some (.int (0 : Int32)), some (.int (0 : Int32))] [] M N) ∧ (¬ ((M 0 0) ≤ l3) → zr_X12_drawn Q 80 [some (.ref 0), none, some (.int l2), some (.int l3), some (.int (0 : Int32))] [] M N)) : zr_X12_drawn Q 69 [some (.ref 0), none, some (.int l2), some (.int l3), none] [] M N := ab_Run_s zm_X12_drawn (sp := [(28, [true, true, true, false, false]), (48, [true, false, true, true, false]), (69, [true, false, true, true, false]), (80, [true, false, true, true, true]), (96, [true, false, true, true, true]), (113, [true, false, true, true, true])]) 98 h
set_option maxRecDepth 20000 in
theorem zv_X12_drawn_80 {Q : ab_R} {M : ab_M} {N : ab_N} (l2 : Int32) (l3 : Int32) (l4 : Int32) (h : ((M 0 7) ≤ l4 → zr_X12_drawn Q 69 [some (.ref 0), none, some (.int l2), some (.int (l3 + (1 : Int32))), none] [] M N) ∧ (¬ ((M 0 7) ≤ l4) → zt_X12_drawsHour [.ref 0, .int l4, .int l3] M N (fun r M2 N2 => zr_X12_drawn Q 96 [some (.ref 0), none, some (.int l2), some (.int l3), some (.int l4)] (ab_ol r []) M2 N2))) : zr_X12_drawn Q 80 [some (.ref 0), none, some (.int l2), some (.int l3), some (.int l4)] [] M N := ab_Run_s zm_X12_drawn (sp := [(28, [true, true, true, false, false]), (48, [true, false, true, true, false]), (69, [true, false, true, true, false]), (80, [true, false, true, true, true]), (96, [true, false, true, true, true]), (113, [true, false, true, true, true])]) 98 h
set_option maxRecDepth 20000 in
theorem zv_X12_drawn_96 {Q : ab_R} {M : ab_M} {N : ab_N} (l2 : Int32) (l3 : Int32) (l4 : Int32) (h : zr_X12_drawn Q 80 [some (.ref 0), none, some (.int l2), some (.int l3), some (.int (l4 + (1 : Int32)))] [] M N) : zr_X12_drawn Q 96 [some (.ref 0), none, some (.int l2), some (.int l3), some (.int l4)] [] M N := ab_Run_s zm_X12_drawn (sp := [(28, [true, true, true, false, false]), (48, [true, false, true, true, false]), (69, [true, false, true, true, false]), (80, [true, false, true, true, true]), (96, [true, false, true, true, true]), (113, [true, false, true, true, true])]) 98 h
set_option maxRecDepth 20000 in
theorem zv_X12_drawn_113 {Q : ab_R} {M : ab_M} {N : ab_N} (l2 : Int32) (l3 : Int32) (l4 : Int32) (h : ((M 0 7) ≤ l4 → (l2 = 0 → Q (some (.long (N 0 70))) M N) ∧ (¬ (l2 = 0) → (l2 = (1 : Int32) → Q (some (.long (l3.toInt64))) M N) ∧ (¬ (l2 = (1 : Int32)) → Q (some (.long ((M 0 71).toInt64))) M N))) ∧ (¬ ((M 0 7) ≤ l4) → vp_in l4 8 ∧ (((M 33 l4.toNatClampNeg) = (M 0 1) → zr_X12_drawn Q 113 [some (.ref 0), none, some (.int l2), some (.int (l3 + (1 : Int32))), some (.int (l4 + (1 : Int32)))] [] M N) ∧ (¬ ((M 33 l4.toNatClampNeg) = (M 0 1)) → zr_X12_drawn Q 113 [some (.ref 0), none, some (.int l2), some (.int (l3 + (0 : Int32))), some (.int (l4 + (1 : Int32)))] [] M N)))) : zr_X12_drawn Q 113 [some (.ref 0), none, some (.int l2), some (.int l3), some (.int l4)] [] M N := ab_Run_s zm_X12_drawn (sp := [(28, [true, true, true, false, false]), (48, [true, false, true, true, false]), (69, [true, false, true, true, false]), (80, [true, false, true, true, true]), (96, [true, false, true, true, true]), (113, [true, false, true, true, true])]) 98 h
theorem zFrD_f {M M2 : ab_M} (h : zFrD M M2) : zFr (0 :: 33 :: zSL) M M2 := fun c hc => by
  simp only [List.mem_cons, not_or] at hc
  exact h.2 c hc.1 hc.2.2.1 hc.2.2.2.1 hc.2.1
theorem zL_X12_drawnC {Q : ab_R} {d M : ab_M} {N : ab_N} {w : Int32} {s : zDs} (hR : zRN d M) (hs : zHdR (zBrk d) M N s) (hb : zBrI d s) (hk : Q (some (.long (if w = 0 then s.2.2.1 else if w = 1 then s.2.2.2.1.toInt64 else s.2.2.2.2.toInt64))) M N) : ∀ (r p : Nat), p + r = zPcs d → zr_X12_drawn Q 113 [some (.ref 0), none, some (.int w), some (.int (nI (zCb (zBrk d) s.1 p))), some (.int (nI p))] [] M N := by
  obtain ⟨n7, p8, n12, m5, n0, h1, h12, n1, b2, b6⟩ := zNI_n hR
  obtain ⟨h33, h68, h70, h71, -⟩ := hs
  intro r
  induction r with
  | zero =>
    intro p hr
    have e : p = zPcs d := by omega
    subst e
    refine zv_X12_drawn_113 _ _ _ ⟨fun _ => ⟨fun c => ?_, fun c => ⟨fun c2 => ?_, fun c2 => ?_⟩⟩, fun c => absurd (by rw [n7]; exact nI_le (Nat.le_refl _) (by omega)) c⟩
    · rw [if_pos c, ← h70] at hk; exact hk
    · rw [if_neg c, if_pos c2, hb] at hk; exact hk
    · rw [if_neg c, if_neg c2, ← h71] at hk; exact hk
  | succ r ih =>
    intro p hr
    have ih := ih (p + 1) (by omega)
    unfold zCb at ih
    obtain ⟨q1, q2⟩ := h33 p (by omega)
    refine zv_X12_drawn_113 _ _ _ ?_
    rw [n7, nI_clamp (show p < 2 ^ 31 by omega), q1, n1, nI_1, nI_1]
    refine ⟨fun c => absurd c (nI_ge (by omega) (by omega)), fun _ => ⟨nI_in_ (by omega), fun c => ?_, fun c => ?_⟩⟩
    · rw [if_pos ((nI_eq (by omega) (by omega)).mp c)] at ih
      exact ih
    · rw [if_neg (fun z => c (by rw [z]))] at ih
      rw [Int32.add_zero]
      exact ih
theorem zL_X12_drawnP {Q : ab_R} {d M0 : ab_M} {N0 : ab_N} {w : Int32} {h : Nat} {s : zDs} (hR : zRN d M0) (hW : zWkR d M0 (zHrs d)) (h11 : d 6 11 = -1) (hh : h < zHrs d) (hk : ∀ M N, zFrD M0 M → zNfr [0] N0 N → zHdR (zBrk d) M N (zDHour d h (zPcs d) s) → zr_X12_drawn Q 69 [some (.ref 0), none, some (.int w), some (.int (nI (h + 1))), none] [] M N) : ∀ (r p : Nat) (M : ab_M) (N : ab_N), p + r = zPcs d → zFrD M0 M → zNfr [0] N0 N → zHdR (zBrk d) M N (zDHour d h p s) → zr_X12_drawn Q 80 [some (.ref 0), none, some (.int w), some (.int (nI h)), some (.int (nI p))] [] M N := by
  obtain ⟨n7, p8, n12, m5, n0, h1, h12, n1, b2, b6⟩ := zNI_n hR
  intro r
  induction r with
  | zero =>
    intro p M N hr hF hN hs
    have e : p = zPcs d := by omega
    subst e
    refine zv_X12_drawn_80 _ _ _ ?_
    rw [nI_1, hF.1 7 (by decide), n7]
    exact ⟨fun _ => hk M N hF hN hs, fun c => absurd (nI_le (Nat.le_refl _) (by omega)) c⟩
  | succ r ih =>
    intro p M N hr hF hN hs
    refine zv_X12_drawn_80 _ _ _ ?_
    rw [hF.1 7 (by decide), n7]
    refine ⟨fun c => absurd c (nI_ge (by omega) (by omega)), fun _ => ⟨(d, p, h, zDHour d h p s), _, rfl, ⟨rfl, zRN_D hR hF, zWkR_D hW hF, by dsimp only; omega, hh, h11, hs⟩, ?_⟩⟩
    rintro o M2 N2 ⟨rfl, f1, f2, f3⟩
    refine zv_X12_drawn_96 _ _ _ ?_
    rw [nI_1]
    exact ih (p + 1) M2 N2 (by omega) (zFrD_tr hF f1) (zNfr_tr hN f2) f3
theorem zL_X12_drawnH {Q : ab_R} {d M0 : ab_M} {N0 : ab_N} {w : Int32} {s : zDs} (hR : zRN d M0) (hW : zWkR d M0 (zHrs d)) (h11 : d 6 11 = -1) (hb : zBrI d s) (hk : ∀ M N, zFrD M0 M → zNfr [0] N0 N → Q (some (.long (if w = 0 then (zDAll d s (zHrs d)).2.2.1 else if w = 1 then (zDAll d s (zHrs d)).2.2.2.1.toInt64 else (zDAll d s (zHrs d)).2.2.2.2.toInt64))) M N) : ∀ (r h : Nat) (M : ab_M) (N : ab_N), h + r = zHrs d → zFrD M0 M → zNfr [0] N0 N → zHdR (zBrk d) M N (zDAll d s h) → zr_X12_drawn Q 69 [some (.ref 0), none, some (.int w), some (.int (nI h)), none] [] M N := by
  obtain ⟨n7, p8, n12, m5, n0, h1, h12, n1, b2, b6⟩ := zNI_n hR
  intro r
  induction r with
  | zero =>
    intro h M N hr hF hN hs
    have e : h = zHrs d := by omega
    subst e
    refine zv_X12_drawn_69 _ _ ?_
    rw [hF.1 0 (by decide), n0]
    exact ⟨fun _ => zL_X12_drawnC (zRN_D hR hF) hs (zBrI_all b2 hb _) (hk M N hF hN) (zPcs d) 0 (by omega), fun c => absurd (nI_le (Nat.le_refl _) (by omega)) c⟩
  | succ r ih =>
    intro h M N hr hF hN hs
    refine zv_X12_drawn_69 _ _ ?_
    rw [hF.1 0 (by decide), n0]
    refine ⟨fun c => absurd c (nI_ge (by omega) (by omega)), fun _ => ?_⟩
    exact zL_X12_drawnP (M0 := M0) (N0 := N0) (s := zDAll d s h) hR hW h11 (by omega) (fun M2 N2 a b c => ih (h + 1) M2 N2 (by omega) a b c) (zPcs d) 0 M N (by omega) hF hN hs
theorem zL_X12_drawn0 {Q : ab_R} {M0 : ab_M} {N : ab_N} {w : Int32} (hk : ∀ M, zFr [33] M0 M → (∀ p, p < 8 → M 33 p = 0) → zr_X12_drawn Q 69 [some (.ref 0), none, some (.int w), some (.int (0 : Int32)), none] [] M N) : ∀ (r p : Nat) (M : ab_M), p + r = 8 → zFr [33] M0 M → (∀ q, q < p → M 33 q = 0) → zr_X12_drawn Q 48 [some (.ref 0), none, some (.int w), some (.int (nI p)), none] [] M N := by
  intro r
  induction r with
  | zero =>
    intro p M hr hF h0
    have e : p = 8 := by omega
    subst e
    exact zv_X12_drawn_48 _ _ ⟨fun _ => hk M hF h0, fun c => absurd (by decide) c⟩
  | succ r ih =>
    intro p M hr hF h0
    refine zv_X12_drawn_48 _ _ ⟨fun c => absurd (show nI 8 ≤ nI p from c) (nI_ge (by omega) (by omega)), fun _ => ⟨nI_in_ (by omega), ?_⟩⟩
    intro z1
    rw [nI_1]
    refine ih (p + 1) _ (by omega) (zFr_u hF (by decide) _) (fun q hq => ?_)
    rw [ab_u_eq]
    show upd (M 33) (nI p).toNatClampNeg 0 q = 0
    rw [nI_clamp (show p < 2 ^ 31 by omega)]
    by_cases e : q = p
    · rw [e, upd_eq]
    · rw [upd_ne _ _ e]; exact h0 q (by omega)
theorem zE_X12_drawn (as : List Value) (M : ab_M) (N : ab_N) (k : ab_R) (hT : zt_X12_drawn as M N k) : ab_cs as ≤ 5 ∧ zr_X12_drawn k 0 (ab_en as) [] M N := by
  obtain ⟨⟨d, x, w⟩, q, rfl, ⟨rfl, hR, h11⟩, hk⟩ := hT
  dsimp only at hR h11 hk ⊢
  obtain ⟨n7, p8, n12, m5, n0, h1, h12, n1, b2, b6⟩ := zNI_n hR
  have hk := fun M2 N2 hF h0 hN => hk _ M2 N2 ⟨hF, h0, hN, rfl⟩
  unfold zDrA at hk
  refine ⟨Nat.le_of_ble_eq_true rfl, zv_X12_drawn_0 _ _ ⟨fun c => ?_, fun c => ⟨fun c2 => ?_, fun c2 => ⟨d, _, rfl, ⟨rfl, hR⟩, ?_⟩⟩⟩⟩
  · have hk := hk M N (zFr_rf _ _) (fun _ _ => rfl) (zNfr_rf _ _)
    rw [if_neg (ab_b_0.mp c)] at hk
    exact hk
  · have hk := hk M N (zFr_rf _ _) (fun _ _ => rfl) (zNfr_rf _ _)
    rw [if_pos (zIx0 c), if_neg (ab_b_0.mp c2)] at hk
    exact hk
  · rintro o M2 N2 ⟨rfl, rfl, g1, g2⟩
    have a1 := zIx0 c
    rw [if_pos a1, if_pos (zIx0 c2)] at hk
    obtain ⟨kx, y1, y2⟩ := zIxM (n := 99999) (by decide) a1
    refine zv_X12_drawn_28 _ _ ?_
    intro ya yb z3
    rw [ab_u_u]
    have hD : zFrD M2 (ab_u M2 0 z3) := zFrD_0 (zFrD_rf _) 0
    refine zL_X12_drawn0 (fun M3 f1 f2 => ?_) 8 0 _ (by omega) (zFr_rf _ _) (fun q hq => absurd hq (Nat.not_lt_zero _))
    have hD3 : zFrD M2 M3 := zFrD_tr hD ⟨fun j _ => by rw [f1 0 (by decide)], fun c h0 h1 h2 h3 => f1 c (by simpa using h3)⟩
    have hs : zHdR (zBrk d) M3 (ab_u N2 0 yb) (zDs0 x) := by
      refine ⟨fun p hp => ⟨f2 p hp, Nat.zero_le _⟩, ?_, ?_, ?_, kx + 1, by omega, ?_⟩
      · rw [ab_u_eq]
        show vp_updL ya 70 0 68 = _
        rw [updL_ne _ _ (by decide)]
        exact updL_eq _ _ _
      · rw [ab_u_eq]; exact updL_eq _ _ _
      · rw [f1 0 (by decide), ab_u_eq]; exact upd_eq _ _ _
      · show x.toInt64 + 1 = _
        rw [y2, nI_l (by omega), lN_1]
    refine zL_X12_drawnH (M0 := M3) (N0 := ab_u N2 0 yb) (zRN_D (zRN_zfr hR g1 (by decide)) hD3) (zWkR_D g2 hD3) h11 (zBrI_0 b2 x) (fun M4 N4 q1 q2 => hk M4 N4 ?_ ?_ ?_) (zHrs d) 0 M3 _ (by omega) (zFrD_rf _) (zNfr_rf _ _) hs
    · exact zFr_tr (zFr_mono g1 (by decide)) (zFr_tr (zFrD_f hD3) (zFrD_f q1))
    · exact fun j hj => by rw [q1.1 j hj, hD3.1 j hj, g1 0 (by decide)]
    · exact fun c hc => by
        have c0 : c ≠ 0 := fun z => hc (by rw [z]; decide)
        rw [q2 c (by simpa using c0), ab_u_ne _ _ c0]
abbrev zR_X12_drawn : Room := { frames := 7, cells := 0, slots := 0, locals := 166 }
set_option maxRecDepth 20000 in
theorem zM_X12_drawn (l : Launch) : ab_Met l zw_M vwCl zZ_M yX12_drawn cX12_drawn 5 (some .long) zR_X12_drawn zt_X12_drawn := ab_ofRun (G := zg_X12_drawn) (P := zp_X12_drawn) rfl zo_X12_drawn (by decide +kernel) zl_cl zl_lamM zf_X12_ok ab_Tab_nil zc_X12_ok ab_Sta_nil (List.forall_mem_cons.mpr ⟨ab_callV zZ_M_ok (zM_X12_walk l) (ab_in 1317 (by decide +kernel) rfl) (ab_in 1314 (by decide +kernel) rfl) (ab_in 1316 (by decide +kernel) rfl) (ab_inS (List.mem_of_getElem? (i := 41) (by decide +kernel)) rfl) (ab_in 17 (by decide +kernel) rfl) (by unfold ab_yok; decide +kernel) ⟨rfl, rfl⟩ (by decide) zV_X12_walk, List.forall_mem_cons.mpr ⟨ab_callV zZ_M_ok (zM_X12_drawsHour l) (ab_in 1497 (by decide +kernel) rfl) (ab_in 1494 (by decide +kernel) rfl) (ab_in 1496 (by decide +kernel) rfl) (ab_inS (List.mem_of_getElem? (i := 58) (by decide +kernel)) rfl) (ab_in 17 (by decide +kernel) rfl) (by unfold ab_yok; decide +kernel) ⟨rfl, rfl⟩ (by decide) zV_X12_drawsHour, List.forall_mem_nil _⟩⟩) (List.forall_mem_cons.mpr ⟨ab_callS zZ_M_ok (zM_X12_in l) (ab_in 1200 (by decide +kernel) rfl) (ab_in 1198 (by decide +kernel) rfl) (ab_in 1199 (by decide +kernel) rfl) (ab_in 17 (by decide +kernel) rfl) (by unfold ab_yok; decide +kernel) ⟨rfl, rfl⟩ (by decide), List.forall_mem_nil _⟩) zE_X12_drawn
