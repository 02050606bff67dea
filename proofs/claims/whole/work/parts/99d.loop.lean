/-! the law: its loop, its start *)
-/
theorem zAnd63 (x : Int32) : ∃ k : Nat, k < 64 ∧ x &&& (63 : Int32) = nI k := by
  have e : (x &&& (63 : Int32)).toBitVec = x.toBitVec &&& 63#32 := rfl
  have l : (x.toBitVec &&& 63#32).toNat ≤ 63 := by
    rw [BitVec.toNat_and]
    exact Nat.and_le_right
  have t : (x &&& (63 : Int32)).toInt = ((x.toBitVec &&& 63#32).toNat : Int) := by
    show (x &&& (63 : Int32)).toBitVec.toInt = _
    rw [e, BitVec.toInt_eq_toNat_of_lt (by omega)]
  have z0 : (0 : Int32).toInt = 0 := by decide
  have z63 : (63 : Int32).toInt = ((63 : Nat) : Int) := by decide
  obtain ⟨j, hj, ej⟩ := nI_of2 (M := 63) (n := 63) (x := x &&& (63 : Int32)) z63 (by rw [Int32.lt_iff_toInt_lt, t, z0]; omega) (by rw [Int32.le_iff_toInt_le, t, z63]; omega)
  exact ⟨j, by omega, ej⟩
def zDsw : Prop := decode code 33 = .ok (.tableswitch 1656 0 45 #[199, 232, 275, 308, 341, 364, 427, 440, 463, 526, 579, 612, 645, 678, 701, 734, 767, 791, 825, 869, 882, 916, 940, 973, 996, 1030, 1053, 1097, 1110, 1143, 1166, 1189, 1212, 1235, 1259, 1282, 1315, 1338, 1361, 1395, 1408, 1421, 1464, 1507, 1570, 1623], 199)
theorem zDsw_ok : zDsw := by unfold zDsw; decide +kernel
set_option maxHeartbeats 4000000 in
theorem zSwitch {l : Launch} {p : Program} {e : Env} {s : State} {m : MethodId} {below : List Frame} {meth : Method} {c : Code} {b L : Nat} {xs : Nat → Int32} {D : va_G} {cy : FieldType → ClassId} {aC aM : Nat → Nat} {ck sk : Nat} {Q : State → Prop} {ls : Array Slot} {i bb : Nat} (hc : zLc p s m meth c b L xs D cy aC aM) (hck : ck ≤ 600000 ∧ sk ≤ 7302250) (hl : lv_has ls 4 [(0, .ref b), (1, .ref (aC 0)), (2, .ref (aM 0)), (3, .int (nI i))]) (hi : i + 6 ≤ L) (hbb : bb + 8 < 2000000) (kk : zHere p l e s m below meth c b D cy aC aM ck sk Q ls (bb + 8) 1689) {MC : ab_M} {NC : ab_N} {MM : ab_M} {NM : ab_N} {H : Heap} {locs : List Loc} (hI : zInv bb MC MM NM) (hP : va_P D vwCl (ab_w zw_C aC cy MC NC) H) (hP2 : va_P D vwCl (ab_w zw_M aM cy MM NM) H) (hS : va_S (zA0 s) s.heap H locs) (k : Nat) (hk : k < 64) : W p l e room_1 s m #[Value.ref b] below meth c H locs ck sk Q (F0 m 33 ls [.int (nI k)]) := by
  obtain ⟨hx, hb, hr, hml, hown, hts, hX, hbl, hlocks, hgv⟩ := id hc.1
  have dsw : decode code 33 = .ok (.tableswitch 1656 0 45 #[199, 232, 275, 308, 341, 364, 427, 440, 463, 526, 579, 612, 645, 678, 701, 734, 767, 791, 825, 869, 882, 916, 940, 973, 996, 1030, 1053, 1097, 1110, 1143, 1166, 1189, 1212, 1235, 1259, 1282, 1315, 1338, 1361, 1395, 1408, 1421, 1464, 1507, 1570, 1623], 199) := zDsw_ok
  match k, hk with
  | 0, _ => exact lv_tableIn (off := 199) (tgt := 232) hx hb dsw (by decide +kernel) (by decide +kernel) rfl rfl (zCs_piece hc hck hl hi hbb kk _ _ _ _ _ _ hI hP hP2 hS)
  | 1, _ => exact lv_tableIn (off := 232) (tgt := 265) hx hb dsw (by decide +kernel) (by decide +kernel) rfl rfl (zCs_set hc hck hl hi hbb kk _ _ _ _ _ _ hI hP hP2 hS)
  | 2, _ => exact lv_tableIn (off := 275) (tgt := 308) hx hb dsw (by decide +kernel) (by decide +kernel) rfl rfl (zCs_night hc hck hl hi hbb kk _ _ _ _ _ _ hI hP hP2 hS)
  | 3, _ => exact lv_tableIn (off := 308) (tgt := 341) hx hb dsw (by decide +kernel) (by decide +kernel) rfl rfl (zCs_water hc hck hl hi hbb kk _ _ _ _ _ _ hI hP hP2 hS)
  | 4, _ => exact lv_tableIn (off := 341) (tgt := 374) hx hb dsw (by decide +kernel) (by decide +kernel) rfl rfl (zCs_count hc hck hl hi hbb kk _ _ _ _ _ _ hI hP hP2 hS)
  | 5, _ => exact lv_tableIn (off := 364) (tgt := 397) hx hb dsw (by decide +kernel) (by decide +kernel) rfl rfl (zCs_feed hc hck hl hi hbb kk _ _ _ _ _ _ hI hP hP2 hS)
  | 6, _ => exact lv_tableIn (off := 427) (tgt := 460) hx hb dsw (by decide +kernel) (by decide +kernel) rfl rfl (zCs_text hc hck hl hi hbb kk _ _ _ _ _ _ hI hP hP2 hS)
  | 7, _ => exact lv_tableIn (off := 440) (tgt := 473) hx hb dsw (by decide +kernel) (by decide +kernel) rfl rfl (zCs_force hc hck hl hi hbb kk _ _ _ _ _ _ hI hP hP2 hS)
  | 8, _ => exact lv_tableIn (off := 463) (tgt := 496) hx hb dsw (by decide +kernel) (by decide +kernel) rfl rfl (zCs_asks hc hck hl hi hbb kk _ _ _ _ _ _ hI hP hP2 hS)
  | 9, _ => exact lv_tableIn (off := 526) (tgt := 559) hx hb dsw (by decide +kernel) (by decide +kernel) rfl rfl (zCs_man hc hck hl hi hbb kk _ _ _ _ _ _ hI hP hP2 hS)
  | 10, _ => exact lv_tableIn (off := 579) (tgt := 612) hx hb dsw (by decide +kernel) (by decide +kernel) rfl rfl (zCs_pace hc hck hl hi hbb kk _ _ _ _ _ _ hI hP hP2 hS)
  | 11, _ => exact lv_tableIn (off := 612) (tgt := 645) hx hb dsw (by decide +kernel) (by decide +kernel) rfl rfl (zCs_manTold hc hck hl hi hbb kk _ _ _ _ _ _ hI hP hP2 hS)
  | 12, _ => exact lv_tableIn (off := 645) (tgt := 678) hx hb dsw (by decide +kernel) (by decide +kernel) rfl rfl (zCs_where hc hck hl hi hbb kk _ _ _ _ _ _ hI hP hP2 hS)
  | 13, _ => exact lv_tableIn (off := 678) (tgt := 711) hx hb dsw (by decide +kernel) (by decide +kernel) rfl rfl (zCs_looked hc hck hl hi hbb kk _ _ _ _ _ _ hI hP hP2 hS)
  | 14, _ => exact lv_tableIn (off := 701) (tgt := 734) hx hb dsw (by decide +kernel) (by decide +kernel) rfl rfl (zCs_often hc hck hl hi hbb kk _ _ _ _ _ _ hI hP hP2 hS)
  | 15, _ => exact lv_tableIn (off := 734) (tgt := 767) hx hb dsw (by decide +kernel) (by decide +kernel) rfl rfl (zCs_meet hc hck hl hi hbb kk _ _ _ _ _ _ hI hP hP2 hS)
  | 16, _ => exact lv_tableIn (off := 767) (tgt := 800) hx hb dsw (by decide +kernel) (by decide +kernel) rfl rfl (zCs_run hc hck hl hi hbb kk _ _ _ _ _ _ hI hP hP2 hS)
  | 17, _ => exact lv_tableIn (off := 791) (tgt := 824) hx hb dsw (by decide +kernel) (by decide +kernel) rfl rfl (zCs_harm hc hck hl hi hbb kk _ _ _ _ _ _ hI hP hP2 hS)
  | 18, _ => exact lv_tableIn (off := 825) (tgt := 858) hx hb dsw (by decide +kernel) (by decide +kernel) rfl rfl (zCs_state hc hck hl hi hbb kk _ _ _ _ _ _ hI hP hP2 hS)
  | 19, _ => exact lv_tableIn (off := 869) (tgt := 902) hx hb dsw (by decide +kernel) (by decide +kernel) rfl rfl (zCs_worst hc hck hl hi hbb kk _ _ _ _ _ _ hI hP hP2 hS)
  | 20, _ => exact lv_tableIn (off := 882) (tgt := 915) hx hb dsw (by decide +kernel) (by decide +kernel) rfl rfl (zCs_more hc hck hl hi hbb kk _ _ _ _ _ _ hI hP hP2 hS)
  | 21, _ => exact lv_tableIn (off := 916) (tgt := 949) hx hb dsw (by decide +kernel) (by decide +kernel) rfl rfl (zCs_bestLook hc hck hl hi hbb kk _ _ _ _ _ _ hI hP hP2 hS)
  | 22, _ => exact lv_tableIn (off := 940) (tgt := 973) hx hb dsw (by decide +kernel) (by decide +kernel) rfl rfl (zCs_lamp hc hck hl hi hbb kk _ _ _ _ _ _ hI hP hP2 hS)
  | 23, _ => exact lv_tableIn (off := 973) (tgt := 1006) hx hb dsw (by decide +kernel) (by decide +kernel) rfl rfl (zCs_ready hc hck hl hi hbb kk _ _ _ _ _ _ hI hP hP2 hS)
  | 24, _ => exact lv_tableIn (off := 996) (tgt := 1029) hx hb dsw (by decide +kernel) (by decide +kernel) rfl rfl (zCs_rounds hc hck hl hi hbb kk _ _ _ _ _ _ hI hP hP2 hS)
  | 25, _ => exact lv_tableIn (off := 1030) (tgt := 1063) hx hb dsw (by decide +kernel) (by decide +kernel) rfl rfl (zCs_quick hc hck hl hi hbb kk _ _ _ _ _ _ hI hP hP2 hS)
  | 26, _ => exact lv_tableIn (off := 1053) (tgt := 1086) hx hb dsw (by decide +kernel) (by decide +kernel) rfl rfl (zCs_next hc hck hl hi hbb kk _ _ _ _ _ _ hI hP hP2 hS)
  | 27, _ => exact lv_tableIn (off := 1097) (tgt := 1130) hx hb dsw (by decide +kernel) (by decide +kernel) rfl rfl (zCs_spare hc hck hl hi hbb kk _ _ _ _ _ _ hI hP hP2 hS)
  | 28, _ => exact lv_tableIn (off := 1110) (tgt := 1143) hx hb dsw (by decide +kernel) (by decide +kernel) rfl rfl (zCs_judge hc hck hl hi hbb kk _ _ _ _ _ _ hI hP hP2 hS)
  | 29, _ => exact lv_tableIn (off := 1143) (tgt := 1176) hx hb dsw (by decide +kernel) (by decide +kernel) rfl rfl (zCs_sure hc hck hl hi hbb kk _ _ _ _ _ _ hI hP hP2 hS)
  | 30, _ => exact lv_tableIn (off := 1166) (tgt := 1199) hx hb dsw (by decide +kernel) (by decide +kernel) rfl rfl (zCs_fewest hc hck hl hi hbb kk _ _ _ _ _ _ hI hP hP2 hS)
  | 31, _ => exact lv_tableIn (off := 1189) (tgt := 1222) hx hb dsw (by decide +kernel) (by decide +kernel) rfl rfl (zCs_check hc hck hl hi hbb kk _ _ _ _ _ _ hI hP hP2 hS)
  | 32, _ => exact lv_tableIn (off := 1212) (tgt := 1245) hx hb dsw (by decide +kernel) (by decide +kernel) rfl rfl (zCs_call hc hck hl hi hbb kk _ _ _ _ _ _ hI hP hP2 hS)
  | 33, _ => exact lv_tableIn (off := 1235) (tgt := 1268) hx hb dsw (by decide +kernel) (by decide +kernel) rfl rfl (zCs_village hc hck hl hi hbb kk _ _ _ _ _ _ hI hP hP2 hS)
  | 34, _ => exact lv_tableIn (off := 1259) (tgt := 1292) hx hb dsw (by decide +kernel) (by decide +kernel) rfl rfl (zCs_callWhen hc hck hl hi hbb kk _ _ _ _ _ _ hI hP hP2 hS)
  | 35, _ => exact lv_tableIn (off := 1282) (tgt := 1315) hx hb dsw (by decide +kernel) (by decide +kernel) rfl rfl (zCs_trusts hc hck hl hi hbb kk _ _ _ _ _ _ hI hP hP2 hS)
  | 36, _ => exact lv_tableIn (off := 1315) (tgt := 1348) hx hb dsw (by decide +kernel) (by decide +kernel) rfl rfl (zCs_places hc hck hl hi hbb kk _ _ _ _ _ _ hI hP hP2 hS)
  | 37, _ => exact lv_tableIn (off := 1338) (tgt := 1371) hx hb dsw (by decide +kernel) (by decide +kernel) rfl rfl (zCs_learn hc hck hl hi hbb kk _ _ _ _ _ _ hI hP hP2 hS)
  | 38, _ => exact lv_tableIn (off := 1361) (tgt := 1394) hx hb dsw (by decide +kernel) (by decide +kernel) rfl rfl (zCs_drawn hc hck hl hi hbb kk _ _ _ _ _ _ hI hP hP2 hS)
  | 39, _ => exact lv_tableIn (off := 1395) (tgt := 1428) hx hb dsw (by decide +kernel) (by decide +kernel) rfl rfl (zCs_image hc hck hl hi hbb kk _ _ _ _ _ _ hI hP hP2 hS)
  | 40, _ => exact lv_tableIn (off := 1408) (tgt := 1441) hx hb dsw (by decide +kernel) (by decide +kernel) rfl rfl (zCs_back hc hck hl hi hbb kk _ _ _ _ _ _ hI hP hP2 hS)
  | 41, _ => exact lv_tableIn (off := 1421) (tgt := 1454) hx hb dsw (by decide +kernel) (by decide +kernel) rfl rfl (zCs_sheet hc hck hl hi hbb kk _ _ _ _ _ _ hI hP hP2 hS)
  | 42, _ => exact lv_tableIn (off := 1464) (tgt := 1497) hx hb dsw (by decide +kernel) (by decide +kernel) rfl rfl (zCs_cell hc hck hl hi hbb kk _ _ _ _ _ _ hI hP hP2 hS)
  | 43, _ => exact lv_tableIn (off := 1507) (tgt := 1540) hx hb dsw (by decide +kernel) (by decide +kernel) rfl rfl (zCs_copy hc hck hl hi hbb kk _ _ _ _ _ _ hI hP hP2 hS)
  | 44, _ => exact lv_tableIn (off := 1570) (tgt := 1603) hx hb dsw (by decide +kernel) (by decide +kernel) rfl rfl (zCs_piecesBy hc hck hl hi hbb kk _ _ _ _ _ _ hI hP hP2 hS)
  | 45, _ => exact lv_tableIn (off := 1623) (tgt := 1656) hx hb dsw (by decide +kernel) (by decide +kernel) rfl rfl (zCs_taken hc hck hl hi hbb kk _ _ _ _ _ _ hI hP hP2 hS)
  | k + 46, hk =>
    refine lv_tableOut (tgt := 1689) hx hb dsw (Or.inr ?_) rfl (kk _ _ _ _ _ _ (zInv_up hI (by omega)) hP hP2 hS)
    rw [nI_toInt (by omega)]
    omega
set_option maxHeartbeats 4000000 in
theorem zLoop {l : Launch} {p : Program} {e : Env} {s : State} {m : MethodId} {below : List Frame} {meth : Method} {c : Code} {b L : Nat} {xs : Nat → Int32} {D : va_G} {cy : FieldType → ClassId} {aC aM : Nat → Nat} {ck sk : Nat} (hc : zLc p s m meth c b L xs D cy aC aM) (hck : ck ≤ 600000 ∧ sk ≤ 7302250) : ∀ (r j : Nat), 6 * j ≤ L → L < 6 * j + 6 * r + 6 → ∀ ls : Array Slot, lv_has ls 4 [(0, .ref b), (1, .ref (aC 0)), (2, .ref (aM 0)), (3, .int (nI (6 * j)))] → zHere p l e s m below meth c b D cy aC aM ck sk (lw_Z below #[Value.ref b] s) ls (1 + 8 * j) 18 := by
  intro r
  induction r with
  | zero =>
    intro j hj hL2 ls hl MC NC MM NM H locs hI hP hP2 hS
    obtain ⟨C0, hL, -⟩ := id hc
    obtain ⟨hx, hb, hr, hml, hown, hts, hX, hbl, hlocks, hgv⟩ := id C0
    refine lv_iload_n (k := 3) (i := 3) hx hb (show decode code 18 = .ok (.iload_n 3, 1) by decide +kernel) rfl (lv_at hl 3 rfl) ?_
    refine lv_aload_n (k := 0) (i := 0) hx hb (show decode code 19 = .ok (.aload_n 0, 1) by decide +kernel) rfl (lv_at hl 0 rfl) ?_
    refine va_slen hx hb hX hbl (fun z => absurd z (Nat.not_le.mpr hbl)) hS (show decode code 20 = .ok (.arraylength, 1) by decide +kernel) ?_
    refine lv_bipush (v := 6) hx hb (show decode code 21 = .ok (.bipush 6, 2) by decide +kernel) (by decide) ?_
    refine lv_isub hx hb (show decode code 23 = .ok (.isub, 1) by decide +kernel) ?_
    refine lv_icmp_gt (tgt := 1695) hx hb (show decode code 24 = .ok (.if_icmp .gt 1671, 3) by decide +kernel) rfl (fun _ => ?_) (fun z => ?_)
    · refine va_forget (fun q hq => hS.2.2 q hq) ?_
      refine lv_iconst (v := 1) hx hb (show decode code 1695 = .ok (.iconst 1, 1) by decide +kernel) (by decide) ?_
      refine W.widen (k := 600000) (n := 7302250) hck.1 hck.2 ?_
      exact lw_ret hx hb hr hlocks (show decode code 1696 = .ok (.ireturn, 1) by decide +kernel)
    · exfalso
      apply z
      rw [Int32.lt_iff_toInt_lt, show (6 : Int32) = nI 6 from rfl, show Int32.ofNat L = nI L from rfl, pk_sub_toInt (by omega) (by omega), nI_toInt (by omega)]
      omega
  | succ r ih =>
    intro j hj hL2 ls hl MC NC MM NM H locs hI hP hP2 hS
    obtain ⟨C0, hL, -⟩ := id hc
    obtain ⟨hx, hb, hr, hml, hown, hts, hX, hbl, hlocks, hgv⟩ := id C0
    refine lv_iload_n (k := 3) (i := 3) hx hb (show decode code 18 = .ok (.iload_n 3, 1) by decide +kernel) rfl (lv_at hl 3 rfl) ?_
    refine lv_aload_n (k := 0) (i := 0) hx hb (show decode code 19 = .ok (.aload_n 0, 1) by decide +kernel) rfl (lv_at hl 0 rfl) ?_
    refine va_slen hx hb hX hbl (fun z => absurd z (Nat.not_le.mpr hbl)) hS (show decode code 20 = .ok (.arraylength, 1) by decide +kernel) ?_
    refine lv_bipush (v := 6) hx hb (show decode code 21 = .ok (.bipush 6, 2) by decide +kernel) (by decide) ?_
    refine lv_isub hx hb (show decode code 23 = .ok (.isub, 1) by decide +kernel) ?_
    refine lv_icmp_gt (tgt := 1695) hx hb (show decode code 24 = .ok (.if_icmp .gt 1671, 3) by decide +kernel) rfl (fun _ => ?_) (fun z => ?_)
    · refine va_forget (fun q hq => hS.2.2 q hq) ?_
      refine lv_iconst (v := 1) hx hb (show decode code 1695 = .ok (.iconst 1, 1) by decide +kernel) (by decide) ?_
      refine W.widen (k := 600000) (n := 7302250) hck.1 hck.2 ?_
      exact lw_ret hx hb hr hlocks (show decode code 1696 = .ok (.ireturn, 1) by decide +kernel)
    · have hi : 6 * j + 6 ≤ L := by
        rw [Int32.lt_iff_toInt_lt, show (6 : Int32) = nI 6 from rfl, show Int32.ofNat L = nI L from rfl, pk_sub_toInt (by omega) (by omega), nI_toInt (by omega)] at z
        omega
      refine lv_aload_n (k := 0) (i := 0) hx hb (show decode code 27 = .ok (.aload_n 0, 1) by decide +kernel) rfl (lv_at hl 0 rfl) ?_
      refine lv_iload_n (k := 3) (i := 3) hx hb (show decode code 28 = .ok (.iload_n 3, 1) by decide +kernel) rfl (lv_at hl 3 rfl) ?_
      refine va_sld hx hb hX hbl (fun z => absurd z (Nat.not_le.mpr hbl)) hS (nI_in_ (n := 6 * j) (by omega) (by omega)) (show decode code 29 = .ok (.iaload, 1) by decide +kernel) ?_
      refine lv_bipush (v := 63) hx hb (show decode code 30 = .ok (.bipush 63, 2) by decide +kernel) (by decide) ?_
      refine lv_iand hx hb (show decode code 32 = .ok (.iand, 1) by decide +kernel) ?_
      obtain ⟨k, hk, ek⟩ := zAnd63 (xs (nI (6 * j)).toNatClampNeg)
      rw [ek]
      refine zSwitch hc hck hl hi (by omega) ?_ hI hP hP2 hS k hk
      intro MC2 NC2 MM2 NM2 H2 locs2 hI2 hQ hQ2 hS2
      refine lv_iinc (k := 3) (v := nI (6 * (j + 1))) (lv' := [(3, .int (nI (6 * (j + 1)))), (0, .ref b), (1, .ref (aC 0)), (2, .ref (aM 0))]) hx hb (show decode code 1689 = .ok (.iinc 3 6, 3) by decide +kernel) hl rfl (by rw [show Int32.ofInt 6 = nI 6 from rfl, nI_add, show 6 * j + 6 = 6 * (j + 1) by omega]) (by decide) rfl (fun ls2 hl2 => ?_)
      refine lv_goto (tgt := 18) hx hb (show decode code 1692 = .ok (.goto (-1674), 3) by decide +kernel) rfl ?_
      exact ih (j + 1) (by omega) (by omega) ls2 (lv_sub hl2 [1, 2, 3, 0] rfl) _ _ _ _ _ _ (zInv_up hI2 (by omega)) hQ hQ2 hS2
