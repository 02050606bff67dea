/-! the law: behind the constructors *)
-/
theorem zW_len {Λ : List ab_L} {ad : Nat → Nat} {cy : FieldType → ClassId} {M : ab_M} {N : ab_N} : (ab_w Λ ad cy M N).length = Λ.length := by
  unfold ab_w
  exact List.length_mapIdx
theorem zHF12 : ∀ j, j < 72 → defaultValue (tyX12 j) = vp_V [.int 0, .int 0, .int 0, .int 0, .int 0, .int 0, .null, .int 0, .null, .null, .null, .null, .int 0, .null, .null, .null, .null, .null, .null, .null, .int 0, .null, .null, .int 0, .int 0, .int 0, .int 0, .int 0, .int 0, .int 0, .int 0, .int 0, .int 0, .int 0, .int 0, .int 0, .int 0, .int 0, .int 0, .int 0, .int 0, .null, .null, .null, .null, .null, .null, .null, .null, .null, .int 0, .int 0, .int 0, .int 0, .null, .null, .int 0, .int 0, .int 0, .null, .null, .null, .null, .null, .null, .null, .long 0, .long 0, .long 0, .null, .long 0, .int 0] j := fun j hj => match j, hj with
  | 0, _ => rfl
  | 1, _ => rfl
  | 2, _ => rfl
  | 3, _ => rfl
  | 4, _ => rfl
  | 5, _ => rfl
  | 6, _ => rfl
  | 7, _ => rfl
  | 8, _ => rfl
  | 9, _ => rfl
  | 10, _ => rfl
  | 11, _ => rfl
  | 12, _ => rfl
  | 13, _ => rfl
  | 14, _ => rfl
  | 15, _ => rfl
  | 16, _ => rfl
  | 17, _ => rfl
  | 18, _ => rfl
  | 19, _ => rfl
  | 20, _ => rfl
  | 21, _ => rfl
  | 22, _ => rfl
  | 23, _ => rfl
  | 24, _ => rfl
  | 25, _ => rfl
  | 26, _ => rfl
  | 27, _ => rfl
  | 28, _ => rfl
  | 29, _ => rfl
  | 30, _ => rfl
  | 31, _ => rfl
  | 32, _ => rfl
  | 33, _ => rfl
  | 34, _ => rfl
  | 35, _ => rfl
  | 36, _ => rfl
  | 37, _ => rfl
  | 38, _ => rfl
  | 39, _ => rfl
  | 40, _ => rfl
  | 41, _ => rfl
  | 42, _ => rfl
  | 43, _ => rfl
  | 44, _ => rfl
  | 45, _ => rfl
  | 46, _ => rfl
  | 47, _ => rfl
  | 48, _ => rfl
  | 49, _ => rfl
  | 50, _ => rfl
  | 51, _ => rfl
  | 52, _ => rfl
  | 53, _ => rfl
  | 54, _ => rfl
  | 55, _ => rfl
  | 56, _ => rfl
  | 57, _ => rfl
  | 58, _ => rfl
  | 59, _ => rfl
  | 60, _ => rfl
  | 61, _ => rfl
  | 62, _ => rfl
  | 63, _ => rfl
  | 64, _ => rfl
  | 65, _ => rfl
  | 66, _ => rfl
  | 67, _ => rfl
  | 68, _ => rfl
  | 69, _ => rfl
  | 70, _ => rfl
  | 71, _ => rfl
  | n + 72, h => absurd h (Nat.not_lt.mpr (Nat.le_add_left 72 n))
set_option maxHeartbeats 2000000 in
theorem zStart3 {l : Launch} {p : Program} {e : Env} {s : State} {m : MethodId} {below : List Frame} {meth : Method} {c : Code} {b L : Nat} {xs : Nat → Int32} {D : va_G} {cy : FieldType → ClassId} {aC aM : Nat → Nat} (C0 : lw_At p s m meth c b L xs) (hc : zLc p s m meth c b L xs D cy aC aM) {MC : ab_M} {NC : ab_N} {MM : ab_M} {NM : ab_N} (hQ : zQ11 MC NC) (hQ2 : zQ12 MM NM) {H : Heap} {locs : List Loc} (hPC : va_P D vwCl (ab_w zw_C aC cy MC NC) H) (hPM : va_P D vwCl (ab_w zw_M aM cy MM NM) H) (hS : va_S (zA0 s) s.heap H locs) {ck sk : Nat} (hck : ck ≤ 1000 ∧ sk ≤ 20000) {ls : Array Slot} (hl : lv_has ls 4 [(1, .ref (aC 0)), (0, .ref b)]) : W p l e room_1 s m #[Value.ref b] below meth c H locs ck sk (lw_Z below #[Value.ref b] s) (F0 m 15 ls [.ref (aM 0)]) := by
  obtain ⟨hx, hb, hr, hml, hown, hts, hX, hbl, hlocks, hgv⟩ := id C0
  have htsB : ∀ w ∈ ab_B, w.before #[Value.ref b] s = true := fun w h => hts w (ab_lwIn w h)
  refine lv_astore_n (lv' := [(2, .ref (aM 0)), (1, .ref (aC 0)), (0, .ref b)]) hx hb (show decode code 15 = .ok (.astore_n 2, 1) by decide +kernel) rfl hl (by decide) rfl (fun ls hl => ?_)
  refine lv_iconst (v := 0) hx hb (show decode code 16 = .ok (.iconst 0, 1) by decide +kernel) (by decide) ?_
  refine lv_istore_n (lv' := [(3, .int 0), (2, .ref (aM 0)), (1, .ref (aC 0)), (0, .ref b)]) hx hb (show decode code 17 = .ok (.istore_n 3, 1) by decide +kernel) rfl hl (by decide) rfl (fun ls hl => ?_)
  exact zLoop hc ⟨by omega, by omega⟩ L 0 (by omega) (by omega) ls (lv_sub hl [3, 2, 1, 0] rfl) _ _ _ _ _ _ (zInv_0 hQ hQ2) hPC hPM hS
set_option maxHeartbeats 2000000 in
theorem zStart2 {l : Launch} {p : Program} {e : Env} {s : State} {m : MethodId} {below : List Frame} {meth : Method} {c : Code} {b L : Nat} {xs : Nat → Int32} {D : va_G} {cy : FieldType → ClassId} {aC : Nat → Nat} (C0 : lw_At p s m meth c b L xs) (hL : L ≤ 3072) (hK : va_K D vwCl (ab_tys cy) s) (hNw : zNws s) (ad0 : Nat → Nat) (gi : ab_inj zw_C aC) (ga : ∀ k, k < zw_C.length → s.heap.size ≤ aC k) (hZ : zZ_C aC (zA0 s) s s.heap) {MC : ab_M} {NC : ab_N} (hQ : zQ11 MC NC) {H1 : Heap} {locs : List Loc} (hPC : va_P D vwCl (ab_w zw_C aC cy MC NC) H1) (hS : va_S (zA0 s) s.heap H1 locs) {ck sk : Nat} (hck : ck ≤ 900 ∧ sk ≤ 15000) {ls : Array Slot} (hl : lv_has ls 4 [(1, .ref (aC 0)), (0, .ref b)]) : W p l e room_1 s m #[Value.ref b] below meth c H1 locs ck sk (lw_Z below #[Value.ref b] s) (F0 m 8 ls []) := by
  obtain ⟨hx, hb, hr, hml, hown, hts, hX, hbl, hlocks, hgv⟩ := id C0
  have htsB : ∀ w ∈ ab_B, w.before #[Value.ref b] s = true := fun w h => hts w (ab_lwIn w h)
  have hA : ∀ q : Nat, s.heap.size ≤ q → zA0 s q := fun _ h => h
  have hDC : va_D (zA0 s) (ab_w zw_C aC cy MC NC) := ⟨fun i j x y hi hj he => by
    obtain ⟨i1, i2⟩ := zW_ad hi
    obtain ⟨j1, j2⟩ := zW_ad hj
    exact gi i j i1 j1 (by rw [← i2, ← j2]; exact he), fun k x hk => by
    obtain ⟨k1, k2⟩ := zW_ad hk
    rw [k2]
    exact ga k k1⟩
  generalize hw : ab_w zw_C aC cy MC NC = wC at hPC hDC
  have hwl : wC.length = 47 := by rw [← hw]; exact zW_len
  refine va_new (ci := 12) (fs := [.int 0, .int 0, .int 0, .int 0, .int 0, .int 0, .null, .int 0, .null, .null, .null, .null, .int 0, .null, .null, .null, .null, .null, .null, .null, .int 0, .null, .null, .int 0, .int 0, .int 0, .int 0, .int 0, .int 0, .int 0, .int 0, .int 0, .int 0, .int 0, .int 0, .int 0, .int 0, .int 0, .int 0, .int 0, .int 0, .null, .null, .null, .null, .null, .null, .null, .null, .null, .int 0, .int 0, .int 0, .int 0, .null, .null, .int 0, .int 0, .int 0, .null, .null, .null, .null, .null, .null, .null, .long 0, .long 0, .long 0, .null, .long 0, .int 0]) (C := RX12) (T := TX12) (N := 72) hx hb htsB (zl_of zl_X12) tyX12 tyX12_ok hown (htsB _ (show Cond.classLink R_law 10 RX12 ∈ ab_B from (ab_in 950 (by decide +kernel) rfl))) (htsB _ (show Cond.instantiable RX12 72 ∈ ab_B from (ab_in 951 (by decide +kernel) rfl))) (htsB _ (show Cond.initialized RX12 ∈ ab_B from (ab_in 17 (by decide +kernel) rfl))) hK hPC hDC hS hA rfl zHF12 (by show ck + 1 ≤ 600000; omega) (by show sk + 72 ≤ 7302250; omega) (show decode code 8 = .ok (.new 10, 3) by decide +kernel) (fun q8 H hP hD hS => ?_)
  have hx8 : (wC ++ [(q8, (.inr (12, [.int 0, .int 0, .int 0, .int 0, .int 0, .int 0, .null, .int 0, .null, .null, .null, .null, .int 0, .null, .null, .null, .null, .null, .null, .null, .int 0, .null, .null, .int 0, .int 0, .int 0, .int 0, .int 0, .int 0, .int 0, .int 0, .int 0, .int 0, .int 0, .int 0, .int 0, .int 0, .int 0, .int 0, .int 0, .int 0, .null, .null, .null, .null, .null, .null, .null, .null, .null, .int 0, .int 0, .int 0, .int 0, .null, .null, .int 0, .int 0, .int 0, .null, .null, .null, .null, .null, .null, .null, .long 0, .long 0, .long 0, .null, .long 0, .int 0]) : va_E))])[47]? = some (q8, .inr (12, [.int 0, .int 0, .int 0, .int 0, .int 0, .int 0, .null, .int 0, .null, .null, .null, .null, .int 0, .null, .null, .null, .null, .null, .null, .null, .int 0, .null, .null, .int 0, .int 0, .int 0, .int 0, .int 0, .int 0, .int 0, .int 0, .int 0, .int 0, .int 0, .int 0, .int 0, .int 0, .int 0, .int 0, .int 0, .int 0, .null, .null, .null, .null, .null, .null, .null, .null, .null, .int 0, .int 0, .int 0, .int 0, .null, .null, .int 0, .int 0, .int 0, .null, .null, .null, .null, .null, .null, .null, .long 0, .long 0, .long 0, .null, .long 0, .int 0])) := by
    rw [List.getElem?_append_right (by omega), hwl]
    rfl
  have hxk : ∀ (k : Nat) (x : Nat × va_E), wC[k]? = some x → (wC ++ [(q8, (.inr (12, [.int 0, .int 0, .int 0, .int 0, .int 0, .int 0, .null, .int 0, .null, .null, .null, .null, .int 0, .null, .null, .null, .null, .null, .null, .null, .int 0, .null, .null, .int 0, .int 0, .int 0, .int 0, .int 0, .int 0, .int 0, .int 0, .int 0, .int 0, .int 0, .int 0, .int 0, .int 0, .int 0, .int 0, .int 0, .int 0, .null, .null, .null, .null, .null, .null, .null, .null, .null, .int 0, .int 0, .int 0, .int 0, .null, .null, .int 0, .int 0, .int 0, .null, .null, .null, .null, .null, .null, .null, .long 0, .long 0, .long 0, .null, .long 0, .int 0]) : va_E))])[k]? = some x := fun k x hk => by
    rw [List.getElem?_append_left (List.getElem?_eq_some_iff.mp hk).1]
    exact hk
  have hP8 : va_P D vwCl [(q8, .inr (12, [.int 0, .int 0, .int 0, .int 0, .int 0, .int 0, .null, .int 0, .null, .null, .null, .null, .int 0, .null, .null, .null, .null, .null, .null, .null, .int 0, .null, .null, .int 0, .int 0, .int 0, .int 0, .int 0, .int 0, .int 0, .int 0, .int 0, .int 0, .int 0, .int 0, .int 0, .int 0, .int 0, .int 0, .int 0, .int 0, .null, .null, .null, .null, .null, .null, .null, .null, .null, .int 0, .int 0, .int 0, .int 0, .null, .null, .int 0, .int 0, .int 0, .null, .null, .null, .null, .null, .null, .null, .long 0, .long 0, .long 0, .null, .long 0, .int 0]))] H := fun k x hk => by
    have hz : k < 1 := (List.getElem?_eq_some_iff.mp hk).1
    rw [show k = 0 by omega] at hk
    cases hk
    exact hP 47 _ hx8
  have hq8 : s.heap.size ≤ q8 := hD.2 47 _ hx8
  have hD8 : va_D (zA0 s) [(q8, .inr (12, [.int 0, .int 0, .int 0, .int 0, .int 0, .int 0, .null, .int 0, .null, .null, .null, .null, .int 0, .null, .null, .null, .null, .null, .null, .null, .int 0, .null, .null, .int 0, .int 0, .int 0, .int 0, .int 0, .int 0, .int 0, .int 0, .int 0, .int 0, .int 0, .int 0, .int 0, .int 0, .int 0, .int 0, .int 0, .int 0, .null, .null, .null, .null, .null, .null, .null, .null, .null, .int 0, .int 0, .int 0, .int 0, .null, .null, .int 0, .int 0, .int 0, .null, .null, .null, .null, .null, .null, .null, .long 0, .long 0, .long 0, .null, .long 0, .int 0]))] := ⟨fun i j x y hi hj _ => by
    have h1 : i < 1 := (List.getElem?_eq_some_iff.mp hi).1
    have h2 : j < 1 := (List.getElem?_eq_some_iff.mp hj).1
    omega, fun k x hk => by
    have hz : k < 1 := (List.getElem?_eq_some_iff.mp hk).1
    rw [show k = 0 by omega] at hk
    cases hk
    exact hq8⟩
  have hPC : va_P D vwCl wC H := fun k x hk => hP k x (hxk k x hk)
  have hn8 : ∀ (k : Nat) (x : Nat × va_E), wC[k]? = some x → x.1 ≠ q8 ∧ x.1 < H.size := fun k x hk => by
    refine ⟨fun z => ?_, va_at.lt (hPC k x hk)⟩
    have e1 := hD.1 k 47 x _ (hxk k x hk) hx8 z
    have e2 : k < wC.length := (List.getElem?_eq_some_iff.mp hk).1
    omega
  refine lv_dup hx hb (show decode code 11 = .ok (.dup, 1) by decide +kernel) rfl ?_
  have hFc : ∀ q, va_A [(q8, (.inr (12, [.int 0, .int 0, .int 0, .int 0, .int 0, .int 0, .null, .int 0, .null, .null, .null, .null, .int 0, .null, .null, .null, .null, .null, .null, .null, .int 0, .null, .null, .int 0, .int 0, .int 0, .int 0, .int 0, .int 0, .int 0, .int 0, .int 0, .int 0, .int 0, .int 0, .int 0, .int 0, .int 0, .int 0, .int 0, .int 0, .null, .null, .null, .null, .null, .null, .null, .null, .null, .int 0, .int 0, .int 0, .int 0, .null, .null, .int 0, .int 0, .int 0, .null, .null, .null, .null, .null, .null, .null, .long 0, .long 0, .long 0, .null, .long 0, .int 0]) : va_E))] H.size q → zA0 s q := fun q h => by
    rcases (zA1 q).mp h with rfl | h
    · exact hq8
    · exact Nat.le_trans hS.1 h
  have hle : s.heap.size ≤ H.size := hS.1
  refine va_callv (va_runI (As := []) (rest := [.ref q8]) ⟨hx, hb, hml, hown, htsB⟩ (zK_X12 l D cy ad0 q8 H.size zRun_X12) ⟨callB_of 0 htsB (ab_goodC (ab_in 954 (by decide +kernel) rfl)) rfl rfl rfl (htsB _ (show Cond.initialized RX12 ∈ ab_B from (ab_in 17 (by decide +kernel) rfl))) (htsB _ (show Cond.methodLink R_law 12 yX12_init ∈ ab_B from (ab_in 952 (by decide +kernel) rfl))) (by decide +kernel) ⟨Nat.le_of_ble_eq_true rfl, Nat.le_of_ble_eq_true rfl⟩, rfl, htsB _ (show Cond.instanceMethod yX12_init ∈ ab_B from (ab_in 953 (by decide +kernel) rfl))⟩ (zKsZ zZ_M_ok hP8 hK hD8 hNw trivial) rfl rfl hl.1 rfl (lv_room (Nat.le_of_ble_eq_true rfl)) (show decode code 12 = .ok (.invokespecial 12, 3) by decide +kernel) ⟨by show ck + 1 + 33 ≤ 600000; omega, by show sk + 72 + 2336 ≤ 7302250; omega⟩) hS (fun q _ h => hFc q h) hFc (fun u t H2 locs2 ht hvm hwq hB hz1 hk1 hS => ?_)
  obtain ⟨aM, MM, NM⟩ := u
  obtain ⟨hQ2, hok2⟩ := hwq
  have hQ2 : zQ12 MM NM := hQ2
  have hok2 : zAdOk zw_M q8 H.size aM := hok2
  have hPM : va_P D vwCl (ab_w zw_M aM cy MM NM) H2 := by
    rw [← ht]
    exact hB
  have hPC : va_P D vwCl wC H2 := hPC.kept (fun k x hk => by
    obtain ⟨n1, n2⟩ := hn8 k x hk
    refine hk1 _ n2 (fun z => ?_)
    rcases (zA1 _).mp z with h | h
    · exact n1 h
    · exact absurd n2 (Nat.not_lt.mpr h))
  have gM : ∀ k, k < zw_M.length → s.heap.size ≤ aM k := fun k hk => by
    rcases hok2.2.2 k hk with h | h
    · rw [h]; exact hq8
    · exact Nat.le_trans hle h
  have gd : ∀ i j, i < zw_C.length → j < zw_M.length → aC i ≠ aM j := fun i j hi hj he => by
    have e1 := ab_w_at (ad := aC) (cy := cy) (M := MC) (N := NC) (List.getElem?_eq_getElem hi)
    rw [hw] at e1
    obtain ⟨n1, n2⟩ := hn8 i _ e1
    dsimp only at n1 n2
    rcases hok2.2.2 j hj with h | h
    · exact n1 (he.trans h)
    · rw [he] at n2
      exact absurd n2 (Nat.not_lt.mpr h)
  have g8 : aM 0 = q8 := hok2.2.1
  have hc : zLc p s m meth c b L xs D cy aC aM := ⟨C0, hL, hK, ⟨gi, hok2.1⟩, hZ, ⟨ga, gM⟩, gd, fun i j hi hj he => gd j i hj hi he.symm⟩
  rw [← hw] at hPC
  have key : W p l e room_1 s m #[Value.ref b] below meth c H2 locs2 (ck + 1 + 33) (sk + 72 + 2336) (lw_Z below #[Value.ref b] s) (F0 m 15 ls [.ref (aM 0)]) := zStart3 C0 hc hQ hQ2 hPC hPM hS ⟨by omega, by omega⟩ hl
  rw [g8] at key
  exact key
