/-! THE ABSTRACT MACHINE: memory M (ints) and N (longs) by cell and place; a predicate transformer a method; one instruction = one step -/
abbrev ab_M : Type := Nat → Nat → Int32
abbrev ab_N : Type := Nat → Nat → Int64
abbrev ab_K : Type := Nat → List (Option Value) → List Value → ab_M → ab_N → Prop
abbrev ab_R : Type := Option Value → ab_M → ab_N → Prop
abbrev ab_T : Type := List Value → ab_M → ab_N → ab_R → Prop
/-- a cell: an object (its class, its fields: a reference to a cell, or a type), or an array (type, length) -/
abbrev ab_L : Type := (Nat × List (Nat ⊕ FieldType)) ⊕ (FieldType × Nat)
abbrev ab_Q : Type := Instr × Nat × List Nat × List Int32
abbrev ab_P : Type := List (Nat × ab_Q)
/-- cells, tables, fields by index, constants by index, statics by index, calls by index -/
abbrev ab_G : Type := List ab_L × List (Nat × Nat × (Nat → Int32)) × List (Nat × Nat × Nat) × List (Nat × Value) × List (Nat × Nat) × List (Nat × Nat × ab_T) × List (Nat × Nat × ab_T)
def ab_a {α : Type} : List (Nat × α) → Nat → Option α
  | [], _ => none
  | q :: r, n => match Nat.beq q.1 n with
    | true => some q.2
    | false => ab_a r n
def ab_h : List Nat → Nat
  | [] => 0
  | a :: _ => a
def ab_ih : List Int32 → Int32
  | [] => 0
  | a :: _ => a
def ab_g : List (Option Value) → Nat → Option Value
  | [], _ => none
  | x :: _, 0 => x
  | _ :: r, n + 1 => ab_g r n
def ab_p : List (Option Value) → Nat → Option Value → List (Option Value)
  | [], 0, v => [v]
  | [], n + 1, v => none :: ab_p [] n v
  | _ :: r, 0, v => v :: r
  | x :: r, n + 1, v => x :: ab_p r n v
/-- a long that stood ahead of a place that is stored to is gone -/
def ab_kl (ls : List (Option Value)) : Nat → List (Option Value)
  | 0 => ls
  | n + 1 => match ab_g ls n with
    | some (.long _) => ab_p ls n none
    | some (.double _) => ab_p ls n none
    | _ => ls
def ab_u {α : Type} (M : Nat → Nat → α) (k : Nat) (f : Nat → α) : Nat → Nat → α := fun c => match Nat.beq c k with
  | true => f
  | false => M c
def ab_cs : List Value → Nat
  | [] => 0
  | v :: r => v.category + ab_cs r
def ab_ol : Option Value → List Value → List Value
  | none, s => s
  | some v, s => v :: s
def ab_sw (X : Nat → Prop) (x : Int32) (d : Nat) : List Int32 → List Nat → Prop
  | k :: ks, t :: ts => (x = k → X t) ∧ (¬ x = k → ab_sw X x d ks ts)
  | _, _ => X d
def ab_tl : List Nat → List Nat
  | [] => []
  | _ :: r => r
def ab_ld (X : ab_K) (nx : Nat) (ls : List (Option Value)) (st : List Value) (M : ab_M) (N : ab_N) (k : Nat) (v : Option Value) : Prop := match v with
  | some w => match k, w with
    | 0, .int x => X nx ls (.int x :: st) M N
    | 1, .long x => X nx ls (.long x :: st) M N
    | 2, .ref x => X nx ls (.ref x :: st) M N
    | _, _ => False
  | none => False
def ab_i2 (X : ab_K) (nx : Nat) (ls : List (Option Value)) (st : List Value) (M : ab_M) (N : ab_N) (f : Int32 → Int32 → Int32) : Prop := match st with
  | .int y :: .int x :: r => X nx ls (.int (f x y) :: r) M N
  | _ => False
def ab_l2 (X : ab_K) (nx : Nat) (ls : List (Option Value)) (st : List Value) (M : ab_M) (N : ab_N) (f : Int64 → Int64 → Int64) : Prop := match st with
  | .long y :: .long x :: r => X nx ls (.long (f x y) :: r) M N
  | _ => False
def ab_b1 (X : ab_K) (nx tg : Nat) (ls : List (Option Value)) (st : List Value) (M : ab_M) (N : ab_N) (f : Int32 → Prop) : Prop := match st with
  | .int x :: r => (f x → X tg ls r M N) ∧ (¬ f x → X nx ls r M N)
  | _ => False
def ab_b2 (X : ab_K) (nx tg : Nat) (ls : List (Option Value)) (st : List Value) (M : ab_M) (N : ab_N) (f : Int32 → Int32 → Prop) : Prop := match st with
  | .int y :: .int x :: r => (f x y → X tg ls r M N) ∧ (¬ f x y → X nx ls r M N)
  | _ => False
def ab_s1 (X : ab_K) (nx nL i : Nat) (ls : List (Option Value)) (st : List Value) (M : ab_M) (N : ab_N) (k : Nat) : Prop := match Nat.blt i nL with
  | true => match k, st with
    | 0, .int x :: r => X nx (ab_p (ab_kl ls i) i (some (.int x))) r M N
    | 2, .ref x :: r => X nx (ab_p (ab_kl ls i) i (some (.ref x))) r M N
    | _, _ => False
  | false => False
def ab_s2 (X : ab_K) (nx nL i : Nat) (ls : List (Option Value)) (st : List Value) (M : ab_M) (N : ab_N) : Prop := match Nat.blt (i + 1) nL with
  | true => match st with
    | .long x :: r => X nx (ab_p (ab_p (ab_kl ls i) i (some (.long x))) (i + 1) none) r M N
    | _ => False
  | false => False
def ab_inc (X : ab_K) (nx nL i : Nat) (v : Int32) (ls : List (Option Value)) (st : List Value) (M : ab_M) (N : ab_N) : Prop := match Nat.blt i nL with
  | true => match ab_g ls i with
    | some (.int x) => X nx (ab_p (ab_kl ls i) i (some (.int (x + v)))) st M N
    | _ => False
  | false => False
def ab_gf (X : ab_K) (nx : Nat) (ls : List (Option Value)) (k j : Nat) (r : List Value) (M : ab_M) (N : ab_N) : Option (Nat ⊕ FieldType) → Prop
  | some (.inl t) => X nx ls (.ref t :: r) M N
  | some (.inr .long) => X nx ls (.long (N k j) :: r) M N
  | some (.inr .int) => X nx ls (.int (M k j) :: r) M N
  | some (.inr .boolean) => X nx ls (.int (M k j) :: r) M N
  | _ => False
def ab_get (Λ : List ab_L) (X : ab_K) (nx : Nat) (ls : List (Option Value)) (st : List Value) (M : ab_M) (N : ab_N) : Option (Nat × Nat) → Prop
  | some (ci, j) => match st with
    | .ref k :: r => match Λ[k]? with
      | some (.inl (c2, fs)) => match Nat.beq c2 ci with
        | true => ab_gf X nx ls k j r M N fs[j]?
        | false => False
      | _ => False
    | _ => False
  | none => False
def ab_pf (X : ab_K) (nx : Nat) (ls : List (Option Value)) (k j : Nat) (v : Value) (r : List Value) (M : ab_M) (N : ab_N) : Option (Nat ⊕ FieldType) → Prop
  | some (.inr .long) => match v with
    | .long x => X nx ls r M (ab_u N k (vp_updL (N k) j x))
    | _ => False
  | some (.inr .int) => match v with
    | .int x => X nx ls r (ab_u M k (upd (M k) j x)) N
    | _ => False
  | some (.inr .boolean) => match v with
    | .int x => (narrow .boolean (.int x) = .int x ∧ fits .boolean (.int x) = true) ∧ X nx ls r (ab_u M k (upd (M k) j x)) N
    | _ => False
  | _ => False
def ab_put (Λ : List ab_L) (X : ab_K) (nx : Nat) (ls : List (Option Value)) (st : List Value) (M : ab_M) (N : ab_N) : Option (Nat × Nat) → Prop
  | some (ci, j) => match st with
    | v :: .ref k :: r => match Λ[k]? with
      | some (.inl (c2, fs)) => match Nat.beq c2 ci with
        | true => ab_pf X nx ls k j v r M N fs[j]?
        | false => False
      | _ => False
    | _ => False
  | none => False
def ab_iald (Λ : List ab_L) (tab : List (Nat × Nat × (Nat → Int32))) (X : ab_K) (nx : Nat) (ls : List (Option Value)) (st : List Value) (M : ab_M) (N : ab_N) : Prop := match st with
  | .int i :: .ref k :: r => match Λ[k]? with
    | some (.inr (.int, n)) => vp_in i n ∧ X nx ls (.int (M k i.toNatClampNeg) :: r) M N
    | none => match ab_a tab k with
      | some (n, f) => vp_in i n ∧ X nx ls (.int (f i.toNatClampNeg) :: r) M N
      | none => False
    | _ => False
  | _ => False
def ab_zald (Λ : List ab_L) (X : ab_K) (nx : Nat) (ls : List (Option Value)) (st : List Value) (M : ab_M) (N : ab_N) : Prop := match st with
  | .int i :: .ref k :: r => match Λ[k]? with
    | some (.inr (.boolean, n)) => vp_in i n ∧ X nx ls (.int (M k i.toNatClampNeg) :: r) M N
    | _ => False
  | _ => False
def ab_lald (Λ : List ab_L) (X : ab_K) (nx : Nat) (ls : List (Option Value)) (st : List Value) (M : ab_M) (N : ab_N) : Prop := match st with
  | .int i :: .ref k :: r => match Λ[k]? with
    | some (.inr (.long, n)) => vp_in i n ∧ X nx ls (.long (N k i.toNatClampNeg) :: r) M N
    | _ => False
  | _ => False
def ab_iast (Λ : List ab_L) (X : ab_K) (nx : Nat) (ls : List (Option Value)) (st : List Value) (M : ab_M) (N : ab_N) : Prop := match st with
  | .int x :: .int i :: .ref k :: r => match Λ[k]? with
    | some (.inr (.int, n)) => vp_in i n ∧ X nx ls r (ab_u M k (upd (M k) i.toNatClampNeg x)) N
    | _ => False
  | _ => False
def ab_zast (Λ : List ab_L) (X : ab_K) (nx : Nat) (ls : List (Option Value)) (st : List Value) (M : ab_M) (N : ab_N) : Prop := match st with
  | .int x :: .int i :: .ref k :: r => match Λ[k]? with
    | some (.inr (.boolean, n)) => vp_in i n ∧ X nx ls r (ab_u M k (upd (M k) i.toNatClampNeg (vp_nar .boolean x))) N
    | _ => False
  | _ => False
def ab_last (Λ : List ab_L) (X : ab_K) (nx : Nat) (ls : List (Option Value)) (st : List Value) (M : ab_M) (N : ab_N) : Prop := match st with
  | .long x :: .int i :: .ref k :: r => match Λ[k]? with
    | some (.inr (.long, n)) => vp_in i n ∧ X nx ls r M (ab_u N k (vp_updL (N k) i.toNatClampNeg x))
    | _ => False
  | _ => False
def ab_alen (Λ : List ab_L) (X : ab_K) (nx : Nat) (ls : List (Option Value)) (st : List Value) (M : ab_M) (N : ab_N) : Prop := match st with
  | .ref k :: r => match Λ[k]? with
    | some (.inr (.int, n)) => X nx ls (.int (Int32.ofNat n) :: r) M N
    | some (.inr (.long, n)) => X nx ls (.int (Int32.ofNat n) :: r) M N
    | _ => False
  | _ => False
def ab_cst (X : ab_K) (nx : Nat) (ls : List (Option Value)) (st : List Value) (M : ab_M) (N : ab_N) (k : Nat) : Option Value → Prop
  | some v => match Nat.beq v.category k with
    | true => X nx ls (v :: st) M N
    | false => False
  | none => False
def ab_sta (X : ab_K) (nx : Nat) (ls : List (Option Value)) (st : List Value) (M : ab_M) (N : ab_N) : Option Nat → Prop
  | some k => X nx ls (.ref k :: st) M N
  | none => False
def ab_inv (X : ab_K) (nx : Nat) (ls : List (Option Value)) (st : List Value) (M : ab_M) (N : ab_N) : Option (Nat × ab_T) → Prop
  | some (n, T) => match Nat.ble n st.length with
    | true => match Nat.ble (ab_cs (st.drop n)) 8 with
      | true => T (st.take n).reverse M N (fun r M2 N2 => X nx ls (ab_ol r (st.drop n)) M2 N2)
      | false => False
    | false => False
  | none => False
def ab_ret (ret : Option FieldType) (Q : ab_R) (st : List Value) (M : ab_M) (N : ab_N) (k : Nat) : Prop := match ret with
  | none => match k, st with
    | 3, [] => Q none M N
    | _, _ => False
  | some .int => match k, st with
    | 0, [.int x] => Q (some (.int x)) M N
    | _, _ => False
  | some .long => match k, st with
    | 1, [.long x] => Q (some (.long x)) M N
    | _, _ => False
  | some .boolean => match k, st with
    | 0, [.int x] => narrow .boolean (.int x) = .int x ∧ Q (some (.int x)) M N
    | _, _ => False
  | _ => False
/-- one instruction -/
def ab_s (G : ab_G) (ret : Option FieldType) (nL : Nat) (Q : ab_R) (X : ab_K) (q : ab_Q) (ls : List (Option Value)) (st : List Value) (M : ab_M) (N : ab_N) : Prop :=
  match q with
  | (ins, nx, tg, ks) => match ins with
    | .aload_n _ => ab_ld X nx ls st M N 2 (ab_g ls (ab_h tg))
    | .aload i => ab_ld X nx ls st M N 2 (ab_g ls i)
    | .iload_n _ => ab_ld X nx ls st M N 0 (ab_g ls (ab_h tg))
    | .iload i => ab_ld X nx ls st M N 0 (ab_g ls i)
    | .lload_n _ => ab_ld X nx ls st M N 1 (ab_g ls (ab_h tg))
    | .lload i => ab_ld X nx ls st M N 1 (ab_g ls i)
    | .istore_n _ => ab_s1 X nx nL (ab_h tg) ls st M N 0
    | .istore i => ab_s1 X nx nL i ls st M N 0
    | .astore_n _ => ab_s1 X nx nL (ab_h tg) ls st M N 2
    | .astore i => ab_s1 X nx nL i ls st M N 2
    | .lstore_n _ => ab_s2 X nx nL (ab_h tg) ls st M N
    | .lstore i => ab_s2 X nx nL i ls st M N
    | .iinc i _ => ab_inc X nx nL i (ab_ih ks) ls st M N
    | .iconst _ => X nx ls (.int (ab_ih ks) :: st) M N
    | .bipush _ => X nx ls (.int (ab_ih ks) :: st) M N
    | .sipush _ => X nx ls (.int (ab_ih ks) :: st) M N
    | .lconst _ => match tg with
      | [0] => X nx ls (.long 0 :: st) M N
      | [1] => X nx ls (.long 1 :: st) M N
      | _ => False
    | .iadd => ab_i2 X nx ls st M N (fun x y => x + y)
    | .isub => ab_i2 X nx ls st M N (fun x y => x - y)
    | .imul => ab_i2 X nx ls st M N (fun x y => x * y)
    | .iand => ab_i2 X nx ls st M N (fun x y => x &&& y)
    | .ior => ab_i2 X nx ls st M N (fun x y => x ||| y)
    | .ishl => ab_i2 X nx ls st M N (fun x y => x <<< (y &&& 31))
    | .ishr => ab_i2 X nx ls st M N (fun x y => x >>> (y &&& 31))
    | .idiv => match st with
      | .int y :: .int x :: r => ¬ y = 0 ∧ X nx ls (.int (x / y) :: r) M N
      | _ => False
    | .irem => match st with
      | .int y :: .int x :: r => ¬ y = 0 ∧ X nx ls (.int (x - x / y * y) :: r) M N
      | _ => False
    | .ineg => match st with
      | .int x :: r => X nx ls (.int (-x) :: r) M N
      | _ => False
    | .ladd => ab_l2 X nx ls st M N (fun x y => x + y)
    | .lsub => ab_l2 X nx ls st M N (fun x y => x - y)
    | .lmul => ab_l2 X nx ls st M N (fun x y => x * y)
    | .land => ab_l2 X nx ls st M N (fun x y => x &&& y)
    | .lor => ab_l2 X nx ls st M N (fun x y => x ||| y)
    | .ldiv => match st with
      | .long y :: .long x :: r => ¬ y = 0 ∧ X nx ls (.long (x / y) :: r) M N
      | _ => False
    | .lrem => match st with
      | .long y :: .long x :: r => ¬ y = 0 ∧ X nx ls (.long (x - x / y * y) :: r) M N
      | _ => False
    | .lneg => match st with
      | .long x :: r => X nx ls (.long (-x) :: r) M N
      | _ => False
    | .lshl => match st with
      | .int y :: .long x :: r => X nx ls (.long (x <<< (y.toInt64 &&& 63)) :: r) M N
      | _ => False
    | .lshr => match st with
      | .int y :: .long x :: r => X nx ls (.long (x >>> (y.toInt64 &&& 63)) :: r) M N
      | _ => False
    | .lcmp => match st with
      | .long y :: .long x :: r => X nx ls (.int (lg_cmp x y) :: r) M N
      | _ => False
    | .i2l => match st with
      | .int x :: r => X nx ls (.long x.toInt64 :: r) M N
      | _ => False
    | .l2i => match st with
      | .long x :: r => X nx ls (.int x.toInt32 :: r) M N
      | _ => False
    | .i2b => match st with
      | .int x :: r => X nx ls (.int x.toInt8.toInt32 :: r) M N
      | _ => False
    | .i2s => match st with
      | .int x :: r => X nx ls (.int x.toInt16.toInt32 :: r) M N
      | _ => False
    | .dup => match st with
      | v :: r => match Nat.beq v.category 1 with
        | true => X nx ls (v :: v :: r) M N
        | false => False
      | _ => False
    | .pop => match st with
      | v :: r => match Nat.beq v.category 1 with
        | true => X nx ls r M N
        | false => False
      | _ => False
    | .dup2 => match st with
      | v :: w :: r => match Nat.beq v.category 1 with
        | true => match Nat.beq w.category 1 with
          | true => X nx ls (v :: w :: v :: w :: r) M N
          | false => False
        | false => False
      | _ => False
    | .ifCond .eq _ => ab_b1 X nx (ab_h tg) ls st M N (fun x => x = 0)
    | .ifCond .ne _ => ab_b1 X (ab_h tg) nx ls st M N (fun x => x = 0)
    | .ifCond .lt _ => ab_b1 X nx (ab_h tg) ls st M N (fun x => x < 0)
    | .ifCond .ge _ => ab_b1 X nx (ab_h tg) ls st M N (fun x => 0 ≤ x)
    | .ifCond .gt _ => ab_b1 X nx (ab_h tg) ls st M N (fun x => 0 < x)
    | .ifCond .le _ => ab_b1 X nx (ab_h tg) ls st M N (fun x => x ≤ 0)
    | .if_icmp .eq _ => ab_b2 X nx (ab_h tg) ls st M N (fun x y => x = y)
    | .if_icmp .ne _ => ab_b2 X (ab_h tg) nx ls st M N (fun x y => x = y)
    | .if_icmp .lt _ => ab_b2 X nx (ab_h tg) ls st M N (fun x y => x < y)
    | .if_icmp .ge _ => ab_b2 X nx (ab_h tg) ls st M N (fun x y => y ≤ x)
    | .if_icmp .gt _ => ab_b2 X nx (ab_h tg) ls st M N (fun x y => y < x)
    | .if_icmp .le _ => ab_b2 X nx (ab_h tg) ls st M N (fun x y => x ≤ y)
    | .goto _ => X (ab_h tg) ls st M N
    | .tableswitch _ _ _ _ => match st with
      | .int x :: r => ab_sw (fun t => X t ls r M N) x (ab_h tg) ks (ab_tl tg)
      | _ => False
    | .getfield i => ab_get G.1 X nx ls st M N (ab_a G.2.2.1 i)
    | .putfield i => ab_put G.1 X nx ls st M N (ab_a G.2.2.1 i)
    | .iaload => ab_iald G.1 G.2.1 X nx ls st M N
    | .baload => ab_zald G.1 X nx ls st M N
    | .laload => ab_lald G.1 X nx ls st M N
    | .iastore => ab_iast G.1 X nx ls st M N
    | .bastore => ab_zast G.1 X nx ls st M N
    | .lastore => ab_last G.1 X nx ls st M N
    | .arraylength => ab_alen G.1 X nx ls st M N
    | .ldc i => ab_cst X nx ls st M N 1 (ab_a G.2.2.2.1 i)
    | .ldc_w i => match ab_a G.2.2.2.1 i with
      | some (.int x) => X nx ls (.int x :: st) M N
      | _ => False
    | .ldc2_w i => ab_cst X nx ls st M N 2 (ab_a G.2.2.2.1 i)
    | .getstatic i => ab_sta X nx ls st M N (ab_a G.2.2.2.2.1 i)
    | .invokevirtual i => ab_inv X nx ls st M N (ab_a G.2.2.2.2.2.1 i)
    | .invokestatic i => ab_inv X nx ls st M N (ab_a G.2.2.2.2.2.2 i)
    | .ireturn => ab_ret ret Q st M N 0
    | .lreturn => ab_ret ret Q st M N 1
    | .return_ => ab_ret ret Q st M N 3
    | _ => False
/-- one step at a place -/
def ab_st (G : ab_G) (P : ab_P) (ret : Option FieldType) (nL : Nat) (Q : ab_R) (X : ab_K) : ab_K := fun pc ls st M N => match ab_a P pc with
  | some q => ab_s G ret nL Q X q ls st M N
  | none => False
def ab_kp : List Bool → Nat → List (Option Value) → List (Option Value)
  | [], _, _ => []
  | true :: r, i, ls => ab_g ls i :: ab_kp r (i + 1) ls
  | false :: r, i, ls => none :: ab_kp r (i + 1) ls
/-- up to n steps, to the places that are named -/
def ab_k (G : ab_G) (P : ab_P) (ret : Option FieldType) (nL : Nat) (Q : ab_R) (sp : List (Nat × List Bool)) (K : ab_K) : Nat → ab_K
  | 0 => K
  | n + 1 => fun pc ls st M N => match ab_a sp pc with
    | some kp => K pc (ab_kp kp 0 ls) st M N
    | none => ab_st G P ret nL Q (ab_k G P ret nL Q sp K n) pc ls st M N
def ab_Le (a b : List (Option Value)) : Prop := ∀ (i : Nat) (v : Value), ab_g a i = some v → ab_g b i = some v
def ab_Up (X : ab_K) : Prop := ∀ (pc : Nat) (a b : List (Option Value)) (st : List Value) (M : ab_M) (N : ab_N), ab_Le a b → X pc a st M N → X pc b st M N
/-- the run from here ends, with Q -/
def ab_Run (G : ab_G) (P : ab_P) (ret : Option FieldType) (nL : Nat) (Q : ab_R) : ab_K := fun pc ls st M N => ∀ X : ab_K, ab_Up X → (∀ (pc : Nat) (ls : List (Option Value)) (st : List Value) (M : ab_M) (N : ab_N), ab_st G P ret nL Q X pc ls st M N → X pc ls st M N) → X pc ls st M N
def ab_mono (T : ab_T) : Prop := ∀ (as : List Value) (M : ab_M) (N : ab_N) (k k2 : ab_R), (∀ (r : Option Value) (M2 : ab_M) (N2 : ab_N), k r M2 N2 → k2 r M2 N2) → T as M N k → T as M N k2
def ab_MG (G : ab_G) : Prop := (∀ (i n : Nat) (T : ab_T), ab_a G.2.2.2.2.2.1 i = some (n, T) → ab_mono T) ∧ ∀ (i n : Nat) (T : ab_T), ab_a G.2.2.2.2.2.2 i = some (n, T) → ab_mono T
