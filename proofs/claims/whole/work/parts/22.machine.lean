/-! THE SMALL MACHINE: one frame at a time, cells by number (the n-th made is n), ints, longs and references in three memories; a call is told by a function of all methods -/
abbrev sm_Im : Type := Nat → Nat → Int32
abbrev sm_Lm : Type := Nat → Nat → Int64
abbrev sm_Pm : Type := Nat → Nat → Option Nat
abbrev sm_Rs : Type := Option Value × Nat × sm_Im × sm_Lm × sm_Pm
abbrev sm_St : Type := Nat × List (Option Value) × List Value × Nat × sm_Im × sm_Lm × sm_Pm
abbrev sm_Cf : Type := Nat → List Value → Nat → sm_Im → sm_Lm → sm_Pm → Option sm_Rs
abbrev sm_Xs : Type := Option (Nat × (Nat → Int32))
def sm_up {α : Type} (f : Nat → Nat → α) (a k : Nat) (v : α) : Nat → Nat → α := fun b j => if b = a ∧ j = k then v else f b j
def sm_z {α : Type} (f : Nat → Nat → α) (a : Nat) (v : α) : Nat → Nat → α := fun b j => if b = a then v else f b j
def sm_row {α : Type} (f : Nat → Nat → α) (a : Nat) (g : Nat → α) : Nat → Nat → α := fun b j => if b = a then g j else f b j
def sm_cl (o : Option Value) : Option Value := match o with
  | some (.long _) => none
  | some (.double _) => none
  | o => o
def sm_s1 (ls : List (Option Value)) (k : Nat) (v : Value) : List (Option Value) := (if k = 0 then ls else ls.set (k - 1) (sm_cl ((ls[k - 1]?).getD none))).set k (some v)
def sm_s2 (ls : List (Option Value)) (k : Nat) (v : Value) : List (Option Value) := (sm_s1 ls k v).set (k + 1) none
def sm_nx (pc : Nat) (ls : List (Option Value)) (st : List Value) (N : Nat) (I : sm_Im) (L : sm_Lm) (P : sm_Pm) : Option (sm_Rs ⊕ sm_St) := some (.inr (pc, ls, st, N, I, L, P))
def sm_to (pc : Nat) (off : Int) (ls : List (Option Value)) (st : List Value) (N : Nat) (I : sm_Im) (L : sm_Lm) (P : sm_Pm) : Option (sm_Rs ⊕ sm_St) := if 0 ≤ (pc : Int) + off then sm_nx ((pc : Int) + off).toNat ls st N I L P else none
def sm_br (c : Bool) (pc : Nat) (off : Int) (ls : List (Option Value)) (st : List Value) (N : Nat) (I : sm_Im) (L : sm_Lm) (P : sm_Pm) : Option (sm_Rs ⊕ sm_St) := if 0 ≤ (pc : Int) + off then sm_nx (bif c then ((pc : Int) + off).toNat else pc + 3) ls st N I L P else none
def sm_fv (c k a : Nat) (I : sm_Im) (L : sm_Lm) (P : sm_Pm) : Value := if sm_fk c k ≤ 1 then .int (I a k) else if sm_fk c k = 2 then .long (L a k) else va_rf (P a k)
def sm_p1 {α : Type} (st : List Value) (k : Int32 → List Value → Option α) : Option α := match st with
  | .int x :: r => k x r
  | _ => none
def sm_p2 {α : Type} (st : List Value) (k : Int32 → Int32 → List Value → Option α) : Option α := match st with
  | .int y :: .int x :: r => k x y r
  | _ => none
def sm_q1 {α : Type} (st : List Value) (k : Int64 → List Value → Option α) : Option α := match st with
  | .long x :: r => k x r
  | _ => none
def sm_q2 {α : Type} (st : List Value) (k : Int64 → Int64 → List Value → Option α) : Option α := match st with
  | .long y :: .long x :: r => k x y r
  | _ => none
def sm_ldi {α : Type} (ls : List (Option Value)) (n : Nat) (k : Int32 → Option α) : Option α := match ls[n]? with
  | some (some (.int x)) => k x
  | _ => none
def sm_ldl {α : Type} (ls : List (Option Value)) (n : Nat) (k : Int64 → Option α) : Option α := match ls[n]? with
  | some (some (.long x)) => k x
  | _ => none
def sm_lda {α : Type} (ls : List (Option Value)) (n : Nat) (k : Option Nat → Option α) : Option α := match ls[n]? with
  | some (some (.ref x)) => k (some x)
  | some (some .null) => k none
  | _ => none
def sm_pa {α : Type} (st : List Value) (k : Option Nat → List Value → Option α) : Option α := match st with
  | .ref x :: r => k (some x) r
  | .null :: r => k none r
  | _ => none
def sm_ic (c : ClassFile.Cond) (x y : Int32) : Bool := match c with
  | .eq => decide (x = y)
  | .ne => decide (¬ x = y)
  | .lt => decide (x < y)
  | .ge => decide (y ≤ x)
  | .gt => decide (y < x)
  | .le => decide (x ≤ y)
def sm_iv (C : sm_Cf) (j : Nat) (n : Nat) (pc : Nat) (ls : List (Option Value)) (st : List Value) (N : Nat) (I : sm_Im) (L : sm_Lm) (P : sm_Pm) : Option (sm_Rs ⊕ sm_St) :=
  if n ≤ st.length ∧ (st.drop n).length ≤ 4 then
    match C j (st.take n).reverse N I L P with
    | some (r, N1, I1, L1, P1) => sm_nx (pc + 3) ls (r.toList ++ st.drop n) N1 I1 L1 P1
    | none => none
  else none
def sm_isR (N : Nat) (c : Nat) (v : Option Value) : Bool := match v with
  | some (.ref a) => decide (a < N) && decide (sm_lay a = .inl c)
  | _ => false
def sm_NN : Nat := 81
def sm_X (C : sm_Cf) (X : sm_Xs) (i : Nat) (ins : Instr) (pc : Nat) (ls : List (Option Value)) (st : List Value) (N : Nat) (I : sm_Im) (L : sm_Lm) (P : sm_Pm) : Option (sm_Rs ⊕ sm_St) :=
  match ins with
  | .iconst n => sm_nx (pc + 1) ls (.int (Int32.ofInt n) :: st) N I L P
  | .bipush n => sm_nx (pc + 2) ls (.int (Int8.ofInt n).toInt32 :: st) N I L P
  | .sipush n => sm_nx (pc + 3) ls (.int (Int16.ofInt n).toInt32 :: st) N I L P
  | .lconst n => sm_nx (pc + 1) ls (.long (Int64.ofNat n) :: st) N I L P
  | .aconst_null => sm_nx (pc + 1) ls (.null :: st) N I L P
  | .ldc x => match sm_ki (sm_o i) x with
    | some q => sm_nx (pc + 2) ls (.int q.1 :: st) N I L P
    | none => none
  | .ldc_w x => match sm_ki (sm_o i) x with
    | some q => sm_nx (pc + 3) ls (.int q.1 :: st) N I L P
    | none => none
  | .ldc2_w x => match sm_kl (sm_o i) x with
    | some q => sm_nx (pc + 3) ls (.long q.1 :: st) N I L P
    | none => none
  | .iload_n n => sm_ldi ls n fun x => sm_nx (pc + 1) ls (.int x :: st) N I L P
  | .iload n => sm_ldi ls n fun x => sm_nx (pc + 2) ls (.int x :: st) N I L P
  | .lload_n n => sm_ldl ls n fun x => sm_nx (pc + 1) ls (.long x :: st) N I L P
  | .lload n => sm_ldl ls n fun x => sm_nx (pc + 2) ls (.long x :: st) N I L P
  | .aload_n n => sm_lda ls n fun x => sm_nx (pc + 1) ls (va_rf x :: st) N I L P
  | .aload n => sm_lda ls n fun x => sm_nx (pc + 2) ls (va_rf x :: st) N I L P
  | .istore_n n => sm_p1 st fun x r => if n < sm_ml i then sm_nx (pc + 1) (sm_s1 ls n (.int x)) r N I L P else none
  | .istore n => sm_p1 st fun x r => if n < sm_ml i then sm_nx (pc + 2) (sm_s1 ls n (.int x)) r N I L P else none
  | .lstore_n n => sm_q1 st fun x r => if n + 1 < sm_ml i then sm_nx (pc + 1) (sm_s2 ls n (.long x)) r N I L P else none
  | .lstore n => sm_q1 st fun x r => if n + 1 < sm_ml i then sm_nx (pc + 2) (sm_s2 ls n (.long x)) r N I L P else none
  | .astore_n n => sm_pa st fun x r => if n < sm_ml i then sm_nx (pc + 1) (sm_s1 ls n (va_rf x)) r N I L P else none
  | .astore n => sm_pa st fun x r => if n < sm_ml i then sm_nx (pc + 2) (sm_s1 ls n (va_rf x)) r N I L P else none
  | .iinc n z => sm_ldi ls n fun x => if n < sm_ml i then sm_nx (pc + 3) (sm_s1 ls n (.int (x + Int32.ofInt z))) st N I L P else none
  | .iadd => sm_p2 st fun x y r => sm_nx (pc + 1) ls (.int (x + y) :: r) N I L P
  | .isub => sm_p2 st fun x y r => sm_nx (pc + 1) ls (.int (x - y) :: r) N I L P
  | .imul => sm_p2 st fun x y r => sm_nx (pc + 1) ls (.int (x * y) :: r) N I L P
  | .idiv => sm_p2 st fun x y r => if y = 0 then none else sm_nx (pc + 1) ls (.int (x / y) :: r) N I L P
  | .irem => sm_p2 st fun x y r => if y = 0 then none else sm_nx (pc + 1) ls (.int (x - x / y * y) :: r) N I L P
  | .iand => sm_p2 st fun x y r => sm_nx (pc + 1) ls (.int (x &&& y) :: r) N I L P
  | .ior => sm_p2 st fun x y r => sm_nx (pc + 1) ls (.int (x ||| y) :: r) N I L P
  | .ixor => sm_p2 st fun x y r => sm_nx (pc + 1) ls (.int (x ^^^ y) :: r) N I L P
  | .ishl => sm_p2 st fun x y r => sm_nx (pc + 1) ls (.int (x <<< (y &&& 31)) :: r) N I L P
  | .ishr => sm_p2 st fun x y r => sm_nx (pc + 1) ls (.int (x >>> (y &&& 31)) :: r) N I L P
  | .iushr => sm_p2 st fun x y r => sm_nx (pc + 1) ls (.int (x.toUInt32 >>> (y.toUInt32 &&& Int32.toUInt32 31)).toInt32 :: r) N I L P
  | .ladd => sm_q2 st fun x y r => sm_nx (pc + 1) ls (.long (x + y) :: r) N I L P
  | .lsub => sm_q2 st fun x y r => sm_nx (pc + 1) ls (.long (x - y) :: r) N I L P
  | .lmul => sm_q2 st fun x y r => sm_nx (pc + 1) ls (.long (x * y) :: r) N I L P
  | .ldiv => sm_q2 st fun x y r => if y = 0 then none else sm_nx (pc + 1) ls (.long (x / y) :: r) N I L P
  | .lrem => sm_q2 st fun x y r => if y = 0 then none else sm_nx (pc + 1) ls (.long (x - x / y * y) :: r) N I L P
  | .land => sm_q2 st fun x y r => sm_nx (pc + 1) ls (.long (x &&& y) :: r) N I L P
  | .lor => sm_q2 st fun x y r => sm_nx (pc + 1) ls (.long (x ||| y) :: r) N I L P
  | .lcmp => sm_q2 st fun x y r => sm_nx (pc + 1) ls (.int (lg_cmp x y) :: r) N I L P
  | .lshl => match st with
    | .int y :: .long x :: r => sm_nx (pc + 1) ls (.long (x <<< (y.toInt64 &&& 63)) :: r) N I L P
    | _ => none
  | .lushr => match st with
    | .int y :: .long x :: r => sm_nx (pc + 1) ls (.long (x.toUInt64 >>> (y.toInt64.toUInt64 &&& Int64.toUInt64 63)).toInt64 :: r) N I L P
    | _ => none
  | .i2l => sm_p1 st fun x r => sm_nx (pc + 1) ls (.long x.toInt64 :: r) N I L P
  | .l2i => sm_q1 st fun x r => sm_nx (pc + 1) ls (.int x.toInt32 :: r) N I L P
  | .dup => match st with
    | v :: r => if v.category = 1 then sm_nx (pc + 1) ls (v :: v :: r) N I L P else none
    | _ => none
  | .dup2 => match st with
    | v :: w :: r => if v.category = 1 ∧ w.category = 1 then sm_nx (pc + 1) ls (v :: w :: v :: w :: r) N I L P else none
    | _ => none
  | .pop => match st with
    | v :: r => if v.category = 1 then sm_nx (pc + 1) ls r N I L P else none
    | _ => none
  | .goto off => sm_to pc off ls st N I L P
  | .ifCond c off => sm_p1 st fun x r => sm_br (sm_ic c x 0) pc off ls r N I L P
  | .if_icmp c off => sm_p2 st fun x y r => sm_br (sm_ic c x y) pc off ls r N I L P
  | .ifnull off => sm_pa st fun x r => sm_br x.isNone pc off ls r N I L P
  | .ifnonnull off => sm_pa st fun x r => sm_br x.isSome pc off ls r N I L P
  | .tableswitch d lo hi offs => sm_p1 st fun x r => if x.toInt < lo ∨ hi < x.toInt then sm_to pc d ls r N I L P else match offs[(x.toInt - lo).toNat]? with
    | some off => sm_to pc off ls r N I L P
    | none => none
  | .lookupswitch d ps => sm_p1 st fun x r => if (ps.toList.zip (ps.toList.drop 1)).all (fun (a, next) => a.1 < next.1) = true then sm_to pc (Op.lookupswitch.offset ps.toList d x.toInt) ls r N I L P else none
  | .getfield x => match sm_fld (sm_o i) x with
    | some q => match st with
      | .ref a :: r => if a < N ∧ sm_lay a = .inl q.1 then sm_nx (pc + 3) ls (sm_fv q.1 q.2.1 a I L P :: r) N I L P else none
      | _ => none
    | none => none
  | .putfield x => match sm_fld (sm_o i) x with
    | some q => match st with
      | .int v :: .ref a :: r => if (a < N ∧ sm_lay a = .inl q.1) ∧ (sm_fk q.1 q.2.1 = 0 ∨ (sm_fk q.1 q.2.1 = 1 ∧ (v = 0 ∨ v = 1))) ∧ (sm_ff q.1 q.2.1 = false) then sm_nx (pc + 3) ls r N (sm_up I a q.2.1 v) L P else none
      | .long v :: .ref a :: r => if (a < N ∧ sm_lay a = .inl q.1) ∧ sm_fk q.1 q.2.1 = 2 ∧ (sm_ff q.1 q.2.1 = false) then sm_nx (pc + 3) ls r N I (sm_up L a q.2.1 v) P else none
      | .ref v :: .ref a :: r => if (a < N ∧ sm_lay a = .inl q.1) ∧ sm_fk q.1 q.2.1 = 3 ∧ (sm_ff q.1 q.2.1 = false ∨ (sm_kd i = 2 ∧ sm_o i = q.1)) then sm_nx (pc + 3) ls r N I L (sm_up P a q.2.1 (some v)) else none
      | _ => none
    | none => none
  | .getstatic x => match sm_stf (sm_o i) x with
    | some q => sm_nx (pc + 3) ls (.ref (1048576 + q.1) :: st) N I L P
    | none => none
  | .iaload => match st with
    | .int x :: .ref a :: r => if a < N then (match sm_lay a with
        | .inr (.inl n) => if ¬ (x < 0 ∨ n ≤ x.toNatClampNeg) then sm_nx (pc + 1) ls (.int (I a x.toNatClampNeg) :: r) N I L P else none
        | _ => none)
      else if a = 1048576 ∨ a = 1048577 then (if ¬ (x < 0 ∨ 15 ≤ x.toNatClampNeg) then sm_nx (pc + 1) ls (.int (sm_tab (a - 1048576) x.toNatClampNeg) :: r) N I L P else none)
      else if a = 1048578 then (match X with
        | some q => if ¬ (x < 0 ∨ q.1 ≤ x.toNatClampNeg) then sm_nx (pc + 1) ls (.int (q.2 x.toNatClampNeg) :: r) N I L P else none
        | none => none) else none
    | _ => none
  | .iastore => match st with
    | .int v :: .int x :: .ref a :: r => if a < N then (match sm_lay a with
        | .inr (.inl n) => if ¬ (x < 0 ∨ n ≤ x.toNatClampNeg) then sm_nx (pc + 1) ls r N (sm_up I a x.toNatClampNeg v) L P else none
        | _ => none) else none
    | _ => none
  | .aaload => match st with
    | .int x :: .ref a :: r => if a < N then (match sm_lay a with
        | .inr (.inr n) => if ¬ (x < 0 ∨ n ≤ x.toNatClampNeg) then sm_nx (pc + 1) ls (va_rf (P a x.toNatClampNeg) :: r) N I L P else none
        | _ => none) else none
    | _ => none
  | .aastore => match st with
    | .ref v :: .int x :: .ref a :: r => if a < N ∧ v < N ∧ sm_lay v = .inl 0 then (match sm_lay a with
        | .inr (.inr n) => if ¬ (x < 0 ∨ n ≤ x.toNatClampNeg) then sm_nx (pc + 1) ls r N I L (sm_up P a x.toNatClampNeg (some v)) else none
        | _ => none) else none
    | _ => none
  | .arraylength => match st with
    | .ref a :: r => if a < N then (match sm_lay a with
        | .inr (.inl n) => sm_nx (pc + 1) ls (.int (Int32.ofNat n) :: r) N I L P
        | _ => none)
      else if a = 1048578 then (match X with
        | some q => sm_nx (pc + 1) ls (.int (Int32.ofNat q.1) :: r) N I L P
        | none => none) else none
    | _ => none
  | .newarray .int => sm_p1 st fun x r => if ¬ x < 0 ∧ N < sm_NN ∧ sm_lay N = .inr (.inl x.toNatClampNeg) then sm_nx (pc + 2) ls (.ref N :: r) (N + 1) (sm_z I N 0) L P else none
  | .anewarray x => match sm_nw (sm_o i) x with
    | some q => sm_p1 st fun x r => if ¬ x < 0 ∧ N < sm_NN ∧ sm_lay N = .inr (.inr x.toNatClampNeg) ∧ q.1 = 0 then sm_nx (pc + 3) ls (.ref N :: r) (N + 1) I L (sm_z P N none) else none
    | none => none
  | .new x => match sm_nw (sm_o i) x with
    | some q => if N < sm_NN ∧ sm_lay N = .inl q.1 then sm_nx (pc + 3) ls (.ref N :: st) (N + 1) (sm_z I N 0) (sm_z L N 0) (sm_z P N none) else none
    | none => none
  | .invokestatic x => match sm_cal (sm_o i) x with
    | some q => if sm_kd q.1 = 0 then sm_iv C q.1 (sm_np q.1) pc ls st N I L P else none
    | none => match sm_ac (sm_o i) x with
      | some _ => match st with
        | .int n :: .int dp :: .ref a :: .int sp :: .ref a0 :: r => if (a < N ∧ a0 < N ∧ r.length ≤ 4) ∧ ¬ sp < 0 ∧ ¬ dp < 0 ∧ ¬ n < 0 then (match sm_lay a0, sm_lay a with
            | .inr (.inl n0), .inr (.inl n1) => if sp.toNatClampNeg + n.toNatClampNeg ≤ n0 ∧ dp.toNatClampNeg + n.toNatClampNeg ≤ n1 then sm_nx (pc + 3) ls r N (sm_row I a (va_cpy (I a0) (I a) sp.toNatClampNeg dp.toNatClampNeg n.toNatClampNeg)) L P else none
            | _, _ => none) else none
        | _ => none
      | none => none
  | .invokevirtual x => match sm_cal (sm_o i) x with
    | some q => if (sm_kd q.1 = 1 ∧ q.2.2 = 0) ∧ sm_isR N (sm_o q.1) st[sm_np q.1]? = true then sm_iv C q.1 (sm_np q.1 + 1) pc ls st N I L P else none
    | none => none
  | .invokespecial x => match sm_cal (sm_o i) x with
    | some q => if sm_kd q.1 = 2 ∧ sm_isR N (sm_o q.1) st[sm_np q.1]? = true then sm_iv C q.1 (sm_np q.1 + 1) pc ls st N I L P else none
    | none => match sm_ob (sm_o i) x with
      | some _ => match st with
        | .ref _ :: r => if r.length ≤ 4 then sm_nx (pc + 3) ls r N I L P else none
        | _ => none
      | none => none
  | .ireturn => match st with
    | [.int v] => if sm_rt i = some .int ∨ (sm_rt i = some .boolean ∧ v &&& 1 = v) then some (.inl (some (.int v), N, I, L, P)) else none
    | _ => none
  | .lreturn => match st with
    | [.long v] => if sm_rt i = some .long then some (.inl (some (.long v), N, I, L, P)) else none
    | _ => none
  | .areturn => match st with
    | [.ref v] => if sm_rt i = some (.object "FeltByTwin$Birth") then some (.inl (some (.ref v), N, I, L, P)) else none
    | [.null] => if sm_rt i = some (.object "FeltByTwin$Birth") then some (.inl (some .null, N, I, L, P)) else none
    | _ => none
  | .return_ => match st with
    | [] => if sm_rt i = none then some (.inl (none, N, I, L, P)) else none
    | _ => none
  | _ => none
def sm_len (ins : Instr) : Nat := match ins with
  | .bipush _ => 2
  | .ldc _ => 2
  | .iload _ => 2
  | .lload _ => 2
  | .aload _ => 2
  | .istore _ => 2
  | .lstore _ => 2
  | .astore _ => 2
  | .newarray _ => 2
  | .sipush _ => 3
  | .ldc_w _ => 3
  | .ldc2_w _ => 3
  | .iinc _ _ => 3
  | .goto _ => 3
  | .ifCond _ _ => 3
  | .if_icmp _ _ => 3
  | .ifnull _ => 3
  | .ifnonnull _ => 3
  | .getfield _ => 3
  | .putfield _ => 3
  | .getstatic _ => 3
  | .anewarray _ => 3
  | .new _ => 3
  | .invokestatic _ => 3
  | .invokevirtual _ => 3
  | .invokespecial _ => 3
  | .tableswitch _ _ _ _ => 0
  | .lookupswitch _ _ => 0
  | _ => 1
def sm_S (C : sm_Cf) (X : sm_Xs) (i : Nat) (s : sm_St) : Option (sm_Rs ⊕ sm_St) := match decode (sm_b i) s.1 with
  | .ok q => if sm_len q.1 = 0 ∨ sm_len q.1 = q.2 then sm_X C X i q.1 s.1 s.2.1 s.2.2.1 s.2.2.2.1 s.2.2.2.2.1 s.2.2.2.2.2.1 s.2.2.2.2.2.2 else none
  | .error _ => none
def sm_run (C : sm_Cf) (X : sm_Xs) (i : Nat) : Nat → sm_St → Option sm_Rs
  | 0, _ => none
  | n + 1, s => match sm_S C X i s with
    | none => none
    | some (.inl r) => some r
    | some (.inr s1) => sm_run C X i n s1
theorem sm_run_up {C : sm_Cf} {X : sm_Xs} {i : Nat} : ∀ {n : Nat} {s : sm_St} {r : sm_Rs}, sm_run C X i n s = some r → sm_run C X i (n + 1) s = some r := by
  intro n
  induction n with
  | zero => intro s r h; cases h
  | succ n ih =>
    intro s r h
    unfold sm_run at h ⊢
    cases hs : sm_S C X i s with
    | none => rw [hs] at h; cases h
    | some q =>
      rw [hs] at h
      cases q with
      | inl r1 => exact h
      | inr s1 => exact ih h
theorem sm_run_ge {C : sm_Cf} {X : sm_Xs} {i : Nat} {n k : Nat} {s : sm_St} {r : sm_Rs} (h : sm_run C X i n s = some r) : sm_run C X i (n + k) s = some r := by
  induction k with
  | zero => exact h
  | succ k ih => exact sm_run_up ih
theorem sm_run_one {C : sm_Cf} {X : sm_Xs} {i : Nat} {n k : Nat} {s : sm_St} {r q : sm_Rs} (h : sm_run C X i n s = some r) (h2 : sm_run C X i k s = some q) : r = q := by
  have a := sm_run_ge (k := k) h
  have b := sm_run_ge (k := n) h2
  rw [Nat.add_comm k n] at b
  rw [a] at b
  exact Option.some.inj b
noncomputable def sm_lim (C : sm_Cf) (X : sm_Xs) (i : Nat) (s : sm_St) : Option sm_Rs := @dite _ (∃ r n, sm_run C X i n s = some r) (Classical.propDecidable _) (fun h => some h.choose) (fun _ => none)
theorem sm_lim_iff {C : sm_Cf} {X : sm_Xs} {i : Nat} {s : sm_St} {r : sm_Rs} : sm_lim C X i s = some r ↔ ∃ n, sm_run C X i n s = some r := by
  unfold sm_lim
  by_cases h : ∃ r n, sm_run C X i n s = some r
  · rw [dif_pos h]
    obtain ⟨n, hn⟩ := h.choose_spec
    constructor
    · intro q
      cases q
      exact ⟨n, hn⟩
    · rintro ⟨k, hk⟩
      rw [sm_run_one hn hk]
  · rw [dif_neg h]
    constructor
    · intro q; cases q
    · rintro ⟨k, hk⟩
      exact absurd ⟨r, k, hk⟩ h
theorem sm_lim_next {C : sm_Cf} {X : sm_Xs} {i : Nat} {s s1 : sm_St} (h : sm_S C X i s = some (.inr s1)) : sm_lim C X i s = sm_lim C X i s1 := by
  apply Option.ext
  intro r
  rw [sm_lim_iff, sm_lim_iff]
  constructor
  · rintro ⟨n, hn⟩
    cases n with
    | zero => cases hn
    | succ n =>
      unfold sm_run at hn
      rw [h] at hn
      exact ⟨n, hn⟩
  · rintro ⟨n, hn⟩
    exact ⟨n + 1, by unfold sm_run; rw [h]; exact hn⟩
theorem sm_lim_ret {C : sm_Cf} {X : sm_Xs} {i : Nat} {s : sm_St} {r : sm_Rs} (h : sm_S C X i s = some (.inl r)) : sm_lim C X i s = some r := sm_lim_iff.mpr ⟨1, by unfold sm_run; rw [h]⟩
noncomputable def sm_at (C : sm_Cf) (X : sm_Xs) (i pc : Nat) (ls : List (Option Value)) (st : List Value) (N : Nat) (I : sm_Im) (L : sm_Lm) (P : sm_Pm) : Option sm_Rs := sm_lim C X i (pc, ls, st, N, I, L, P)
def sm_ent : List Value → List (Option Value)
  | [] => []
  | .long x :: r => some (.long x) :: none :: sm_ent r
  | .double x :: r => some (.double x) :: none :: sm_ent r
  | v :: r => some v :: sm_ent r
def sm_lsl (i : Nat) (as : List Value) : List (Option Value) := sm_ent as ++ List.replicate (sm_ml i - (sm_ent as).length) none
noncomputable def sm_ex : Nat → sm_Cf
  | 0 => fun _ _ _ _ _ _ => none
  | d + 1 => fun i as N I L P => if (sm_ent as).length ≤ sm_ml i then sm_at (sm_ex d) none i 0 (sm_lsl i as) [] N I L P else none
