/-! ONE STEP OF THE SMALL MACHINE AS AN EQUATION -/
def sm_al (a : Nat) : Nat := match sm_lay a with
  | .inr (.inl n) => n
  | _ => 0
theorem sm_al_le (a : Nat) : sm_al a ≤ 1000 := by
  by_cases h : a < 81
  · have : (List.range 81).all (fun a => decide (sm_al a ≤ 1000)) = true := by decide +kernel
    exact of_decide_eq_true (List.all_eq_true.mp this a (List.mem_range.mpr h))
  · unfold sm_al sm_lay
    rw [List.getD_eq_getElem?_getD, List.getElem?_eq_none (by show 81 ≤ a; omega)]
    decide
theorem sm_al_lay {a k : Nat} (h : k < sm_al a) : sm_lay a = .inr (.inl (sm_al a)) := by
  unfold sm_al at h ⊢
  split
  · assumption
  · rename_i h2
    revert h
    split
    · rename_i n h3
      exact absurd h3 (h2 n)
    · intro h; omega
noncomputable def sm_af (C : sm_Cf) (X : sm_Xs) (i pc : Nat) (ls : List (Option Value)) (st : List Value) (o : Option sm_Rs) : Option sm_Rs := match o with
  | none => none
  | some r => sm_at C X i pc ls (r.1.toList ++ st) r.2.1 r.2.2.1 r.2.2.2.1 r.2.2.2.2
section STT
variable {C : sm_Cf} {X : sm_Xs} {i pc : Nat} {cc : ByteArray} {ls ls1 : List (Option Value)} {st st1 : List Value} {N N1 : Nat} {I I1 : sm_Im} {L L1 : sm_Lm} {P P1 : sm_Pm} {ins : Instr} {len : Nat}
theorem af_v {v : Value} : sm_af C X i pc ls st (some (some v, N, I, L, P)) = sm_at C X i pc ls (v :: st) N I L P := rfl
theorem af_0 : sm_af C X i pc ls st (some (none, N, I, L, P)) = sm_at C X i pc ls st N I L P := rfl
theorem st_S (hb : sm_b i = cc) (hd : decode cc pc = .ok (ins, len)) (hl : sm_len ins = 0 ∨ sm_len ins = len) : sm_S C X i (pc, ls, st, N, I, L, P) = sm_X C X i ins pc ls st N I L P := by
  unfold sm_S
  rw [hb]
  dsimp only
  rw [hd]
  dsimp only
  rw [if_pos hl]
theorem st_go {pc1 : Nat} (hb : sm_b i = cc) (hd : decode cc pc = .ok (ins, len)) (hl : sm_len ins = 0 ∨ sm_len ins = len) (hX : sm_X C X i ins pc ls st N I L P = some (.inr (pc1, ls1, st1, N1, I1, L1, P1))) : sm_at C X i pc ls st N I L P = sm_at C X i pc1 ls1 st1 N1 I1 L1 P1 :=
  sm_lim_next ((st_S hb hd hl).trans hX)
theorem st_br {c : Prop} [hc : Decidable c] {pa pb : Nat} (hb : sm_b i = cc) (hd : decode cc pc = .ok (ins, len)) (hl : sm_len ins = 0 ∨ sm_len ins = len) (hX : sm_X C X i ins pc ls st N I L P = some (.inr (bif decide c then pa else pb, ls1, st1, N1, I1, L1, P1))) : sm_at C X i pc ls st N I L P = if c then sm_at C X i pa ls1 st1 N1 I1 L1 P1 else sm_at C X i pb ls1 st1 N1 I1 L1 P1 := by
  rw [st_go hb hd hl hX]
  by_cases h : c
  · rw [if_pos h, decide_eq_true h]; rfl
  · rw [if_neg h, decide_eq_false h]; rfl
theorem st_ret {r : sm_Rs} (hb : sm_b i = cc) (hd : decode cc pc = .ok (ins, len)) (hl : sm_len ins = 0 ∨ sm_len ins = len) (hX : sm_X C X i ins pc ls st N I L P = some (.inl r)) : sm_at C X i pc ls st N I L P = some r := sm_lim_ret ((st_S hb hd hl).trans hX)
theorem st_b01 {x : Int32} (h : x = 0 ∨ x = 1) : x &&& 1 = x := by rcases h with rfl | rfl <;> decide
theorem st_in {k n : Nat} (h : k < n) (hn : n ≤ 1000) : ¬ (nI k < 0 ∨ n ≤ (nI k).toNatClampNeg) := vp_in_nI h (by omega)
theorem st_iald {a k : Nat} (hb : sm_b i = cc) (hd : decode cc pc = .ok (.iaload, 1)) (h : a < N) (h1 : k < sm_al a) : sm_at C X i pc ls (.int (nI k) :: .ref a :: st) N I L P = sm_at C X i (pc + 1) ls (.int (I a k) :: st) N I L P := by
  refine st_go hb hd (Or.inr rfl) ?_
  unfold sm_X
  dsimp only
  rw [if_pos h, sm_al_lay h1]
  dsimp only
  have := sm_al_le a
  rw [if_pos (st_in h1 this), nI_clamp (by omega)]
  rfl
theorem st_iast {a k : Nat} {v : Int32} (hb : sm_b i = cc) (hd : decode cc pc = .ok (.iastore, 1)) (h : a < N) (h1 : k < sm_al a) : sm_at C X i pc ls (.int v :: .int (nI k) :: .ref a :: st) N I L P = sm_at C X i (pc + 1) ls st N (sm_up I a k v) L P := by
  refine st_go hb hd (Or.inr rfl) ?_
  unfold sm_X
  dsimp only
  rw [if_pos h, sm_al_lay h1]
  dsimp only
  have := sm_al_le a
  rw [if_pos (st_in h1 this), nI_clamp (by omega)]
  rfl
theorem st_iat0 {k : Nat} (hb : sm_b i = cc) (hd : decode cc pc = .ok (.iaload, 1)) (h : N ≤ 1000) (h1 : k < 15) : sm_at C X i pc ls (.int (nI k) :: .ref 1048576 :: st) N I L P = sm_at C X i (pc + 1) ls (.int (sm_tab 0 k) :: st) N I L P := by
  refine st_go hb hd (Or.inr rfl) ?_
  unfold sm_X
  dsimp only
  rw [if_neg (show ¬ 1048576 < N by omega), if_pos (Or.inl rfl), if_pos (st_in h1 (by decide)), nI_clamp (by omega)]
  rfl
theorem st_iat1 {k : Nat} (hb : sm_b i = cc) (hd : decode cc pc = .ok (.iaload, 1)) (h : N ≤ 1000) (h1 : k < 15) : sm_at C X i pc ls (.int (nI k) :: .ref 1048577 :: st) N I L P = sm_at C X i (pc + 1) ls (.int (sm_tab 1 k) :: st) N I L P := by
  refine st_go hb hd (Or.inr rfl) ?_
  unfold sm_X
  dsimp only
  rw [if_neg (show ¬ 1048577 < N by omega), if_pos (Or.inr rfl), if_pos (st_in h1 (by decide)), nI_clamp (by omega)]
  rfl
theorem st_ialx {k n : Nat} {f : Nat → Int32} (hb : sm_b i = cc) (hd : decode cc pc = .ok (.iaload, 1)) (h : N ≤ 1000) (h1 : k < n) (h2 : n < 1000) : sm_at C (some (n, f)) i pc ls (.int (nI k) :: .ref 1048578 :: st) N I L P = sm_at C (some (n, f)) i (pc + 1) ls (.int (f k) :: st) N I L P := by
  refine st_go hb hd (Or.inr rfl) ?_
  unfold sm_X
  dsimp only
  rw [if_neg (show ¬ 1048578 < N by omega), if_neg (by decide), if_pos rfl, if_pos (st_in h1 (by omega)), nI_clamp (by omega)]
  rfl
theorem st_aald {a k : Nat} (hb : sm_b i = cc) (hd : decode cc pc = .ok (.aaload, 1)) (h : a < N) (h1 : sm_lay a = .inr (.inr 5)) (h2 : k < 5) : sm_at C X i pc ls (.int (nI k) :: .ref a :: st) N I L P = sm_at C X i (pc + 1) ls (va_rf (P a k) :: st) N I L P := by
  refine st_go hb hd (Or.inr rfl) ?_
  unfold sm_X
  dsimp only
  rw [if_pos h, h1]
  dsimp only
  rw [if_pos (st_in h2 (by decide)), nI_clamp (by omega)]
  rfl
theorem st_aast {a a2 k : Nat} (hb : sm_b i = cc) (hd : decode cc pc = .ok (.aastore, 1)) (h : a < N) (h1 : sm_lay a = .inr (.inr 5)) (h2 : k < 5) (h3 : a2 < N) (h4 : sm_lay a2 = .inl 0) : sm_at C X i pc ls (.ref a2 :: .int (nI k) :: .ref a :: st) N I L P = sm_at C X i (pc + 1) ls st N I L (sm_up P a k (some a2)) := by
  refine st_go hb hd (Or.inr rfl) ?_
  unfold sm_X
  dsimp only
  rw [if_pos ⟨h, h3, h4⟩, h1]
  dsimp only
  rw [if_pos (st_in h2 (by decide)), nI_clamp (by omega)]
  rfl
theorem st_alen {a k : Nat} (hb : sm_b i = cc) (hd : decode cc pc = .ok (.arraylength, 1)) (h : a < N) (h1 : sm_lay a = .inr (.inl k)) : sm_at C X i pc ls (.ref a :: st) N I L P = sm_at C X i (pc + 1) ls (.int (nI k) :: st) N I L P := by
  refine st_go hb hd (Or.inr rfl) ?_
  unfold sm_X
  dsimp only
  rw [if_pos h, h1]
  rfl
theorem st_alex {n : Nat} {f : Nat → Int32} (hb : sm_b i = cc) (hd : decode cc pc = .ok (.arraylength, 1)) (h : N ≤ 1000) : sm_at C (some (n, f)) i pc ls (.ref 1048578 :: st) N I L P = sm_at C (some (n, f)) i (pc + 1) ls (.int (nI n) :: st) N I L P := by
  refine st_go hb hd (Or.inr rfl) ?_
  unfold sm_X
  dsimp only
  rw [if_neg (show ¬ 1048578 < N by omega), if_pos rfl]
  rfl
theorem st_newa {k : Nat} (hb : sm_b i = cc) (hd : decode cc pc = .ok (.newarray .int, 2)) (h : N < 81) (h1 : sm_lay N = .inr (.inl k)) (h2 : k < 1000) : sm_at C X i pc ls (.int (nI k) :: st) N I L P = sm_at C X i (pc + 2) ls (.ref N :: st) (N + 1) (sm_z I N 0) L P := by
  refine st_go hb hd (Or.inr rfl) ?_
  unfold sm_X sm_p1
  dsimp only
  rw [if_pos ⟨nI_pos (by omega), h, by rw [nI_clamp (by omega)]; exact h1⟩]
  rfl
theorem st_anew {k x z : Nat} (hb : sm_b i = cc) (hd : decode cc pc = .ok (.anewarray x, 3)) (hf : sm_nw (sm_o i) x = some (0, z)) (h : N < 81) (h1 : sm_lay N = .inr (.inr k)) (h2 : k < 1000) : sm_at C X i pc ls (.int (nI k) :: st) N I L P = sm_at C X i (pc + 3) ls (.ref N :: st) (N + 1) I L (sm_z P N none) := by
  refine st_go hb hd (Or.inr rfl) ?_
  unfold sm_X sm_p1
  dsimp only
  rw [hf]
  dsimp only
  rw [if_pos ⟨nI_pos (by omega), h, by rw [nI_clamp (by omega)]; exact h1, rfl⟩]
  rfl
theorem st_af {j n : Nat} {full args rest : List Value} (h : decide (n ≤ full.length ∧ (full.drop n).length ≤ 4) = true) (ha : (full.take n).reverse = args) (hr : full.drop n = rest) {t : Option sm_Rs} (hS : sm_S C X i (pc, ls, full, N, I, L, P) = sm_iv C j n pc ls full N I L P) : sm_at C X i pc ls full N I L P = sm_af C X i (pc + 3) ls rest (C j args N I L P) := by
  have hiv : sm_iv C j n pc ls full N I L P = match C j args N I L P with
      | some r => some (.inr (pc + 3, ls, r.1.toList ++ rest, r.2.1, r.2.2.1, r.2.2.2.1, r.2.2.2.2))
      | none => none := by
    unfold sm_iv
    rw [if_pos (of_decide_eq_true h), ha, hr]
    cases C j args N I L P <;> rfl
  cases hc : C j args N I L P with
  | none =>
    rw [hc] at hiv
    show sm_lim C X i _ = none
    unfold sm_lim
    rw [dif_neg]
    rintro ⟨r, n, hn⟩
    cases n with
    | zero => cases hn
    | succ n =>
      unfold sm_run at hn
      rw [hS, hiv] at hn
      cases hn
  | some r =>
    rw [hc] at hiv
    exact sm_lim_next (hS.trans hiv)
theorem st_stat {x j z k n : Nat} {full args rest : List Value} (hb : sm_b i = cc) (hd : decode cc pc = .ok (.invokestatic x, 3)) (hf : sm_cal (sm_o i) x = some (j, z, k)) (hk : sm_kd j = 0) (hn : sm_np j = n) (h : decide (n ≤ full.length ∧ (full.drop n).length ≤ 4) = true) (ha : (full.take n).reverse = args) (hr : full.drop n = rest) : sm_at C X i pc ls full N I L P = sm_af C X i (pc + 3) ls rest (C j args N I L P) := by
  refine st_af (t := none) h ha hr ((st_S hb hd (Or.inr rfl)).trans ?_)
  unfold sm_X
  dsimp only
  rw [hf]
  dsimp only
  rw [if_pos hk, hn]
theorem st_virt {x j z n a c0 : Nat} {full args rest : List Value} (hb : sm_b i = cc) (hd : decode cc pc = .ok (.invokevirtual x, 3)) (hf : sm_cal (sm_o i) x = some (j, z, 0)) (hk : sm_kd j = 1) (hn : sm_np j + 1 = n) (ho : sm_o j = c0) (hrec : full[sm_np j]? = some (.ref a)) (h : decide (n ≤ full.length ∧ (full.drop n).length ≤ 4) = true) (har : ((full.take n).reverse, full.drop n) = (args, rest)) (h1 : a < N) (h2 : sm_lay a = .inl c0) : sm_at C X i pc ls full N I L P = sm_af C X i (pc + 3) ls rest (C j args N I L P) := by
  refine st_af (t := none) h (congrArg Prod.fst har) (congrArg Prod.snd har) ((st_S hb hd (Or.inr rfl)).trans ?_)
  unfold sm_X
  dsimp only
  rw [hf]
  dsimp only
  rw [if_pos ⟨⟨hk, rfl⟩, by rw [hrec, ho]; show (decide (a < N) && decide (sm_lay a = .inl c0)) = true; rw [decide_eq_true h1, decide_eq_true h2]; rfl⟩, hn]
theorem st_spec {x j z k n a c0 : Nat} {full args rest : List Value} (hb : sm_b i = cc) (hd : decode cc pc = .ok (.invokespecial x, 3)) (hf : sm_cal (sm_o i) x = some (j, z, k)) (hk : sm_kd j = 2) (hn : sm_np j + 1 = n) (ho : sm_o j = c0) (hrec : full[sm_np j]? = some (.ref a)) (h : decide (n ≤ full.length ∧ (full.drop n).length ≤ 4) = true) (har : ((full.take n).reverse, full.drop n) = (args, rest)) (h1 : a < N) (h2 : sm_lay a = .inl c0) : sm_at C X i pc ls full N I L P = sm_af C X i (pc + 3) ls rest (C j args N I L P) := by
  refine st_af (t := none) h (congrArg Prod.fst har) (congrArg Prod.snd har) ((st_S hb hd (Or.inr rfl)).trans ?_)
  unfold sm_X
  dsimp only
  rw [hf]
  dsimp only
  rw [if_pos ⟨hk, by rw [hrec, ho]; show (decide (a < N) && decide (sm_lay a = .inl c0)) = true; rw [decide_eq_true h1, decide_eq_true h2]; rfl⟩, hn]
theorem st_copy {x z a a2 k : Nat} (hb : sm_b i = cc) (hd : decode cc pc = .ok (.invokestatic x, 3)) (hf : sm_cal (sm_o i) x = none) (hf2 : sm_ac (sm_o i) x = some z) (h : a < N) (h1 : a2 < N) (h2 : k ≤ sm_al a) (h3 : k ≤ sm_al a2) (hk : 0 < k) : sm_at C X i pc ls [.int (nI k), .int (nI 0), .ref a, .int (nI 0), .ref a2] N I L P = sm_at C X i (pc + 3) ls [] N (sm_row I a (va_cpy (I a2) (I a) 0 0 k)) L P := by
  refine st_go hb hd (Or.inr rfl) ?_
  unfold sm_X
  dsimp only
  rw [hf]
  dsimp only
  rw [hf2]
  dsimp only
  have q1 := sm_al_le a
  rw [if_pos ⟨⟨h, h1, by decide⟩, by decide, by decide, nI_pos (by omega)⟩, sm_al_lay (show 0 < sm_al a2 by omega), sm_al_lay (show 0 < sm_al a by omega)]
  dsimp only
  rw [nI_clamp (show k < 2 ^ 31 by omega), show (nI 0).toNatClampNeg = 0 from rfl, if_pos ⟨by omega, by omega⟩]
  rfl
theorem st_iret {x0 : Int32} (hb : sm_b i = cc) (hd : decode cc pc = .ok (.ireturn, 1)) (hrt : sm_rt i = some .int) : sm_at C X i pc ls [.int x0] N I L P = some (some (.int x0), N, I, L, P) := by
  refine st_ret hb hd (Or.inr rfl) ?_
  unfold sm_X
  dsimp only
  rw [if_pos (Or.inl hrt)]
theorem st_zret {x0 : Int32} (hb : sm_b i = cc) (hd : decode cc pc = .ok (.ireturn, 1)) (hrt : sm_rt i = some .boolean) (h : x0 = 0 ∨ x0 = 1) : sm_at C X i pc ls [.int x0] N I L P = some (some (.int x0), N, I, L, P) := by
  refine st_ret hb hd (Or.inr rfl) ?_
  unfold sm_X
  dsimp only
  rw [if_pos (Or.inr ⟨hrt, st_b01 h⟩)]
theorem st_gfI {x c k z a : Nat} (hb : sm_b i = cc) (hd : decode cc pc = .ok (.getfield x, 3)) (hf : sm_fld (sm_o i) x = some (c, k, z)) (hk : Nat.ble (sm_fk c k) 1 = true) (h : a < N) (h1 : sm_lay a = .inl c) : sm_at C X i pc ls (.ref a :: st) N I L P = sm_at C X i (pc + 3) ls (.int (I a k) :: st) N I L P := by
  refine st_go hb hd (Or.inr rfl) ?_
  unfold sm_X
  dsimp only
  rw [hf]
  dsimp only
  rw [if_pos ⟨h, h1⟩]
  unfold sm_fv
  rw [if_pos (Nat.le_of_ble_eq_true hk)]
  rfl
theorem st_gfL {x c k z a : Nat} (hb : sm_b i = cc) (hd : decode cc pc = .ok (.getfield x, 3)) (hf : sm_fld (sm_o i) x = some (c, k, z)) (hk : sm_fk c k = 2) (h : a < N) (h1 : sm_lay a = .inl c) : sm_at C X i pc ls (.ref a :: st) N I L P = sm_at C X i (pc + 3) ls (.long (L a k) :: st) N I L P := by
  refine st_go hb hd (Or.inr rfl) ?_
  unfold sm_X
  dsimp only
  rw [hf]
  dsimp only
  rw [if_pos ⟨h, h1⟩]
  unfold sm_fv
  rw [if_neg (by omega), if_pos hk]
  rfl
theorem st_gfR {x c k z a : Nat} (hb : sm_b i = cc) (hd : decode cc pc = .ok (.getfield x, 3)) (hf : sm_fld (sm_o i) x = some (c, k, z)) (hk : sm_fk c k = 3) (h : a < N) (h1 : sm_lay a = .inl c) : sm_at C X i pc ls (.ref a :: st) N I L P = sm_at C X i (pc + 3) ls (va_rf (P a k) :: st) N I L P := by
  refine st_go hb hd (Or.inr rfl) ?_
  unfold sm_X
  dsimp only
  rw [hf]
  dsimp only
  rw [if_pos ⟨h, h1⟩]
  unfold sm_fv
  rw [if_neg (by omega), if_neg (by omega)]
  rfl
theorem st_pfI {x c k z a : Nat} {v : Int32} (hb : sm_b i = cc) (hd : decode cc pc = .ok (.putfield x, 3)) (hf : sm_fld (sm_o i) x = some (c, k, z)) (hk : sm_fk c k = 0) (hff : sm_ff c k = false) (h : a < N) (h1 : sm_lay a = .inl c) : sm_at C X i pc ls (.int v :: .ref a :: st) N I L P = sm_at C X i (pc + 3) ls st N (sm_up I a k v) L P := by
  refine st_go hb hd (Or.inr rfl) ?_
  unfold sm_X
  dsimp only
  rw [hf]
  dsimp only
  rw [if_pos ⟨⟨h, h1⟩, Or.inl hk, hff⟩]
  rfl
theorem st_pfB {x c k z a : Nat} {v : Int32} (hb : sm_b i = cc) (hd : decode cc pc = .ok (.putfield x, 3)) (hf : sm_fld (sm_o i) x = some (c, k, z)) (hk : sm_fk c k = 1) (hff : sm_ff c k = false) (h : a < N) (h1 : sm_lay a = .inl c) (h2 : v = 0 ∨ v = 1) : sm_at C X i pc ls (.int v :: .ref a :: st) N I L P = sm_at C X i (pc + 3) ls st N (sm_up I a k v) L P := by
  refine st_go hb hd (Or.inr rfl) ?_
  unfold sm_X
  dsimp only
  rw [hf]
  dsimp only
  rw [if_pos ⟨⟨h, h1⟩, Or.inr ⟨hk, h2⟩, hff⟩]
  rfl
theorem st_pfL {x c k z a : Nat} {v : Int64} (hb : sm_b i = cc) (hd : decode cc pc = .ok (.putfield x, 3)) (hf : sm_fld (sm_o i) x = some (c, k, z)) (hk : sm_fk c k = 2) (hff : sm_ff c k = false) (h : a < N) (h1 : sm_lay a = .inl c) : sm_at C X i pc ls (.long v :: .ref a :: st) N I L P = sm_at C X i (pc + 3) ls st N I (sm_up L a k v) P := by
  refine st_go hb hd (Or.inr rfl) ?_
  unfold sm_X
  dsimp only
  rw [hf]
  dsimp only
  rw [if_pos ⟨⟨h, h1⟩, hk, hff⟩]
  rfl
theorem st_pfR {x c k z a v : Nat} (hb : sm_b i = cc) (hd : decode cc pc = .ok (.putfield x, 3)) (hf : sm_fld (sm_o i) x = some (c, k, z)) (hk : sm_fk c k = 3) (hff : sm_ff c k = false ∨ (sm_kd i = 2 ∧ sm_o i = c)) (h : a < N) (h1 : sm_lay a = .inl c) : sm_at C X i pc ls (.ref v :: .ref a :: st) N I L P = sm_at C X i (pc + 3) ls st N I L (sm_up P a k (some v)) := by
  refine st_go hb hd (Or.inr rfl) ?_
  unfold sm_X
  dsimp only
  rw [hf]
  dsimp only
  rw [if_pos ⟨⟨h, h1⟩, hk, hff⟩]
  rfl
theorem st_new {x k z : Nat} (hb : sm_b i = cc) (hd : decode cc pc = .ok (.new x, 3)) (hf : sm_nw (sm_o i) x = some (k, z)) (h : N < 81) (h1 : sm_lay N = .inl k) : sm_at C X i pc ls st N I L P = sm_at C X i (pc + 3) ls (.ref N :: st) (N + 1) (sm_z I N 0) (sm_z L N 0) (sm_z P N none) := by
  refine st_go hb hd (Or.inr rfl) ?_
  unfold sm_X
  dsimp only
  rw [hf]
  dsimp only
  rw [if_pos ⟨h, h1⟩]
  rfl
theorem st_idiv {x0 x1 : Int32} (hb : sm_b i = cc) (hd : decode cc pc = .ok (.idiv, 1)) (h : ¬ x0 = 0) : sm_at C X i pc ls (.int x0 :: .int x1 :: st) N I L P = sm_at C X i (pc + 1) ls (.int (x1 / x0) :: st) N I L P := by
  refine st_go hb hd (Or.inr rfl) ?_
  unfold sm_X sm_p2
  dsimp only
  rw [if_neg h]
  rfl
theorem st_irem {x0 x1 : Int32} (hb : sm_b i = cc) (hd : decode cc pc = .ok (.irem, 1)) (h : ¬ x0 = 0) : sm_at C X i pc ls (.int x0 :: .int x1 :: st) N I L P = sm_at C X i (pc + 1) ls (.int (x1 - x1 / x0 * x0) :: st) N I L P := by
  refine st_go hb hd (Or.inr rfl) ?_
  unfold sm_X sm_p2
  dsimp only
  rw [if_neg h]
  rfl
theorem st_ldiv {x0 x1 : Int64} (hb : sm_b i = cc) (hd : decode cc pc = .ok (.ldiv, 1)) (h : ¬ x0 = 0) : sm_at C X i pc ls (.long x0 :: .long x1 :: st) N I L P = sm_at C X i (pc + 1) ls (.long (x1 / x0) :: st) N I L P := by
  refine st_go hb hd (Or.inr rfl) ?_
  unfold sm_X sm_q2
  dsimp only
  rw [if_neg h]
  rfl
theorem st_lrem {x0 x1 : Int64} (hb : sm_b i = cc) (hd : decode cc pc = .ok (.lrem, 1)) (h : ¬ x0 = 0) : sm_at C X i pc ls (.long x0 :: .long x1 :: st) N I L P = sm_at C X i (pc + 1) ls (.long (x1 - x1 / x0 * x0) :: st) N I L P := by
  refine st_go hb hd (Or.inr rfl) ?_
  unfold sm_X sm_q2
  dsimp only
  rw [if_neg h]
  rfl
theorem st_tab {x0 : Int32} {dflt lo hi : Int} {offs : Array Int} {len tgt : Nat} (hb : sm_b i = cc) (hd : decode cc pc = .ok (.tableswitch dflt lo hi offs, len)) (ht : decide ((pc : Int) + dflt = tgt) = true) (h : x0.toInt < lo ∨ hi < x0.toInt) : sm_at C X i pc ls (.int x0 :: st) N I L P = sm_at C X i tgt ls st N I L P := by
  refine st_go hb hd (Or.inl rfl) ?_
  have ht := of_decide_eq_true ht
  unfold sm_X sm_p1
  dsimp only
  rw [if_pos h]
  unfold sm_to
  rw [if_pos (by omega), ht]
  rfl
theorem st_lk {x0 : Int32} {dflt off : Int} {ps : Array (Int × Int)} {tgt : Nat} (h : (ps.toList.zip (ps.toList.drop 1)).all (fun (a, next) => a.1 < next.1) = true) (ho : Op.lookupswitch.offset ps.toList dflt x0.toInt = off) (ht : decide ((pc : Int) + off = tgt) = true) : sm_X C X i (.lookupswitch dflt ps) pc ls (.int x0 :: st) N I L P = some (.inr (tgt, ls, st, N, I, L, P)) := by
  have ht := of_decide_eq_true ht
  unfold sm_X sm_p1
  dsimp only
  rw [if_pos h, ho]
  unfold sm_to
  rw [if_pos (by omega), ht]
  rfl
end STT
