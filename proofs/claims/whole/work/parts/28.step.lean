section SMM
variable {p : Program} {l : Launch} {e : Env} {R : Room} {s : State} {m : MethodId} {args : Array Value} {below : List Frame} {meth : Method} {c : Code} {Q : State → Prop} {D : va_G} {cyI cyB : ClassId} {base tL tG bS N0 i Nf d : Nat} {C : sm_Cf} {X : sm_Xs}
set_option maxRecDepth 100000 in
theorem sm_ml_le : (List.range 216).all (fun j => decide (sm_ml j ≤ 45) && (sm_kd j != 1 || decide (sm_o j < 12))) = true := by decide +kernel
theorem sm_ml_j {j : Nat} (hj : j < 216) : sm_ml j ≤ 45 ∧ (sm_kd j = 1 → sm_o j < 12) := by
  have := List.all_eq_true.mp sm_ml_le j (List.mem_range.mpr hj)
  rw [Bool.and_eq_true, decide_eq_true_eq, Bool.or_eq_true, decide_eq_true_eq] at this
  refine ⟨this.1, fun q => this.2.resolve_left (fun z => ?_)⟩
  rw [q] at z
  cases z
theorem sm_no {α : Type} {q : α} {A : Prop} (h : (none : Option α) = some q) : A := by cases h
theorem sm_no2 {α β : Type} {a : α} {b : β} {A : Prop} (h : (some (Sum.inl a) : Option (α ⊕ β)) = some (Sum.inr b)) : A := by cases h
set_option maxHeartbeats 4000000 in
theorem sm_step (hx : p.tables.exec = Jvm.exec) (hb : c.code = sm_b i) (hml : c.maxLocals = sm_ml i) (hown : s.vm.findClass (sm_cn (sm_o i)) = some m.cls) (hts : ∀ w ∈ sm_W, w.before args s = true) (hE : sm_En base tL tG s) (hX : ∀ q, X = some q → va_X bS q.1 q.2 s s.heap ∧ bS < base) (hin : sm_kd i = 2 → meth.name = "<init>") (hs : s.heap.size = base + N0) (hR : d + 1 ≤ R.frames ∧ 64 * (d + 1) ≤ R.locals) (hNf : Nf - N0 ≤ R.cells ∧ sm_sl Nf - sm_sl N0 ≤ R.slots) (hC : sm_CM l D cyI cyB base tL tG bS d C)
    {t t1 : sm_St} (h : sm_S C X i t = some (.inr t1)) (hle : t1.2.2.2.1 ≤ Nf) (g : sm_Go p l e R s m args below meth c Q D cyI cyB base (sm_rho base tL tG bS) (sm_ml i) N0 t1) : sm_Go p l e R s m args below meth c Q D cyI cyB base (sm_rho base tL tG bS) (sm_ml i) N0 t := by
  obtain ⟨pc, ls, st, N, I, L, P⟩ := t
  unfold sm_S at h
  dsimp only at h
  cases hd : decode (sm_b i) pc with
  | error _ => rw [hd] at h; cases h
  | ok q =>
  obtain ⟨ins, len⟩ := q
  rw [hd] at h
  have h9 := sm_if h
  clear h
  obtain ⟨hlen, h⟩ := h9
  dsimp only at h hlen
  have e1 : ∀ n, n ≠ 0 → sm_len ins = n → n = len := fun n h0 hn => by rcases hlen with q | q <;> omega
  cases ins with
  | iconst n =>
    obtain rfl := e1 1 (by decide) rfl
    obtain rfl := Sum.inr.inj (sm_nx_eq h)
    exact fun H locs lsr hk hl hn => lv_iconst hx hb hd rfl (g H locs lsr hk hl hn)
  | bipush n =>
    obtain rfl := e1 2 (by decide) rfl
    obtain rfl := Sum.inr.inj (sm_nx_eq h)
    exact fun H locs lsr hk hl hn => lv_bipush hx hb hd rfl (g H locs lsr hk hl hn)
  | sipush n =>
    obtain rfl := e1 3 (by decide) rfl
    obtain rfl := Sum.inr.inj (sm_nx_eq h)
    exact fun H locs lsr hk hl hn => lv_sipush hx hb hd rfl (g H locs lsr hk hl hn)
  | lconst n =>
    obtain rfl := e1 1 (by decide) rfl
    obtain rfl := Sum.inr.inj (sm_nx_eq h)
    exact fun H locs lsr hk hl hn => lv_lconst hx hb hd rfl (g H locs lsr hk hl hn)
  | aconst_null =>
    obtain rfl := e1 1 (by decide) rfl
    obtain rfl := Sum.inr.inj (sm_nx_eq h)
    exact fun H locs lsr hk hl hn => lv_null hx hb hd (g H locs lsr hk hl hn)
  | ldc x =>
    obtain rfl := e1 2 (by decide) rfl
    cases hq : sm_ki (sm_o i) x with
    | none => unfold sm_X at h; dsimp only at h; rw [hq] at h; cases h
    | some q =>
      obtain ⟨v, z⟩ := q
      unfold sm_X at h; dsimp only at h; rw [hq] at h
      obtain rfl := Sum.inr.inj (sm_nx_eq h)
      exact fun H locs lsr hk hl hn => lv_ldc hx hb hown (hts _ (sm_ki_in hq)) hd (g H locs lsr hk hl hn)
  | ldc_w x =>
    obtain rfl := e1 3 (by decide) rfl
    cases hq : sm_ki (sm_o i) x with
    | none => unfold sm_X at h; dsimp only at h; rw [hq] at h; cases h
    | some q =>
      obtain ⟨v, z⟩ := q
      unfold sm_X at h; dsimp only at h; rw [hq] at h
      obtain rfl := Sum.inr.inj (sm_nx_eq h)
      exact fun H locs lsr hk hl hn => lv_ldcw hx hb hown (hts _ (sm_ki_in hq)) hd (g H locs lsr hk hl hn)
  | ldc2_w x =>
    obtain rfl := e1 3 (by decide) rfl
    cases hq : sm_kl (sm_o i) x with
    | none => unfold sm_X at h; dsimp only at h; rw [hq] at h; cases h
    | some q =>
      obtain ⟨v, z⟩ := q
      unfold sm_X at h; dsimp only at h; rw [hq] at h
      obtain rfl := Sum.inr.inj (sm_nx_eq h)
      exact fun H locs lsr hk hl hn => lv_ldc2 hx hb hown (hts _ (sm_kl_in hq)) hd (g H locs lsr hk hl hn)
  | iload_n n =>
    obtain rfl := e1 1 (by decide) rfl
    obtain ⟨x, hv, h⟩ := sm_ldi_eq h
    obtain rfl := Sum.inr.inj (sm_nx_eq h)
    exact fun H locs lsr hk hl hn => lv_iload_n hx hb hd rfl (hl.2.2 n _ hv) (g H locs lsr hk hl hn)
  | iload n =>
    obtain rfl := e1 2 (by decide) rfl
    obtain ⟨x, hv, h⟩ := sm_ldi_eq h
    obtain rfl := Sum.inr.inj (sm_nx_eq h)
    exact fun H locs lsr hk hl hn => lv_iload hx hb hd (hl.2.2 n _ hv) (g H locs lsr hk hl hn)
  | lload_n n =>
    obtain rfl := e1 1 (by decide) rfl
    obtain ⟨x, hv, h⟩ := sm_ldl_eq h
    obtain rfl := Sum.inr.inj (sm_nx_eq h)
    exact fun H locs lsr hk hl hn => lv_lload_n hx hb hd rfl (hl.2.2 n _ hv) (g H locs lsr hk hl hn)
  | lload n =>
    obtain rfl := e1 2 (by decide) rfl
    obtain ⟨x, hv, h⟩ := sm_ldl_eq h
    obtain rfl := Sum.inr.inj (sm_nx_eq h)
    exact fun H locs lsr hk hl hn => lv_lload hx hb hd (hl.2.2 n _ hv) (g H locs lsr hk hl hn)
  | aload_n n =>
    obtain rfl := e1 1 (by decide) rfl
    unfold sm_X at h
    dsimp only at h
    rcases sm_lda_eq h with ⟨x, hv, h⟩ | ⟨hv, h⟩
    · obtain rfl := Sum.inr.inj (sm_nx_eq h)
      exact fun H locs lsr hk hl hn => lv_aload_n hx hb hd rfl (hl.2.2 n _ hv) (g H locs lsr hk hl hn)
    · obtain rfl := Sum.inr.inj (sm_nx_eq h)
      exact fun H locs lsr hk hl hn => lv_aload_nN hx hb hd rfl (hl.2.2 n _ hv) (g H locs lsr hk hl hn)
  | aload n =>
    obtain rfl := e1 2 (by decide) rfl
    unfold sm_X at h
    dsimp only at h
    rcases sm_lda_eq h with ⟨x, hv, h⟩ | ⟨hv, h⟩
    · obtain rfl := Sum.inr.inj (sm_nx_eq h)
      exact fun H locs lsr hk hl hn => lv_aload hx hb hd (hl.2.2 n _ hv) (g H locs lsr hk hl hn)
    · obtain rfl := Sum.inr.inj (sm_nx_eq h)
      exact fun H locs lsr hk hl hn => lv_aloadN hx hb hd (hl.2.2 n _ hv) (g H locs lsr hk hl hn)
  | istore_n n =>
    obtain rfl := e1 1 (by decide) rfl
    obtain ⟨x, r, rfl, h⟩ := sm_p1_eq h
    obtain ⟨hn1, h⟩ := sm_if h
    obtain rfl := Sum.inr.inj (sm_nx_eq h)
    exact fun H locs lsr hk hl hn => lv_istore_n hx hb hd rfl (sm_lh_has hl) hn1 rfl (fun ls1 hl1 => g H locs ls1 hk (sm_lh_1 (v := .int x) hl1) hn)
  | istore n =>
    obtain rfl := e1 2 (by decide) rfl
    obtain ⟨x, r, rfl, h⟩ := sm_p1_eq h
    obtain ⟨hn1, h⟩ := sm_if h
    obtain rfl := Sum.inr.inj (sm_nx_eq h)
    exact fun H locs lsr hk hl hn => lv_istore hx hb hd (sm_lh_has hl) hn1 rfl (fun ls1 hl1 => g H locs ls1 hk (sm_lh_1 (v := .int x) hl1) hn)
  | lstore_n n =>
    obtain rfl := e1 1 (by decide) rfl
    obtain ⟨x, r, rfl, h⟩ := sm_q1_eq h
    obtain ⟨hn1, h⟩ := sm_if h
    obtain rfl := Sum.inr.inj (sm_nx_eq h)
    exact fun H locs lsr hk hl hn => lv_lstore_n hx hb hd rfl (sm_lh_has hl) hn1 rfl (fun ls1 hl1 => g H locs ls1 hk (sm_lh_2 (v := .long x) hl1) hn)
  | lstore n =>
    obtain rfl := e1 2 (by decide) rfl
    obtain ⟨x, r, rfl, h⟩ := sm_q1_eq h
    obtain ⟨hn1, h⟩ := sm_if h
    obtain rfl := Sum.inr.inj (sm_nx_eq h)
    exact fun H locs lsr hk hl hn => lv_lstore hx hb hd (sm_lh_has hl) hn1 rfl (fun ls1 hl1 => g H locs ls1 hk (sm_lh_2 (v := .long x) hl1) hn)
  | astore_n n =>
    obtain rfl := e1 1 (by decide) rfl
    unfold sm_X at h
    dsimp only at h
    rcases sm_pa_eq h with ⟨x, r, rfl, h⟩ | ⟨r, rfl, h⟩
    · obtain ⟨hn1, h⟩ := sm_if h
      obtain rfl := Sum.inr.inj (sm_nx_eq h)
      exact fun H locs lsr hk hl hn => lv_astore_n hx hb hd rfl (sm_lh_has hl) hn1 rfl (fun ls1 hl1 => g H locs ls1 hk (sm_lh_1 (v := .ref x) hl1) hn)
    · obtain ⟨hn1, h⟩ := sm_if h
      obtain rfl := Sum.inr.inj (sm_nx_eq h)
      exact fun H locs lsr hk hl hn => lv_astore_nN hx hb hd rfl (sm_lh_has hl) hn1 rfl (fun ls1 hl1 => g H locs ls1 hk (sm_lh_1 (v := .null) hl1) hn)
  | astore n =>
    obtain rfl := e1 2 (by decide) rfl
    unfold sm_X at h
    dsimp only at h
    rcases sm_pa_eq h with ⟨x, r, rfl, h⟩ | ⟨r, rfl, h⟩
    · obtain ⟨hn1, h⟩ := sm_if h
      obtain rfl := Sum.inr.inj (sm_nx_eq h)
      exact fun H locs lsr hk hl hn => lv_astore hx hb hd (sm_lh_has hl) hn1 rfl (fun ls1 hl1 => g H locs ls1 hk (sm_lh_1 (v := .ref x) hl1) hn)
    · obtain ⟨hn1, h⟩ := sm_if h
      obtain rfl := Sum.inr.inj (sm_nx_eq h)
      exact fun H locs lsr hk hl hn => lv_astoreN hx hb hd (sm_lh_has hl) hn1 rfl (fun ls1 hl1 => g H locs ls1 hk (sm_lh_1 (v := .null) hl1) hn)
  | iinc n z =>
    obtain rfl := e1 3 (by decide) rfl
    obtain ⟨x, hv, h⟩ := sm_ldi_eq h
    obtain ⟨hn1, h⟩ := sm_if h
    obtain rfl := Sum.inr.inj (sm_nx_eq h)
    intro H locs lsr hk hl hn
    obtain ⟨k, hk1⟩ := sm_iinc_get (ρ := sm_rho base tL tG bS) hv
    exact lv_iinc hx hb hd (sm_lh_has hl) hk1 rfl hn1 rfl (fun ls1 hl1 => g H locs ls1 hk (sm_lh_1 (v := .int (x + Int32.ofInt z)) hl1) hn)
  | iadd =>
    obtain rfl := e1 1 (by decide) rfl
    obtain ⟨x, y, r, rfl, h⟩ := sm_p2_eq h
    obtain rfl := Sum.inr.inj (sm_nx_eq h)
    exact fun H locs lsr hk hl hn => lv_iadd hx hb hd (g H locs lsr hk hl hn)
  | isub =>
    obtain rfl := e1 1 (by decide) rfl
    obtain ⟨x, y, r, rfl, h⟩ := sm_p2_eq h
    obtain rfl := Sum.inr.inj (sm_nx_eq h)
    exact fun H locs lsr hk hl hn => lv_isub hx hb hd (g H locs lsr hk hl hn)
  | imul =>
    obtain rfl := e1 1 (by decide) rfl
    obtain ⟨x, y, r, rfl, h⟩ := sm_p2_eq h
    obtain rfl := Sum.inr.inj (sm_nx_eq h)
    exact fun H locs lsr hk hl hn => lv_imul hx hb hd (g H locs lsr hk hl hn)
  | iand =>
    obtain rfl := e1 1 (by decide) rfl
    obtain ⟨x, y, r, rfl, h⟩ := sm_p2_eq h
    obtain rfl := Sum.inr.inj (sm_nx_eq h)
    exact fun H locs lsr hk hl hn => lv_iand hx hb hd (g H locs lsr hk hl hn)
  | ior =>
    obtain rfl := e1 1 (by decide) rfl
    obtain ⟨x, y, r, rfl, h⟩ := sm_p2_eq h
    obtain rfl := Sum.inr.inj (sm_nx_eq h)
    exact fun H locs lsr hk hl hn => lv_ior hx hb hd (g H locs lsr hk hl hn)
  | ixor =>
    obtain rfl := e1 1 (by decide) rfl
    obtain ⟨x, y, r, rfl, h⟩ := sm_p2_eq h
    obtain rfl := Sum.inr.inj (sm_nx_eq h)
    exact fun H locs lsr hk hl hn => lv_ixor hx hb hd (g H locs lsr hk hl hn)
  | ishl =>
    obtain rfl := e1 1 (by decide) rfl
    obtain ⟨x, y, r, rfl, h⟩ := sm_p2_eq h
    obtain rfl := Sum.inr.inj (sm_nx_eq h)
    exact fun H locs lsr hk hl hn => lv_ishl hx hb hd (g H locs lsr hk hl hn)
  | ishr =>
    obtain rfl := e1 1 (by decide) rfl
    obtain ⟨x, y, r, rfl, h⟩ := sm_p2_eq h
    obtain rfl := Sum.inr.inj (sm_nx_eq h)
    exact fun H locs lsr hk hl hn => lv_ishr hx hb hd (g H locs lsr hk hl hn)
  | iushr =>
    obtain rfl := e1 1 (by decide) rfl
    obtain ⟨x, y, r, rfl, h⟩ := sm_p2_eq h
    obtain rfl := Sum.inr.inj (sm_nx_eq h)
    exact fun H locs lsr hk hl hn => lv_iushr hx hb hd rfl (g H locs lsr hk hl hn)
  | ladd =>
    obtain rfl := e1 1 (by decide) rfl
    obtain ⟨x, y, r, rfl, h⟩ := sm_q2_eq h
    obtain rfl := Sum.inr.inj (sm_nx_eq h)
    exact fun H locs lsr hk hl hn => lv_ladd hx hb hd (g H locs lsr hk hl hn)
  | lsub =>
    obtain rfl := e1 1 (by decide) rfl
    obtain ⟨x, y, r, rfl, h⟩ := sm_q2_eq h
    obtain rfl := Sum.inr.inj (sm_nx_eq h)
    exact fun H locs lsr hk hl hn => lv_lsub hx hb hd (g H locs lsr hk hl hn)
  | lmul =>
    obtain rfl := e1 1 (by decide) rfl
    obtain ⟨x, y, r, rfl, h⟩ := sm_q2_eq h
    obtain rfl := Sum.inr.inj (sm_nx_eq h)
    exact fun H locs lsr hk hl hn => lv_lmul hx hb hd (g H locs lsr hk hl hn)
  | land =>
    obtain rfl := e1 1 (by decide) rfl
    obtain ⟨x, y, r, rfl, h⟩ := sm_q2_eq h
    obtain rfl := Sum.inr.inj (sm_nx_eq h)
    exact fun H locs lsr hk hl hn => lv_land hx hb hd (g H locs lsr hk hl hn)
  | lor =>
    obtain rfl := e1 1 (by decide) rfl
    obtain ⟨x, y, r, rfl, h⟩ := sm_q2_eq h
    obtain rfl := Sum.inr.inj (sm_nx_eq h)
    exact fun H locs lsr hk hl hn => lv_lor hx hb hd (g H locs lsr hk hl hn)
  | lcmp =>
    obtain rfl := e1 1 (by decide) rfl
    obtain ⟨x, y, r, rfl, h⟩ := sm_q2_eq h
    obtain rfl := Sum.inr.inj (sm_nx_eq h)
    exact fun H locs lsr hk hl hn => W.lcmp hx hb hd (g H locs lsr hk hl hn)
  | idiv =>
    obtain rfl := e1 1 (by decide) rfl
    obtain ⟨x, y, r, rfl, h⟩ := sm_p2_eq h
    obtain ⟨h0, h⟩ := sm_ifn h
    obtain rfl := Sum.inr.inj (sm_nx_eq h)
    exact fun H locs lsr hk hl hn => lv_idiv hx hb hd h0 (g H locs lsr hk hl hn)
  | irem =>
    obtain rfl := e1 1 (by decide) rfl
    obtain ⟨x, y, r, rfl, h⟩ := sm_p2_eq h
    obtain ⟨h0, h⟩ := sm_ifn h
    obtain rfl := Sum.inr.inj (sm_nx_eq h)
    exact fun H locs lsr hk hl hn => lv_irem hx hb hd h0 (g H locs lsr hk hl hn)
  | ldiv =>
    obtain rfl := e1 1 (by decide) rfl
    obtain ⟨x, y, r, rfl, h⟩ := sm_q2_eq h
    obtain ⟨h0, h⟩ := sm_ifn h
    obtain rfl := Sum.inr.inj (sm_nx_eq h)
    exact fun H locs lsr hk hl hn => lv_ldiv hx hb hd h0 (g H locs lsr hk hl hn)
  | lrem =>
    obtain rfl := e1 1 (by decide) rfl
    obtain ⟨x, y, r, rfl, h⟩ := sm_q2_eq h
    obtain ⟨h0, h⟩ := sm_ifn h
    obtain rfl := Sum.inr.inj (sm_nx_eq h)
    exact fun H locs lsr hk hl hn => lv_lrem hx hb hd h0 (g H locs lsr hk hl hn)
  | lshl =>
    obtain rfl := e1 1 (by decide) rfl
    unfold sm_X at h
    dsimp only at h
    split at h
    · obtain rfl := Sum.inr.inj (sm_nx_eq h)
      exact fun H locs lsr hk hl hn => lv_lshl hx hb hd rfl (g H locs lsr hk hl hn)
    · cases h
  | lushr =>
    obtain rfl := e1 1 (by decide) rfl
    unfold sm_X at h
    dsimp only at h
    split at h
    · obtain rfl := Sum.inr.inj (sm_nx_eq h)
      exact fun H locs lsr hk hl hn => lv_lushr hx hb hd rfl (g H locs lsr hk hl hn)
    · cases h
  | i2l =>
    obtain rfl := e1 1 (by decide) rfl
    obtain ⟨x, r, rfl, h⟩ := sm_p1_eq h
    obtain rfl := Sum.inr.inj (sm_nx_eq h)
    exact fun H locs lsr hk hl hn => lv_i2l hx hb hd rfl (g H locs lsr hk hl hn)
  | l2i =>
    obtain rfl := e1 1 (by decide) rfl
    obtain ⟨x, r, rfl, h⟩ := sm_q1_eq h
    obtain rfl := Sum.inr.inj (sm_nx_eq h)
    exact fun H locs lsr hk hl hn => lv_l2i hx hb hd rfl (g H locs lsr hk hl hn)
  | dup =>
    obtain rfl := e1 1 (by decide) rfl
    unfold sm_X at h
    dsimp only at h
    split at h
    · obtain ⟨h1, h⟩ := sm_if h
      obtain rfl := Sum.inr.inj (sm_nx_eq h)
      exact fun H locs lsr hk hl hn => lv_dup hx hb hd (by rw [sm_cv_cat]; exact h1) (g H locs lsr hk hl hn)
    · cases h
  | dup2 =>
    obtain rfl := e1 1 (by decide) rfl
    unfold sm_X at h
    dsimp only at h
    split at h
    · obtain ⟨h1, h⟩ := sm_if h
      obtain rfl := Sum.inr.inj (sm_nx_eq h)
      exact fun H locs lsr hk hl hn => lv_dup2_11 hx hb hd (by rw [sm_cv_cat]; exact h1.1) (by rw [sm_cv_cat]; exact h1.2) (g H locs lsr hk hl hn)
    · cases h
  | pop =>
    obtain rfl := e1 1 (by decide) rfl
    unfold sm_X at h
    dsimp only at h
    split at h
    · obtain ⟨h1, h⟩ := sm_if h
      obtain rfl := Sum.inr.inj (sm_nx_eq h)
      exact fun H locs lsr hk hl hn => lv_pop hx hb hd (by rw [sm_cv_cat]; exact h1) (g H locs lsr hk hl hn)
    · cases h
  | goto off =>
    obtain rfl := e1 3 (by decide) rfl
    obtain ⟨tgt, ht, h⟩ := sm_to_eq h
    obtain rfl := Sum.inr.inj h
    exact fun H locs lsr hk hl hn => lv_goto hx hb hd ht (g H locs lsr hk hl hn)
  | ifCond cnd off =>
    obtain rfl := e1 3 (by decide) rfl
    obtain ⟨x, r, rfl, h⟩ := sm_p1_eq h
    obtain ⟨tgt, ht, h⟩ := sm_br_eq h
    obtain rfl := Sum.inr.inj h
    cases cnd with
    | eq =>
      by_cases hc : x = 0
      · rw [show sm_ic .eq x 0 = true from decide_eq_true hc] at g
        exact fun H locs lsr hk hl hn => lv_if_eq hx hb hd ht (fun _ => g H locs lsr hk hl hn) (fun q => absurd hc q)
      · rw [show sm_ic .eq x 0 = false from decide_eq_false hc] at g
        exact fun H locs lsr hk hl hn => lv_if_eq hx hb hd ht (fun q => absurd q hc) (fun _ => g H locs lsr hk hl hn)
    | ne =>
      by_cases hc : x = 0
      · rw [show sm_ic .ne x 0 = false from decide_eq_false (fun q => q hc)] at g
        exact fun H locs lsr hk hl hn => lv_if_ne hx hb hd ht (fun q => absurd hc q) (fun _ => g H locs lsr hk hl hn)
      · rw [show sm_ic .ne x 0 = true from decide_eq_true hc] at g
        exact fun H locs lsr hk hl hn => lv_if_ne hx hb hd ht (fun _ => g H locs lsr hk hl hn) (fun q => absurd q hc)
    | lt =>
      by_cases hc : x < 0
      · rw [show sm_ic .lt x 0 = true from decide_eq_true hc] at g
        exact fun H locs lsr hk hl hn => lv_if_lt hx hb hd ht (fun _ => g H locs lsr hk hl hn) (fun q => absurd hc q)
      · rw [show sm_ic .lt x 0 = false from decide_eq_false hc] at g
        exact fun H locs lsr hk hl hn => lv_if_lt hx hb hd ht (fun q => absurd q hc) (fun _ => g H locs lsr hk hl hn)
    | ge =>
      by_cases hc : 0 ≤ x
      · rw [show sm_ic .ge x 0 = true from decide_eq_true hc] at g
        exact fun H locs lsr hk hl hn => lv_if_ge hx hb hd ht (fun _ => g H locs lsr hk hl hn) (fun q => absurd hc q)
      · rw [show sm_ic .ge x 0 = false from decide_eq_false hc] at g
        exact fun H locs lsr hk hl hn => lv_if_ge hx hb hd ht (fun q => absurd q hc) (fun _ => g H locs lsr hk hl hn)
    | gt =>
      by_cases hc : 0 < x
      · rw [show sm_ic .gt x 0 = true from decide_eq_true hc] at g
        exact fun H locs lsr hk hl hn => lv_if_gt hx hb hd ht (fun _ => g H locs lsr hk hl hn) (fun q => absurd hc q)
      · rw [show sm_ic .gt x 0 = false from decide_eq_false hc] at g
        exact fun H locs lsr hk hl hn => lv_if_gt hx hb hd ht (fun q => absurd q hc) (fun _ => g H locs lsr hk hl hn)
    | le =>
      by_cases hc : x ≤ 0
      · rw [show sm_ic .le x 0 = true from decide_eq_true hc] at g
        exact fun H locs lsr hk hl hn => lv_if_le hx hb hd ht (fun _ => g H locs lsr hk hl hn) (fun q => absurd hc q)
      · rw [show sm_ic .le x 0 = false from decide_eq_false hc] at g
        exact fun H locs lsr hk hl hn => lv_if_le hx hb hd ht (fun q => absurd q hc) (fun _ => g H locs lsr hk hl hn)
  | if_icmp cnd off =>
    obtain rfl := e1 3 (by decide) rfl
    obtain ⟨x, y, r, rfl, h⟩ := sm_p2_eq h
    obtain ⟨tgt, ht, h⟩ := sm_br_eq h
    obtain rfl := Sum.inr.inj h
    cases cnd with
    | eq =>
      by_cases hc : x = y
      · rw [show sm_ic .eq x y = true from decide_eq_true hc] at g
        exact fun H locs lsr hk hl hn => lv_icmp_eq hx hb hd ht (fun _ => g H locs lsr hk hl hn) (fun q => absurd hc q)
      · rw [show sm_ic .eq x y = false from decide_eq_false hc] at g
        exact fun H locs lsr hk hl hn => lv_icmp_eq hx hb hd ht (fun q => absurd q hc) (fun _ => g H locs lsr hk hl hn)
    | ne =>
      by_cases hc : x = y
      · rw [show sm_ic .ne x y = false from decide_eq_false (fun q => q hc)] at g
        exact fun H locs lsr hk hl hn => lv_icmp_ne hx hb hd ht (fun q => absurd hc q) (fun _ => g H locs lsr hk hl hn)
      · rw [show sm_ic .ne x y = true from decide_eq_true hc] at g
        exact fun H locs lsr hk hl hn => lv_icmp_ne hx hb hd ht (fun _ => g H locs lsr hk hl hn) (fun q => absurd q hc)
    | lt =>
      by_cases hc : x < y
      · rw [show sm_ic .lt x y = true from decide_eq_true hc] at g
        exact fun H locs lsr hk hl hn => lv_icmp_lt hx hb hd ht (fun _ => g H locs lsr hk hl hn) (fun q => absurd hc q)
      · rw [show sm_ic .lt x y = false from decide_eq_false hc] at g
        exact fun H locs lsr hk hl hn => lv_icmp_lt hx hb hd ht (fun q => absurd q hc) (fun _ => g H locs lsr hk hl hn)
    | ge =>
      by_cases hc : y ≤ x
      · rw [show sm_ic .ge x y = true from decide_eq_true hc] at g
        exact fun H locs lsr hk hl hn => lv_icmp_ge hx hb hd ht (fun _ => g H locs lsr hk hl hn) (fun q => absurd hc q)
      · rw [show sm_ic .ge x y = false from decide_eq_false hc] at g
        exact fun H locs lsr hk hl hn => lv_icmp_ge hx hb hd ht (fun q => absurd q hc) (fun _ => g H locs lsr hk hl hn)
    | gt =>
      by_cases hc : y < x
      · rw [show sm_ic .gt x y = true from decide_eq_true hc] at g
        exact fun H locs lsr hk hl hn => lv_icmp_gt hx hb hd ht (fun _ => g H locs lsr hk hl hn) (fun q => absurd hc q)
      · rw [show sm_ic .gt x y = false from decide_eq_false hc] at g
        exact fun H locs lsr hk hl hn => lv_icmp_gt hx hb hd ht (fun q => absurd q hc) (fun _ => g H locs lsr hk hl hn)
    | le =>
      by_cases hc : x ≤ y
      · rw [show sm_ic .le x y = true from decide_eq_true hc] at g
        exact fun H locs lsr hk hl hn => lv_icmp_le hx hb hd ht (fun _ => g H locs lsr hk hl hn) (fun q => absurd hc q)
      · rw [show sm_ic .le x y = false from decide_eq_false hc] at g
        exact fun H locs lsr hk hl hn => lv_icmp_le hx hb hd ht (fun q => absurd q hc) (fun _ => g H locs lsr hk hl hn)
  | ifnull off =>
    obtain rfl := e1 3 (by decide) rfl
    unfold sm_X at h
    dsimp only at h
    rcases sm_pa_eq h with ⟨x, r, rfl, h⟩ | ⟨r, rfl, h⟩
    · obtain ⟨tgt, ht, h⟩ := sm_br_eq h
      obtain rfl := Sum.inr.inj h
      exact fun H locs lsr hk hl hn => lv_ifnull hx hb hd (g H locs lsr hk hl hn)
    · obtain ⟨tgt, ht, h⟩ := sm_br_eq h
      obtain rfl := Sum.inr.inj h
      exact fun H locs lsr hk hl hn => lv_ifnullN hx hb hd ht (g H locs lsr hk hl hn)
  | ifnonnull off =>
    obtain rfl := e1 3 (by decide) rfl
    unfold sm_X at h
    dsimp only at h
    rcases sm_pa_eq h with ⟨x, r, rfl, h⟩ | ⟨r, rfl, h⟩
    · obtain ⟨tgt, ht, h⟩ := sm_br_eq h
      obtain rfl := Sum.inr.inj h
      exact fun H locs lsr hk hl hn => lv_ifnonnull hx hb hd ht (g H locs lsr hk hl hn)
    · obtain ⟨tgt, ht, h⟩ := sm_br_eq h
      obtain rfl := Sum.inr.inj h
      exact fun H locs lsr hk hl hn => lv_ifnonnullN hx hb hd (g H locs lsr hk hl hn)
  | tableswitch dflt lo hi offs =>
    unfold sm_X at h
    dsimp only at h
    have h9 := sm_p1_eq h
    clear h
    obtain ⟨x, r, rfl, h⟩ := h9
    by_cases ho : x.toInt < lo ∨ hi < x.toInt
    · rw [if_pos ho] at h
      obtain ⟨tgt, ht, h⟩ := sm_to_eq h
      obtain rfl := Sum.inr.inj h
      exact fun H locs lsr hk hl hn => lv_tableOut hx hb hd ho ht (g H locs lsr hk hl hn)
    · rw [if_neg ho] at h
      cases hoff : offs[(x.toInt - lo).toNat]? with
      | none => rw [hoff] at h; cases h
      | some off =>
        rw [hoff] at h
        obtain ⟨tgt, ht, h⟩ := sm_to_eq h
        obtain rfl := Sum.inr.inj h
        exact fun H locs lsr hk hl hn => lv_tableIn hx hb hd (fun q => ho (Or.inl q)) (fun q => ho (Or.inr q)) hoff ht (g H locs lsr hk hl hn)
  | lookupswitch dflt ps =>
    obtain ⟨x, r, rfl, h⟩ := sm_p1_eq h
    obtain ⟨h0, h⟩ := sm_if h
    obtain ⟨tgt, ht, h⟩ := sm_to_eq h
    obtain rfl := Sum.inr.inj h
    exact fun H locs lsr hk hl hn => lv_lookup hx hb hd h0 rfl ht (g H locs lsr hk hl hn)
  | getfield x =>
    obtain rfl := e1 3 (by decide) rfl
    unfold sm_X at h
    dsimp only at h
    cases hf : sm_fld (sm_o i) x with
    | none => rw [hf] at h; cases h
    | some q =>
      obtain ⟨c0, k, z⟩ := q
      rw [hf] at h
      dsimp only at h
      split at h
      · obtain ⟨h1, h⟩ := sm_if h
        obtain rfl := Sum.inr.inj (sm_nx_eq h)
        exact sm_a_get hx hb hown hts hd hf h1.1 h1.2 g
      · cases h
  | putfield x =>
    obtain rfl := e1 3 (by decide) rfl
    unfold sm_X at h
    dsimp only at h
    cases hf : sm_fld (sm_o i) x with
    | none => rw [hf] at h; cases h
    | some q =>
      obtain ⟨c0, k, z⟩ := q
      rw [hf] at h
      dsimp only at h
      split at h
      · obtain ⟨⟨h1, h2, h3⟩, h⟩ := sm_if h
        obtain rfl := Sum.inr.inj (sm_nx_eq h)
        rename_i v a r
        refine sm_a_put hx hb hown hts hin hd hf h1.1 h1.2 (Or.inl h3) (fun ty hty => ?_) (fun b hb => funext fun j => by unfold sm_up; simp [hb]) (fun _ _ => rfl) (fun _ _ => rfl) (fun j hj => by unfold sm_fv sm_up; simp [hj]) ?_ g
        · rcases h2 with h2 | ⟨h2, h4⟩
          · rcases hty with ⟨_, rfl⟩ | ⟨q, _⟩ | ⟨q, _⟩ | ⟨q, _⟩
            · exact ⟨rfl, rfl⟩
            all_goals omega
          · rcases hty with ⟨q, _⟩ | ⟨_, rfl⟩ | ⟨q, _⟩ | ⟨q, _⟩
            · omega
            · rcases h4 with rfl | rfl <;> exact ⟨rfl, rfl⟩
            all_goals omega
        · unfold sm_fv sm_up
          rw [if_pos (by rcases h2 with h2 | h2 <;> omega)]
          simp
      · obtain ⟨⟨h1, h2, h3⟩, h⟩ := sm_if h
        obtain rfl := Sum.inr.inj (sm_nx_eq h)
        refine sm_a_put hx hb hown hts hin hd hf h1.1 h1.2 (Or.inl h3) (fun ty hty => ?_) (fun _ _ => rfl) (fun b hb => funext fun j => by unfold sm_up; simp [hb]) (fun _ _ => rfl) (fun j hj => by unfold sm_fv sm_up; simp [hj]) ?_ g
        · rcases hty with ⟨q, _⟩ | ⟨q, _⟩ | ⟨_, rfl⟩ | ⟨q, _⟩
          · omega
          · omega
          · exact ⟨rfl, rfl⟩
          · omega
        · unfold sm_fv sm_up
          rw [if_neg (by omega), if_pos h2]
          simp
      · obtain ⟨⟨h1, h2, h3⟩, h⟩ := sm_if h
        obtain rfl := Sum.inr.inj (sm_nx_eq h)
        refine sm_a_put hx hb hown hts hin hd hf h1.1 h1.2 h3 (fun ty hty => ?_) (fun _ _ => rfl) (fun _ _ => rfl) (fun b hb => funext fun j => by unfold sm_up; simp [hb]) (fun j hj => by unfold sm_fv sm_up; simp [hj]) ?_ g
        · rcases hty with ⟨q, _⟩ | ⟨q, _⟩ | ⟨q, _⟩ | ⟨_, q⟩
          · omega
          · omega
          · omega
          · rcases q with ⟨n, rfl⟩ | ⟨n, rfl⟩ <;> exact ⟨rfl, rfl⟩
        · unfold sm_fv sm_up
          rw [if_neg (by omega), if_neg (by omega)]
          simp [va_rf]
      · cases h
  | getstatic x =>
    obtain rfl := e1 3 (by decide) rfl
    unfold sm_X at h
    dsimp only at h
    cases hf : sm_stf (sm_o i) x with
    | none => rw [hf] at h; cases h
    | some q =>
      obtain ⟨k, z⟩ := q
      rw [hf] at h
      obtain rfl := Sum.inr.inj (sm_nx_eq h)
      rcases sm_st_in hf with ⟨rfl, hw⟩ | ⟨rfl, hw⟩
      · exact fun H locs lsr hk hl hn => va_gets hx hb hE.2.2.2.1.1 hk.2.2.1 hown (hts _ hw) (fun _ q => q) hd (g H locs lsr hk hl hn)
      · exact fun H locs lsr hk hl hn => va_gets hx hb hE.2.2.2.2.1 hk.2.2.1 hown (hts _ hw) (fun _ q => q) hd (g H locs lsr hk hl hn)
  | iaload =>
    obtain rfl := e1 1 (by decide) rfl
    unfold sm_X at h
    dsimp only at h
    split at h
    · rename_i x a r
      by_cases ha : a < N
      · rw [if_pos ha] at h
        split at h
        · obtain ⟨h1, h⟩ := sm_if h
          obtain rfl := Sum.inr.inj (sm_nx_eq h)
          exact sm_a_iald hx hb hd ha (by assumption) h1 g
        · cases h
      · rw [if_neg ha] at h
        by_cases h2 : a = 1048576 ∨ a = 1048577
        · rw [if_pos h2] at h
          obtain ⟨h1, h⟩ := sm_if h
          obtain rfl := Sum.inr.inj (sm_nx_eq h)
          rcases h2 with rfl | rfl
          · exact fun H locs lsr hk hl hn => va_ti hx hb hE.2.2.2.1.2 hk.2.2.1 h1 rfl hd (g H locs lsr hk hl hn)
          · exact fun H locs lsr hk hl hn => va_ti hx hb hE.2.2.2.2.2 hk.2.2.1 h1 rfl hd (g H locs lsr hk hl hn)
        · rw [if_neg h2] at h
          by_cases h3 : a = 1048578
          · rw [if_pos h3] at h
            cases hX9 : X with
            | none => rw [hX9] at h; cases h
            | some q =>
              rw [hX9] at h
              obtain ⟨h1, h⟩ := sm_if h
              obtain rfl := Sum.inr.inj (sm_nx_eq h)
              subst h3
              obtain ⟨x1, x2⟩ := hX q hX9
              exact fun H locs lsr hk hl hn => va_sld (A := fun q => base ≤ q) hx hb x1 (show bS < s.heap.size by omega) (show ¬ base ≤ bS by omega) hk.2.2.1 h1 hd (g H locs lsr hk hl hn)
          · rw [if_neg h3] at h; cases h
    · cases h
  | iastore =>
    obtain rfl := e1 1 (by decide) rfl
    unfold sm_X at h
    dsimp only at h
    split at h
    · obtain ⟨ha, h⟩ := sm_if h
      split at h
      · obtain ⟨h1, h⟩ := sm_if h
        obtain rfl := Sum.inr.inj (sm_nx_eq h)
        exact sm_a_iast hx hb hd ha (by assumption) h1 g
      · cases h
    · cases h
  | aaload =>
    obtain rfl := e1 1 (by decide) rfl
    unfold sm_X at h
    dsimp only at h
    split at h
    · obtain ⟨ha, h⟩ := sm_if h
      split at h
      · obtain ⟨h1, h⟩ := sm_if h
        obtain rfl := Sum.inr.inj (sm_nx_eq h)
        exact sm_a_aald hx hb hd ha (by assumption) h1 g
      · cases h
    · cases h
  | aastore =>
    obtain rfl := e1 1 (by decide) rfl
    unfold sm_X at h
    dsimp only at h
    split at h
    · obtain ⟨ha, h⟩ := sm_if h
      split at h
      · obtain ⟨h1, h⟩ := sm_if h
        obtain rfl := Sum.inr.inj (sm_nx_eq h)
        exact sm_a_aast hx hb hd ha.1 ha.2.1 ha.2.2 (by assumption) h1 g
      · cases h
    · cases h
  | arraylength =>
    obtain rfl := e1 1 (by decide) rfl
    unfold sm_X at h
    dsimp only at h
    split at h
    · rename_i a r
      by_cases ha : a < N
      · rw [if_pos ha] at h
        split at h
        · rename_i n hy
          obtain rfl := Sum.inr.inj (sm_nx_eq h)
          intro H locs lsr hk hl hn
          have hw := sm_cw_get (cyI := cyI) (cyB := cyB) (base := base) (ρ := sm_rho base tL tG bS) (I := I) (L := L) (P := P) ha
          rw [sm_ce_i hy] at hw
          have hρ : sm_rho base tL tG bS a = base + a := sm_rho_in (Nat.lt_of_lt_of_le ha hk.2.2.2)
          show W p l e R s m args below meth c H locs (N - N0) (sm_sl N - sm_sl N0) Q (F0 m pc lsr (.ref (sm_rho base tL tG bS a) :: r.map (sm_cv (sm_rho base tL tG bS))))
          rw [hρ]
          exact va_alen hx hb hk.1 hk.2.1 a 0 hw rfl rfl hd (g H locs lsr hk hl hn)
        · cases h
      · rw [if_neg ha] at h
        by_cases h3 : a = 1048578
        · rw [if_pos h3] at h
          cases hX9 : X with
          | none => rw [hX9] at h; cases h
          | some q =>
            rw [hX9] at h
            obtain rfl := Sum.inr.inj (sm_nx_eq h)
            subst h3
            obtain ⟨x1, x2⟩ := hX q hX9
            exact fun H locs lsr hk hl hn => va_slen (A := fun q => base ≤ q) hx hb x1 (show bS < s.heap.size by omega) (show ¬ base ≤ bS by omega) hk.2.2.1 hd (g H locs lsr hk hl hn)
        · rw [if_neg h3] at h; cases h
    · cases h
  | newarray ty =>
    obtain rfl := e1 2 (by decide) rfl
    cases ty with
    | int =>
      obtain ⟨x, r, rfl, h⟩ := sm_p1_eq h
      obtain ⟨h1, h⟩ := sm_if h
      obtain rfl := Sum.inr.inj (sm_nx_eq h)
      exact sm_a_newa hx hb hts hs hNf hd h1.1 h1.2.1 h1.2.2 hle g
    | _ => exact sm_no (show (none : Option (sm_Rs ⊕ sm_St)) = some _ from h)
  | anewarray y =>
    obtain rfl := e1 3 (by decide) rfl
    unfold sm_X at h
    dsimp only at h
    cases hf : sm_nw (sm_o i) y with
    | none => rw [hf] at h; cases h
    | some q =>
      obtain ⟨k, z⟩ := q
      rw [hf] at h
      obtain ⟨x, r, rfl, h⟩ := sm_p1_eq h
      obtain ⟨h1, h⟩ := sm_if h
      obtain rfl := Sum.inr.inj (sm_nx_eq h)
      obtain ⟨a1, a2, a3, a4⟩ := h1
      dsimp only at a4
      subst a4
      exact sm_a_anew hx hb hown hts hE hs hNf hd hf a1 a2 a3 hle g
  | new y =>
    obtain rfl := e1 3 (by decide) rfl
    unfold sm_X at h
    dsimp only at h
    cases hf : sm_nw (sm_o i) y with
    | none => rw [hf] at h; cases h
    | some q =>
      obtain ⟨k, z⟩ := q
      rw [hf] at h
      obtain ⟨h1, h⟩ := sm_if h
      obtain rfl := Sum.inr.inj (sm_nx_eq h)
      exact sm_a_new hx hb hown hts hs hNf hd hf h1.1 h1.2 hle g
  | invokestatic x =>
    obtain rfl := e1 3 (by decide) rfl
    unfold sm_X at h
    dsimp only at h
    cases hf : sm_cal (sm_o i) x with
    | some q =>
      obtain ⟨j, z, k⟩ := q
      rw [hf] at h
      obtain ⟨h1, h⟩ := sm_if h
      exact sm_a_stat hx hb hml hown hts hE hs hR hNf hC hd hf h1 (sm_ml_j (sm_cal_ok hf).1).1 h hle g
    | none =>
      rw [hf] at h
      dsimp only at h
      cases hf2 : sm_ac (sm_o i) x with
      | none => rw [hf2] at h; cases h
      | some z =>
        rw [hf2] at h
        dsimp only at h
        split at h
        · obtain ⟨h1, h⟩ := sm_if h
          split at h
          · obtain ⟨h2, h⟩ := sm_if h
            obtain rfl := Sum.inr.inj (sm_nx_eq h)
            exact sm_a_copy hx hb hml hown hts ⟨by omega, by omega⟩ hd hf2 h1.1.1 h1.1.2.1 h1.1.2.2 (by assumption) (by assumption) h1.2.1 h1.2.2.1 h1.2.2.2 h2.1 h2.2 g
          · cases h
        · cases h
  | invokevirtual x =>
    obtain rfl := e1 3 (by decide) rfl
    unfold sm_X at h
    dsimp only at h
    cases hf : sm_cal (sm_o i) x with
    | none => rw [hf] at h; cases h
    | some q =>
      obtain ⟨j, z, k⟩ := q
      rw [hf] at h
      obtain ⟨h1, h⟩ := sm_if h
      obtain ⟨⟨a1, a2⟩, a3⟩ := h1
      dsimp only at a2
      subst a2
      exact sm_a_virt hx hb hml hown hts hE hs hR hNf hC hd hf a1 a3 (sm_ml_j (sm_cal_ok hf).1).1 ((sm_ml_j (sm_cal_ok hf).1).2 a1) h hle g
  | invokespecial x =>
    obtain rfl := e1 3 (by decide) rfl
    unfold sm_X at h
    dsimp only at h
    cases hf : sm_cal (sm_o i) x with
    | some q =>
      obtain ⟨j, z, k⟩ := q
      rw [hf] at h
      obtain ⟨h1, h⟩ := sm_if h
      exact sm_a_spec hx hb hml hown hts hE hs hR hNf hC hd hf h1.1 h1.2 (sm_ml_j (sm_cal_ok hf).1).1 h hle g
    | none =>
      rw [hf] at h
      dsimp only at h
      cases hf2 : sm_ob (sm_o i) x with
      | none => rw [hf2] at h; cases h
      | some z =>
        rw [hf2] at h
        dsimp only at h
        split at h
        · rename_i a r
          have h9 := sm_if h
          clear h
          obtain ⟨h1, h⟩ := h9
          obtain rfl := Sum.inr.inj (sm_nx_eq h)
          intro H locs lsr hk hl hn
          have hcs := sm_cat_sum (sm_rho base tL tG bS) h1
          refine W.objInit (g := F0 m pc lsr (.ref (sm_rho base tL tG bS a) :: r.map (sm_cv (sm_rho base tL tG bS)))) hx hb hown (hts _ (sm_ob_in hf2)) (hts _ sm_w_oi) (hts _ sm_w_oc) rfl (by rw [hml]; exact hl.1) rfl hd (by omega) (by have := lv_room (m := m) (pc := pc) (ls := lsr) (rest := Value.ref (sm_rho base tL tG bS a) :: r.map (sm_cv (sm_rho base tL tG bS))) hcs; omega) ?_
          exact g H locs lsr hk hl hn
        · cases h
  | ireturn =>
    unfold sm_X at h
    dsimp only at h
    split at h
    · exact sm_no2 (sm_if h).2
    · exact sm_no h
  | lreturn =>
    unfold sm_X at h
    dsimp only at h
    split at h
    · exact sm_no2 (sm_if h).2
    · exact sm_no h
  | areturn =>
    unfold sm_X at h
    dsimp only at h
    split at h
    · exact sm_no2 (sm_if h).2
    · exact sm_no2 (sm_if h).2
    · exact sm_no h
  | return_ =>
    unfold sm_X at h
    dsimp only at h
    split at h
    · exact sm_no2 (sm_if h).2
    · exact sm_no h
  | _ => exact sm_no (show (none : Option (sm_Rs ⊕ sm_St)) = some _ from h)
end SMM
