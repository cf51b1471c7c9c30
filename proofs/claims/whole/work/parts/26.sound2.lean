set_option maxRecDepth 100000 in
theorem sm_w_arr : Cond.arrayClass .int ∈ sm_W := sm_wd_in (i := 83) (by decide +kernel)
set_option maxRecDepth 100000 in
theorem sm_w_oi : Cond.instanceMethod objectInit ∈ sm_W := sm_wd_in (i := 68) (by decide +kernel)
set_option maxRecDepth 100000 in
theorem sm_w_oc : Cond.code objectInit ⟨#[0xb1]⟩ 1 none ∈ sm_W := sm_wd_in (i := 69) (by decide +kernel)
set_option maxRecDepth 100000 in
theorem sm_w_as : Cond.static arraycopyName ∈ sm_W := sm_wd_in (i := 793) (by decide +kernel)
set_option maxRecDepth 100000 in
theorem sm_w_an : Cond.native arraycopyName ∈ sm_W := sm_wd_in (i := 794) (by decide +kernel)
set_option maxRecDepth 100000 in
theorem sm_w_sy : Cond.initialized "java/lang/System" ∈ sm_W := sm_wd_in (i := 61) (by decide +kernel)
theorem sm_good {j : Nat} (hj : j < 216) : GoodIn sm_W (sm_ws j) := by
  intro w hw
  have h : w ∈ sm_W := by
    rcases List.mem_cons.mp hw with rfl | h
    · exact (sm_m_facts hj).1
    · exact h
  exact ⟨h, good_of_word (List.mem_filter.mp h).2⟩
section SMT
variable {p : Program} {l : Launch} {e : Env} {R : Room} {s : State} {m : MethodId} {args : Array Value} {below : List Frame} {meth : Method} {c : Code} {Q : State → Prop} {D : va_G} {cyI cyB : ClassId} {base tL tG bS N0 i pc N Nf d : Nat} {ls : List (Option Value)} {r : List Value} {I : sm_Im} {L : sm_Lm} {P : sm_Pm}
theorem sm_kept {H H1 : Heap} {h : Nat} {ρ : Nat → Nat} (hP : va_P D vwCl (sm_cw cyI cyB base ρ N I L P) H) (hsz : H.size = h) (o1 : ∀ q : Nat, q < h → H1[q]? = H[q]?) : va_P D vwCl (sm_cw cyI cyB base ρ N I L P) H1 :=
  hP.kept (fun k x hx => o1 x.1 (by rw [← hsz]; exact (hP k x hx).lt))
theorem sm_S_new {H H1 : Heap} {locs : List Loc} {h : Nat} (hS : va_S (fun q => base ≤ q) s.heap H locs) (hsz : H.size = h) (z1 : H1.size = h + 1) (o1 : ∀ q : Nat, q < h → H1[q]? = H[q]?) : va_S (fun q => base ≤ q) s.heap H1 locs :=
  ⟨Nat.le_trans hS.1 (by omega), fun x h1 h2 => (o1 x (by have := hS.1; omega)).trans (hS.2.1 x h1 h2), hS.2.2⟩
theorem sm_P_new {H1 : Heap} {ρ : Nat → Nat} {I1 : sm_Im} {L1 : sm_Lm} {P1 : sm_Pm} (hP : va_P D vwCl (sm_cw cyI cyB base ρ N I L P) H1) (ha : va_at D vwCl (base + N, sm_ce cyI cyB ρ I1 L1 P1 N) H1) (h1 : ∀ k, k ≠ N → I1 k = I k) (h2 : ∀ k, k ≠ N → L1 k = L k) (h3 : ∀ k, k ≠ N → P1 k = P k) : va_P D vwCl (sm_cw cyI cyB base ρ (N + 1) I1 L1 P1) H1 := by
  rw [← sm_cw_add (e := sm_ce cyI cyB ρ I1 L1 P1 N) rfl h1 h2 h3]
  refine hP.app fun k x hx => ?_
  have hz : k < 1 := (List.getElem?_eq_some_iff.mp hx).1
  rw [show k = 0 by omega] at hx
  cases hx
  exact ha
theorem sm_a_new (hx : p.tables.exec = Jvm.exec) (hb : c.code = sm_b i) (hown : s.vm.findClass (sm_cn (sm_o i)) = some m.cls) (hts : ∀ w ∈ sm_W, w.before args s = true) (hs : s.heap.size = base + N0) (hNf : Nf - N0 ≤ R.cells ∧ sm_sl Nf - sm_sl N0 ≤ R.slots) {x k z : Nat} (hd : decode (sm_b i) pc = .ok (.new x, 3)) (hf : sm_nw (sm_o i) x = some (k, z)) (hN1 : N < sm_NN) (hy : sm_lay N = .inl k) (hle : N + 1 ≤ Nf)
    (g : sm_Go p l e R s m args below meth c Q D cyI cyB base (sm_rho base tL tG bS) (sm_ml i) N0 (pc + 3, ls, .ref N :: r, N + 1, sm_z I N 0, sm_z L N 0, sm_z P N none)) : sm_Go p l e R s m args below meth c Q D cyI cyB base (sm_rho base tL tG bS) (sm_ml i) N0 (pc, ls, r, N, I, L, P) := by
  intro H locs lsr hk hl hn T hT X
  obtain ⟨hK, hP, hS, hN⟩ := id hk
  dsimp only at hN hP hn X
  subst hT
  have hsz := sm_hsz X hs hn hP
  obtain ⟨hk12, hclink⟩ := sm_nw_in hf
  obtain ⟨⟨C, TT, n⟩, hq⟩ := sm_vw hk12
  obtain ⟨e1, e2, e3, e4, e5, e6, -⟩ := sm_cls_ok hq
  dsimp only at e1 e2 e3 e4 e5 e6
  have hKn := hK.1 k _ hq
  dsimp only at hKn
  have hsl := sm_sl_mono hle
  have hsn := sm_sl_mono hn
  have hzz : sm_sl (N + 1) = sm_sl N + n := by
    show sm_sl N + sm_sz N = _
    unfold sm_sz
    rw [hy, e1]
  have hNN : N < 81 := hN1
  refine W.newcK (C := C) (n := n) (h := base + N) (g := F0 m pc lsr (r.map (sm_cv (sm_rho base tL tG bS)))) hx hb hown (hts _ (by rw [e5]; exact hclink)) (hts _ (by rw [e1]; exact e3)) (hts _ e4) rfl hd (by omega) (by omega) hKn.2.1 hsz (fun H1 kC hkC f1 z1 o1 => ?_) T rfl X
  have hP1 := sm_P_new (I1 := sm_z I N 0) (L1 := sm_z L N 0) (P1 := sm_z P N none) (sm_kept hP hsz o1) (by
    rw [sm_ce_o hy]
    refine ⟨_, hq, (u_born (fun k => (parseFieldDescriptor (TT k).2.2.1).getD .int) hts e2 hKn hkC f1 (fun k hk => ?_)).to (fun j hj => ?_)⟩
    · obtain ⟨-, -, ty, e, -⟩ := e6 k hk
      try dsimp only at e ⊢
      rw [e]; rfl
    · obtain ⟨-, -, ty, e, e'⟩ := e6 j hj
      try dsimp only at e ⊢
      rw [e]
      unfold vp_V
      rw [List.getD_eq_getElem?_getD, List.getElem?_map, List.getElem?_range (by omega)]
      show defaultValue ty = sm_cv _ (sm_fv k j N _ _ _)
      unfold sm_fv
      rcases e' with ⟨a, rfl⟩ | ⟨a, rfl⟩ | ⟨a, rfl⟩ | ⟨a, b⟩
      · rw [a]; simp [sm_z, sm_cv, defaultValue]
      · rw [a]; simp [sm_z, sm_cv, defaultValue]
      · rw [a]; simp [sm_z, sm_cv, defaultValue]
      · rw [a]
        rcases b with ⟨n, rfl⟩ | ⟨n, rfl⟩ <;> simp [sm_z, sm_cv, defaultValue, va_rf]) (fun b hb => funext fun j => by unfold sm_z; simp [hb]) (fun b hb => funext fun j => by unfold sm_z; simp [hb]) (fun b hb => funext fun j => by unfold sm_z; simp [hb])
  have gg : W p l e R s m args below meth c H1 locs (N + 1 - N0) (sm_sl (N + 1) - sm_sl N0) Q (F0 m (pc + 3) lsr (.ref (sm_rho base tL tG bS N) :: r.map (sm_cv (sm_rho base tL tG bS)))) := g H1 locs lsr ⟨hK, hP1, sm_S_new hS hsz z1 o1, by show N + 1 ≤ 1000; omega⟩ hl (by show N0 ≤ N + 1; omega)
  rw [sm_rho_in (show N < 1000 by omega), show N + 1 - N0 = N - N0 + 1 by omega, show sm_sl (N + 1) - sm_sl N0 = sm_sl N - sm_sl N0 + n by omega] at gg
  exact gg
theorem sm_a_newa (hx : p.tables.exec = Jvm.exec) (hb : c.code = sm_b i) (hts : ∀ w ∈ sm_W, w.before args s = true) (hs : s.heap.size = base + N0) (hNf : Nf - N0 ≤ R.cells ∧ sm_sl Nf - sm_sl N0 ≤ R.slots) {x : Int32} (hd : decode (sm_b i) pc = .ok (.newarray .int, 2)) (hx0 : ¬ x < 0) (hN1 : N < sm_NN) (hy : sm_lay N = .inr (.inl x.toNatClampNeg)) (hle : N + 1 ≤ Nf)
    (g : sm_Go p l e R s m args below meth c Q D cyI cyB base (sm_rho base tL tG bS) (sm_ml i) N0 (pc + 2, ls, .ref N :: r, N + 1, sm_z I N 0, L, P)) : sm_Go p l e R s m args below meth c Q D cyI cyB base (sm_rho base tL tG bS) (sm_ml i) N0 (pc, ls, .int x :: r, N, I, L, P) := by
  intro H locs lsr hk hl hn T hT X
  obtain ⟨hK, hP, hS, hN⟩ := id hk
  dsimp only at hN hP hn X
  subst hT
  have hsz := sm_hsz X hs hn hP
  have hsl := sm_sl_mono hle
  have hsn := sm_sl_mono hn
  have hzz : sm_sl (N + 1) = sm_sl N + x.toNatClampNeg := by
    show sm_sl N + sm_sz N = _
    unfold sm_sz
    rw [hy]
  have hNN : N < 81 := hN1
  have hb1 : ∀ k : Nat, k < 81 → ∀ n, sm_lay k = .inr (.inl n) → n ≤ 1000 := by
    have : (List.range 81).all (fun k => match sm_lay k with | .inr (.inl n) => decide (n ≤ 1000) | _ => true) = true := by decide +kernel
    intro k hk n hn
    have := List.all_eq_true.mp this k (List.mem_range.mpr hk)
    rw [hn] at this
    exact of_decide_eq_true this
  have hb2 := hb1 N hNN _ hy
  refine va_newaK (atype := .int) (N := x.toNatClampNeg) (h := base + N) (g := F0 m pc lsr (.int x :: r.map (sm_cv (sm_rho base tL tG bS)))) hx hb (hts _ sm_w_arr) rfl hd rfl hx0 rfl (by show x.toNatClampNeg * 4 ≤ _; omega) (by omega) (by omega) hsz (fun H1 cA f1 z1 o1 hAr hNm => ?_) T rfl X
  have hcA : cA = cyI := by
    have h2 : s.vm.findClass ("[" ++ (FieldType.int).toString) = some cyI := (hK.2 0 _ rfl).2
    exact Option.some.inj (hNm.symm.trans h2)
  subst hcA
  have hP1 := sm_P_new (I1 := sm_z I N 0) (L1 := L) (P1 := P) (sm_kept hP hsz o1) (by
    rw [sm_ce_i hy]
    show H1[base + N]? = some (vp_cell _ _)
    rw [vp_cell_i, f1]
    refine congrArg (fun f => some (arrV cA x.toNatClampNeg f)) (funext fun j => ?_)
    simp [sm_z, newarray.typeOf, defaultValue]) (fun b hb => funext fun j => by unfold sm_z; simp [hb]) (fun _ _ => rfl) (fun _ _ => rfl)
  have gg : W p l e R s m args below meth c H1 locs (N + 1 - N0) (sm_sl (N + 1) - sm_sl N0) Q (F0 m (pc + 2) lsr (.ref (sm_rho base tL tG bS N) :: r.map (sm_cv (sm_rho base tL tG bS)))) := g H1 locs lsr ⟨hK, hP1, sm_S_new hS hsz z1 o1, by show N + 1 ≤ 1000; omega⟩ hl (by show N0 ≤ N + 1; omega)
  rw [sm_rho_in (show N < 1000 by omega), show N + 1 - N0 = N - N0 + 1 by omega, show sm_sl (N + 1) - sm_sl N0 = sm_sl N - sm_sl N0 + x.toNatClampNeg by omega] at gg
  exact gg
theorem sm_a_anew (hx : p.tables.exec = Jvm.exec) (hb : c.code = sm_b i) (hown : s.vm.findClass (sm_cn (sm_o i)) = some m.cls) (hts : ∀ w ∈ sm_W, w.before args s = true) (hE : sm_En base tL tG s) (hs : s.heap.size = base + N0) (hNf : Nf - N0 ≤ R.cells ∧ sm_sl Nf - sm_sl N0 ≤ R.slots) {x : Int32} {y z : Nat} (hd : decode (sm_b i) pc = .ok (.anewarray y, 3)) (hf : sm_nw (sm_o i) y = some (0, z)) (hx0 : ¬ x < 0) (hN1 : N < sm_NN) (hy : sm_lay N = .inr (.inr x.toNatClampNeg)) (hle : N + 1 ≤ Nf)
    (g : sm_Go p l e R s m args below meth c Q D cyI cyB base (sm_rho base tL tG bS) (sm_ml i) N0 (pc + 3, ls, .ref N :: r, N + 1, I, L, sm_z P N none)) : sm_Go p l e R s m args below meth c Q D cyI cyB base (sm_rho base tL tG bS) (sm_ml i) N0 (pc, ls, .int x :: r, N, I, L, P) := by
  intro H locs lsr hk hl hn T hT X
  obtain ⟨hK, hP, hS, hN⟩ := id hk
  dsimp only at hN hP hn X
  subst hT
  have hsz := sm_hsz X hs hn hP
  have hsl := sm_sl_mono hle
  have hsn := sm_sl_mono hn
  have hzz : sm_sl (N + 1) = sm_sl N + x.toNatClampNeg := by
    show sm_sl N + sm_sz N = _
    unfold sm_sz
    rw [hy]
  have hNN : N < 81 := hN1
  have hb1 : ∀ k : Nat, k < 81 → ∀ n, sm_lay k = .inr (.inr n) → n ≤ 1000 := by
    have : (List.range 81).all (fun k => match sm_lay k with | .inr (.inr n) => decide (n ≤ 1000) | _ => true) = true := by decide +kernel
    intro k hk n hn
    have := List.all_eq_true.mp this k (List.mem_range.mpr hk)
    rw [hn] at this
    exact of_decide_eq_true this
  have hb2 := hb1 N hNN _ hy
  refine W.anew (C := "FeltByTwin$Birth") (n := x) (g := F0 m pc lsr (.int x :: r.map (sm_cv (sm_rho base tL tG bS)))) hx hb hown (hts _ (sm_nw_in hf).2) (va_AO.use hE.1) rfl hd rfl hx0 (by omega) (by omega) (by omega) (fun cA kA comp f1 f2 f3 f4 => ?_) T rfl X
  have hcA : cA = cyB := by
    obtain ⟨kA', comp', g1, g2, g3, g4⟩ : va_RA s cyB (.object "FeltByTwin$Birth") := (hK.2 1 _ rfl).2
    exact Option.some.inj (f1.symm.trans g4)
  subst hcA
  generalize hH1 : T.heap.push ({ cls := cA, slots := Array.replicate x.toNatClampNeg .null, vm := .none } : Cell) = H1
  have z1 : H1.size = base + N + 1 := by rw [← hH1, Array.size_push, hsz]
  have e1 : H1[base + N]? = some (arrV cA x.toNatClampNeg (fun _ => .null)) := by rw [← hH1, ← hsz, Array.getElem?_push_size, ← arrV_new]
  have o1 : ∀ q : Nat, q < base + N → H1[q]? = T.heap[q]? := fun q hq => by rw [← hH1, Array.getElem?_push, if_neg (by omega)]
  have hP1 := sm_P_new (I1 := I) (L1 := L) (P1 := sm_z P N none) (sm_kept hP hsz o1) (by
    rw [sm_ce_r hy]
    show H1[base + N]? = some (vp_cell _ _)
    rw [vp_cell_q, e1]
    refine congrArg (fun f => some (arrV cA x.toNatClampNeg f)) (funext fun j => ?_)
    simp [sm_z, va_rf]) (fun _ _ => rfl) (fun _ _ => rfl) (fun b hb => funext fun j => by unfold sm_z; simp [hb])
  have gg : W p l e R s m args below meth c H1 locs (N + 1 - N0) (sm_sl (N + 1) - sm_sl N0) Q (F0 m (pc + 3) lsr (.ref (sm_rho base tL tG bS N) :: r.map (sm_cv (sm_rho base tL tG bS)))) := g H1 locs lsr ⟨hK, hP1, sm_S_new hS hsz z1 o1, by show N + 1 ≤ 1000; omega⟩ hl (by show N0 ≤ N + 1; omega)
  rw [sm_rho_in (show N < 1000 by omega), show N + 1 - N0 = N - N0 + 1 by omega, show sm_sl (N + 1) - sm_sl N0 = sm_sl N - sm_sl N0 + x.toNatClampNeg by omega] at gg
  rw [hsz]
  exact gg
theorem sm_cat_sum (ρ : Nat → Nat) {st : List Value} (h : st.length ≤ 4) : ((st.map (sm_cv ρ)).map fun v => v.category).sum ≤ 8 := by
  have key : ∀ l : List Value, ((l.map (sm_cv ρ)).map fun v => v.category).sum ≤ 2 * l.length := by
    intro l
    induction l with
    | nil => simp
    | cons v t ih =>
      rw [List.map_cons, List.map_cons, List.sum_cons, List.length_cons, sm_cv_cat]
      have : v.category ≤ 2 := by rcases lv_cat v with q | q <;> omega
      omega
  have := key st
  omega
theorem sm_a_copy (hx : p.tables.exec = Jvm.exec) (hb : c.code = sm_b i) (hml : c.maxLocals = sm_ml i) (hown : s.vm.findClass (sm_cn (sm_o i)) = some m.cls) (hts : ∀ w ∈ sm_W, w.before args s = true) (hR : 1 ≤ R.frames ∧ 64 ≤ R.locals) {x z a a0 n0 n1 : Nat} {n dp sp : Int32} (hd : decode (sm_b i) pc = .ok (.invokestatic x, 3)) (hf : sm_ac (sm_o i) x = some z) (ha : a < N) (ha0 : a0 < N) (hr : r.length ≤ 4) (hy0 : sm_lay a0 = .inr (.inl n0)) (hy : sm_lay a = .inr (.inl n1)) (h1 : ¬ sp < 0) (h2 : ¬ dp < 0) (h3 : ¬ n < 0) (h4 : sp.toNatClampNeg + n.toNatClampNeg ≤ n0) (h5 : dp.toNatClampNeg + n.toNatClampNeg ≤ n1)
    (g : sm_Go p l e R s m args below meth c Q D cyI cyB base (sm_rho base tL tG bS) (sm_ml i) N0 (pc + 3, ls, r, N, sm_row I a (va_cpy (I a0) (I a) sp.toNatClampNeg dp.toNatClampNeg n.toNatClampNeg), L, P)) : sm_Go p l e R s m args below meth c Q D cyI cyB base (sm_rho base tL tG bS) (sm_ml i) N0 (pc, ls, .int n :: .int dp :: .ref a :: .int sp :: .ref a0 :: r, N, I, L, P) := by
  intro H locs lsr hk hl hn
  obtain ⟨hK, hP, hS, hN⟩ := id hk
  dsimp only at hN hP
  have hw := sm_cw_get (cyI := cyI) (cyB := cyB) (base := base) (ρ := sm_rho base tL tG bS) (I := I) (L := L) (P := P) ha
  rw [sm_ce_i hy] at hw
  have hw0 := sm_cw_get (cyI := cyI) (cyB := cyB) (base := base) (ρ := sm_rho base tL tG bS) (I := I) (L := L) (P := P) ha0
  rw [sm_ce_i hy0] at hw0
  have hρ : sm_rho base tL tG bS a = base + a := sm_rho_in (show a < 1000 by omega)
  have hρ0 : sm_rho base tL tG bS a0 = base + a0 := sm_rho_in (show a0 < 1000 by omega)
  show W p l e R s m args below meth c H locs (N - N0) (sm_sl N - sm_sl N0) Q (F0 m pc lsr (.int n :: .int dp :: .ref (sm_rho base tL tG bS a) :: .int sp :: .ref (sm_rho base tL tG bS a0) :: r.map (sm_cv (sm_rho base tL tG bS))))
  rw [hρ, hρ0]
  have hcs := sm_cat_sum (sm_rho base tL tG bS) hr
  refine va_copyi (ty := .int) hx hb (by rw [hml]; exact hl.1.symm) hown (hts _ (sm_ac_in hf)) (hts _ sm_w_an) (hts _ sm_w_as) (hts _ sm_w_sy) hK hP (sm_D cyI cyB base (sm_rho base tL tG bS) N I L P) hS a0 a 0 0 hw0 hw rfl rfl rfl h1 h2 h3 h4 h5 (fun _ _ => rfl) hR.1 (by
    have : nativeFrameWords "java/lang/System" "arraycopy" 5 = 7 := by decide
    rw [this]; omega) hd fun H1 locs1 hP1 _ hS1 => ?_
  rw [sm_cw_set (I1 := sm_row I a (va_cpy (I a0) (I a) sp.toNatClampNeg dp.toNatClampNeg n.toNatClampNeg)) (L1 := L) (P1 := P) ha (by
    rw [sm_ce_i hy]
    refine congrArg (fun q => Sum.inl (cyI, n1, Sum.inl q)) (funext fun j => ?_)
    simp [sm_row]) (fun b hb => funext fun j => by unfold sm_row; simp [hb]) (fun _ _ => rfl) (fun _ _ => rfl)] at hP1
  exact g H1 locs1 lsr ⟨hK, hP1, hS1, hN⟩ hl hn
/-- behind a call -/
theorem sm_back {ρ : Nat → Nat} {H : Heap} {locs : List Loc} {cells slots mc ms : Nat} {lsr : Array Slot} {st0 rest : List Value} {rs : sm_Rs} {a : Array Value} (hr : va_Run p l e R s m args below meth c H locs cells slots mc ms (F0 m pc lsr st0) rest (sm_Qc D cyI cyB base ρ rs a) (fun q => base ≤ q)) (hS : va_S (fun q => base ≤ q) s.heap H locs)
    (kk : ∀ (H1 : Heap) (locs1 : List Loc), va_P D vwCl (sm_cw cyI cyB base ρ rs.2.1 rs.2.2.1 rs.2.2.2.1 rs.2.2.2.2) H1 → va_S (fun q => base ≤ q) s.heap H1 locs1 → W p l e R s m args below meth c H1 locs1 (cells + mc) (slots + ms) Q (F0 m (pc + 3) lsr ((rs.1.map (sm_cv ρ)).toList ++ rest))) : W p l e R s m args below meth c H locs cells slots Q (F0 m pc lsr st0) := by
  intro T hT X
  obtain ⟨v, st₀, t, T', Lc, h0, X', hL, e1, e2, ⟨⟨hv, hP⟩, hz, hk⟩, st⟩ := hr T hT X
  have hv := Outcome.returned.inj hv
  subst hv
  rw [h0] at hz hk
  obtain ⟨t2, a1, b1⟩ := kk T'.heap (locs ++ Lc) (by rw [e1]; exact hP)
    ⟨Nat.le_trans hS.1 (by rw [e1]; exact hz), fun q h1 h2 => by rw [e1, hk q (Nat.lt_of_lt_of_le h1 hS.1) h2]; exact hS.2.1 q h1 h2, fun q hq => by
      rcases List.mem_append.mp hq with h | h
      · exact hS.2.2 q h
      · exact hL q h⟩ T' rfl X'
  exact ⟨t2, st t2 a1, b1⟩
end SMT
