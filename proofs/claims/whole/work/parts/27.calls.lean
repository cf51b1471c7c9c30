section SMC
variable {p : Program} {l : Launch} {e : Env} {R : Room} {s : State} {m : MethodId} {args : Array Value} {below : List Frame} {meth : Method} {c : Code} {Q : State → Prop} {D : va_G} {cyI cyB : ClassId} {base tL tG bS N0 i pc N Nf d : Nat} {ls : List (Option Value)} {st : List Value} {I : sm_Im} {L : sm_Lm} {P : sm_Pm} {C : sm_Cf}
/-- what is known of the methods that are called -/
def sm_CM (l : Launch) (D : va_G) (cyI cyB : ClassId) (base tL tG bS d : Nat) (C : sm_Cf) : Prop := ∀ (j : Nat) (as : List Value) (N : Nat) (I : sm_Im) (L : sm_Lm) (P : sm_Pm) (r : sm_Rs), j < 216 → C j as N I L P = some r → N ≤ 1000 → N ≤ r.2.1 ∧ r.2.1 ≤ 1000 ∧
  Met l (sm_y j) (sm_ws j) (sm_rm d N r.2.1) (sm_Pc D cyI cyB base (sm_rho base tL tG bS) tL tG as N I L P) (sm_Qc D cyI cyB base (sm_rho base tL tG bS) r) (r.2.1 - N) (sm_sl r.2.1 - sm_sl N) (fun q => base ≤ q)
theorem sm_iv_eq {j n : Nat} {t : sm_Rs ⊕ sm_St} (h : sm_iv C j n pc ls st N I L P = some t) : ∃ r : sm_Rs, n ≤ st.length ∧ (st.drop n).length ≤ 4 ∧ C j (st.take n).reverse N I L P = some r ∧ Sum.inr (pc + 3, ls, r.1.toList ++ st.drop n, r.2.1, r.2.2.1, r.2.2.2.1, r.2.2.2.2) = t := by
  obtain ⟨h1, h2⟩ := sm_if h
  cases hc : C j (st.take n).reverse N I L P with
  | none => rw [hc] at h2; cases h2
  | some q =>
    obtain ⟨q1, q2, q3, q4, q5⟩ := q
    rw [hc] at h2
    exact ⟨(q1, q2, q3, q4, q5), h1.1, h1.2, rfl, sm_nx_eq h2⟩
theorem sm_pre {H : Heap} {locs : List Loc} {as : List Value} (hE : sm_En base tL tG s) (hk : sm_Lk D cyI cyB base (sm_rho base tL tG bS) s H locs N I L P) (hsz : H.size = base + N) : ∀ U : State, U.heap = H → s.WarmedH U.vm → sm_Pc D cyI cyB base (sm_rho base tL tG bS) tL tG as N I L P (as.map (sm_cv (sm_rho base tL tG bS))).toArray U := by
  intro U hU hW
  obtain ⟨hK, hP, hS, hN⟩ := hk
  exact ⟨rfl, by rw [hU]; exact hsz, by rw [hU]; exact hP, va_K.moved hW.alike hK, hE.warm hW hS hU, hN⟩
theorem sm_split {n : Nat} (ρ : Nat → Nat) (h : n ≤ st.length) : st.map (sm_cv ρ) = ((st.take n).reverse.map (sm_cv ρ)).reverse ++ (st.drop n).map (sm_cv ρ) := by
  rw [← List.map_reverse, List.reverse_reverse, ← List.map_append, List.take_append_drop]
theorem sm_toL (ρ : Nat → Nat) (o : Option Value) (st : List Value) : (o.map (sm_cv ρ)).toList ++ st.map (sm_cv ρ) = (o.toList ++ st).map (sm_cv ρ) := by cases o <;> rfl
/-- a call, whatever its kind: 'run' is the row of the kit -/
theorem sm_a_call (hE : sm_En base tL tG s) (hs : s.heap.size = base + N0) (hNf : Nf - N0 ≤ R.cells ∧ sm_sl Nf - sm_sl N0 ≤ R.slots) (hC : sm_CM l D cyI cyB base tL tG bS d C) {j n : Nat} (hj : j < 216) {t : sm_St} (h : sm_iv C j n pc ls st N I L P = some (.inr t)) (hle : t.2.2.2.1 ≤ Nf) (g : sm_Go p l e R s m args below meth c Q D cyI cyB base (sm_rho base tL tG bS) (sm_ml i) N0 t)
    (run : ∀ (H : Heap) (locs : List Loc) (lsr : Array Slot) (cells slots : Nat) (rs : sm_Rs) (rest : List Value), H.size = base + N → sm_Lk D cyI cyB base (sm_rho base tL tG bS) s H locs N I L P → lsr.size = sm_ml i → n ≤ st.length → (rest.map fun v => v.category).sum ≤ 8 → st.map (sm_cv (sm_rho base tL tG bS)) = ((st.take n).reverse.map (sm_cv (sm_rho base tL tG bS))).reverse ++ rest →
      Met l (sm_y j) (sm_ws j) (sm_rm d N rs.2.1) (sm_Pc D cyI cyB base (sm_rho base tL tG bS) tL tG (st.take n).reverse N I L P) (sm_Qc D cyI cyB base (sm_rho base tL tG bS) rs) (rs.2.1 - N) (sm_sl rs.2.1 - sm_sl N) (fun q => base ≤ q) → (cells + (rs.2.1 - N) ≤ R.cells ∧ slots + (sm_sl rs.2.1 - sm_sl N) ≤ R.slots) →
      va_Run p l e R s m args below meth c H locs cells slots (rs.2.1 - N) (sm_sl rs.2.1 - sm_sl N) (F0 m pc lsr (st.map (sm_cv (sm_rho base tL tG bS)))) rest (sm_Qc D cyI cyB base (sm_rho base tL tG bS) rs ((st.take n).reverse.map (sm_cv (sm_rho base tL tG bS))).toArray) (fun q => base ≤ q)) :
    sm_Go p l e R s m args below meth c Q D cyI cyB base (sm_rho base tL tG bS) (sm_ml i) N0 (pc, ls, st, N, I, L, P) := by
  obtain ⟨rs, h1, h2, h3, h4⟩ := sm_iv_eq h
  have h4 := Sum.inr.inj h4
  subst h4
  intro H locs lsr hk hl hn T hT X
  have hk0 := hk
  obtain ⟨hK, hP, hS, hN⟩ := id hk
  dsimp only at hN hP hn X hle hk
  subst hT
  have hsz := sm_hsz X hs hn hP
  obtain ⟨c1, c2, hM⟩ := hC j _ N I L P rs hj h3 hN
  have hsl := sm_sl_mono hle
  have hsn := sm_sl_mono hn
  have hsr := sm_sl_mono c1
  refine sm_back (run T.heap locs lsr (N - N0) (sm_sl N - sm_sl N0) rs ((st.drop n).map (sm_cv (sm_rho base tL tG bS))) hsz hk hl.1 h1 (sm_cat_sum _ h2) (sm_split _ h1) hM ⟨by omega, by omega⟩) hS (fun H1 locs1 hP1 hS1 => ?_) T rfl X
  have gg : W p l e R s m args below meth c H1 locs1 (rs.2.1 - N0) (sm_sl rs.2.1 - sm_sl N0) Q (F0 m (pc + 3) lsr ((rs.1.toList ++ st.drop n).map (sm_cv (sm_rho base tL tG bS)))) := g H1 locs1 lsr ⟨hK, hP1, hS1, c2⟩ hl (by show N0 ≤ rs.2.1; omega)
  rw [sm_toL, show N - N0 + (rs.2.1 - N) = rs.2.1 - N0 by omega, show sm_sl N - sm_sl N0 + (sm_sl rs.2.1 - sm_sl N) = sm_sl rs.2.1 - sm_sl N0 by omega]
  exact gg
theorem sm_a_stat (hx : p.tables.exec = Jvm.exec) (hb : c.code = sm_b i) (hml : c.maxLocals = sm_ml i) (hown : s.vm.findClass (sm_cn (sm_o i)) = some m.cls) (hts : ∀ w ∈ sm_W, w.before args s = true) (hE : sm_En base tL tG s) (hs : s.heap.size = base + N0) (hR : d + 1 ≤ R.frames ∧ 64 * (d + 1) ≤ R.locals) (hNf : Nf - N0 ≤ R.cells ∧ sm_sl Nf - sm_sl N0 ≤ R.slots) (hC : sm_CM l D cyI cyB base tL tG bS d C) {x j z k : Nat} (hd : decode (sm_b i) pc = .ok (.invokestatic x, 3)) (hf : sm_cal (sm_o i) x = some (j, z, k)) (hkd : sm_kd j = 0) (hmj : sm_ml j ≤ 45) {t : sm_St} (h : sm_iv C j (sm_np j) pc ls st N I L P = some (.inr t)) (hle : t.2.2.2.1 ≤ Nf) (g : sm_Go p l e R s m args below meth c Q D cyI cyB base (sm_rho base tL tG bS) (sm_ml i) N0 t) :
    sm_Go p l e R s m args below meth c Q D cyI cyB base (sm_rho base tL tG bS) (sm_ml i) N0 (pc, ls, st, N, I, L, P) := by
  obtain ⟨hj, hlink⟩ := sm_cal_ok hf
  obtain ⟨f1, f2, -, -, f5, f6, f7, f8, -⟩ := sm_m_facts hj
  refine sm_a_call hE hs hNf hC hj h hle g fun H locs lsr cells slots rs rest hsz hk hls hlen hcat hstk hM hroom => ?_
  have hRm : (sm_rm d N rs.2.1).frames + 1 ≤ R.frames ∧ 8 + (sm_ml j + 11) + (sm_rm d N rs.2.1).locals ≤ R.locals := ⟨hR.1, by show 8 + (sm_ml j + 11) + 64 * d ≤ R.locals; omega⟩
  have hAs : ((st.take (sm_np j)).reverse.map (sm_cv (sm_rho base tL tG bS))).length = sm_np j := by rw [List.length_map, List.length_reverse, List.length_take]; omega
  rcases hlink with ⟨-, hl1⟩ | ⟨-, hl1⟩
  · exact va_runS (S := ⟨hx, hb, hml, hown, hts⟩) hM ⟨callB_of (sm_np j) hts (sm_good hj) rfl rfl rfl (hts _ f5) (hts _ hl1) f8 hRm, hts _ (f2 hkd)⟩ ⟨sm_Pc.blind, sm_pre hE hk hsz⟩ rfl hAs hls hstk (lv_room hcat) hd hroom
  · exact va_runSN (S := ⟨hx, hb, hml, hown, hts⟩) hM ⟨va_cnB (sm_np j) hts (sm_good hj) rfl rfl rfl (hE.2.1 _ hl1) (hts _ f5) f8 hRm, hts _ (f2 hkd), trivial⟩ ⟨sm_Pc.blind, sm_pre hE hk hsz⟩ rfl hAs hls hstk (lv_room hcat) hd hroom
theorem sm_isR_eq {n : Nat} {c0 : Nat} (h : sm_isR N c0 st[n]? = true) : ∃ b, st[n]? = some (.ref b) ∧ b < N ∧ sm_lay b = .inl c0 := by
  unfold sm_isR at h
  split at h
  · rename_i a ha
    rw [Bool.and_eq_true, decide_eq_true_eq, decide_eq_true_eq] at h
    exact ⟨a, by assumption, h.1, h.2⟩
  · cases h
theorem sm_take_recv {n b : Nat} (h : st[n]? = some (.ref b)) : (st.take (n + 1)).reverse = .ref b :: (st.take n).reverse := by
  rw [List.take_add_one, h]
  simp
theorem sm_a_virt (hx : p.tables.exec = Jvm.exec) (hb : c.code = sm_b i) (hml : c.maxLocals = sm_ml i) (hown : s.vm.findClass (sm_cn (sm_o i)) = some m.cls) (hts : ∀ w ∈ sm_W, w.before args s = true) (hE : sm_En base tL tG s) (hs : s.heap.size = base + N0) (hR : d + 1 ≤ R.frames ∧ 64 * (d + 1) ≤ R.locals) (hNf : Nf - N0 ≤ R.cells ∧ sm_sl Nf - sm_sl N0 ≤ R.slots) (hC : sm_CM l D cyI cyB base tL tG bS d C) {x j z : Nat} (hd : decode (sm_b i) pc = .ok (.invokevirtual x, 3)) (hf : sm_cal (sm_o i) x = some (j, z, 0)) (hkd : sm_kd j = 1) (hr : sm_isR N (sm_o j) st[sm_np j]? = true) (hmj : sm_ml j ≤ 45) (hoj : sm_o j < 12) {t : sm_St} (h : sm_iv C j (sm_np j + 1) pc ls st N I L P = some (.inr t)) (hle : t.2.2.2.1 ≤ Nf) (g : sm_Go p l e R s m args below meth c Q D cyI cyB base (sm_rho base tL tG bS) (sm_ml i) N0 t) :
    sm_Go p l e R s m args below meth c Q D cyI cyB base (sm_rho base tL tG bS) (sm_ml i) N0 (pc, ls, st, N, I, L, P) := by
  obtain ⟨hj, hlink⟩ := sm_cal_ok hf
  obtain ⟨f1, -, f3, f4, f5, f6, f7, f8, -⟩ := sm_m_facts hj
  obtain ⟨b, hb1, hb2, hb3⟩ := sm_isR_eq hr
  have hne : ¬ sm_kd j = 0 := by omega
  refine sm_a_call hE hs hNf hC hj h hle g fun H locs lsr cells slots rs rest hsz hk hls hlen hcat hstk hM hroom => ?_
  have hRm : (sm_rm d N rs.2.1).frames + 1 ≤ R.frames ∧ 8 + (sm_ml j + 11) + (sm_rm d N rs.2.1).locals ≤ R.locals := ⟨hR.1, by show 8 + (sm_ml j + 11) + 64 * d ≤ R.locals; omega⟩
  have hAs : ((st.take (sm_np j)).reverse.map (sm_cv (sm_rho base tL tG bS))).length = sm_np j := by rw [List.length_map, List.length_reverse, List.length_take]; omega
  obtain ⟨hK, hP, hS, hN⟩ := id hk
  have hρ : sm_rho base tL tG bS b = base + b := sm_rho_in (Nat.lt_of_lt_of_le hb2 hN)
  have hw := sm_cw_get (cyI := cyI) (cyB := cyB) (base := base) (ρ := sm_rho base tL tG bS) (I := I) (L := L) (P := P) hb2
  rw [sm_ce_o hb3] at hw
  obtain ⟨q, hq⟩ := sm_vw hoj
  have hq5 := (sm_cls_ok hq).2.2.2.2.1
  have hpre := sm_pre (as := (st.take (sm_np j + 1)).reverse) hE hk hsz
  rw [sm_take_recv hb1] at hM hpre hstk ⊢
  have e0 : List.map (sm_cv (sm_rho base tL tG bS)) (Value.ref b :: (st.take (sm_np j)).reverse) = .ref (base + b) :: (st.take (sm_np j)).reverse.map (sm_cv (sm_rho base tL tG bS)) := by rw [List.map_cons]; exact congrArg (fun q => Value.ref q :: _) hρ
  rw [e0] at hpre hstk ⊢
  rcases hlink with ⟨-, hl1⟩ | ⟨z1, -⟩
  · refine va_runV (S := ⟨hx, hb, hml, hown, hts⟩) (C := (sm_y j).cls) hM ⟨callB_of (sm_np j) hts (sm_good hj) rfl rfl rfl (hts _ f5) (hts _ hl1) f8 hRm, hts _ (f3 hne), hts _ (f4 hkd)⟩ ⟨sm_Pc.blind, ?_, hpre⟩ rfl hAs hls (by show st.map _ = _; rw [hstk, List.reverse_cons, List.append_assoc]; rfl) (lv_room hcat) hd hroom
    rw [f6, ← hq5]
    exact va_recv hK hP hq hw
  · exact absurd rfl z1
theorem sm_a_spec (hx : p.tables.exec = Jvm.exec) (hb : c.code = sm_b i) (hml : c.maxLocals = sm_ml i) (hown : s.vm.findClass (sm_cn (sm_o i)) = some m.cls) (hts : ∀ w ∈ sm_W, w.before args s = true) (hE : sm_En base tL tG s) (hs : s.heap.size = base + N0) (hR : d + 1 ≤ R.frames ∧ 64 * (d + 1) ≤ R.locals) (hNf : Nf - N0 ≤ R.cells ∧ sm_sl Nf - sm_sl N0 ≤ R.slots) (hC : sm_CM l D cyI cyB base tL tG bS d C) {x j z k : Nat} (hd : decode (sm_b i) pc = .ok (.invokespecial x, 3)) (hf : sm_cal (sm_o i) x = some (j, z, k)) (hkd : sm_kd j = 2) (hr : sm_isR N (sm_o j) st[sm_np j]? = true) (hmj : sm_ml j ≤ 45) {t : sm_St} (h : sm_iv C j (sm_np j + 1) pc ls st N I L P = some (.inr t)) (hle : t.2.2.2.1 ≤ Nf) (g : sm_Go p l e R s m args below meth c Q D cyI cyB base (sm_rho base tL tG bS) (sm_ml i) N0 t) :
    sm_Go p l e R s m args below meth c Q D cyI cyB base (sm_rho base tL tG bS) (sm_ml i) N0 (pc, ls, st, N, I, L, P) := by
  obtain ⟨hj, hlink⟩ := sm_cal_ok hf
  obtain ⟨f1, -, f3, -, f5, f6, f7, f8, f9⟩ := sm_m_facts hj
  obtain ⟨b, hb1, hb2, hb3⟩ := sm_isR_eq hr
  have hne : ¬ sm_kd j = 0 := by omega
  obtain ⟨f10, f11⟩ := f9 hkd
  refine sm_a_call hE hs hNf hC hj h hle g fun H locs lsr cells slots rs rest hsz hk hls hlen hcat hstk hM hroom => ?_
  have hRm : (sm_rm d N rs.2.1).frames + 1 ≤ R.frames ∧ 8 + (sm_ml j + 11) + (sm_rm d N rs.2.1).locals ≤ R.locals := ⟨hR.1, by show 8 + (sm_ml j + 11) + 64 * d ≤ R.locals; omega⟩
  have hAs : ((st.take (sm_np j)).reverse.map (sm_cv (sm_rho base tL tG bS))).length = sm_np j := by rw [List.length_map, List.length_reverse, List.length_take]; omega
  have hws : sm_ws j = Cond.code (sm_y j) (sm_b j) (sm_ml j) none :: sm_W := by unfold sm_ws; rw [f11]
  have hpre := sm_pre (as := (st.take (sm_np j + 1)).reverse) hE hk hsz
  rw [sm_take_recv hb1] at hM hpre hstk ⊢
  have e0 : List.map (sm_cv (sm_rho base tL tG bS)) (Value.ref b :: (st.take (sm_np j)).reverse) = .ref (sm_rho base tL tG bS b) :: (st.take (sm_np j)).reverse.map (sm_cv (sm_rho base tL tG bS)) := by rw [List.map_cons]; rfl
  rw [e0] at hpre hstk ⊢
  rcases hlink with ⟨-, hl1⟩ | ⟨-, hl1⟩
  · exact va_runI (S := ⟨hx, hb, hml, hown, hts⟩) hM ⟨callB_of (sm_np j) hts (sm_good hj) hws rfl rfl (hts _ f5) (hts _ hl1) f8 hRm, f10, hts _ (f3 hne)⟩ ⟨sm_Pc.blind, hpre⟩ rfl hAs hls (by show st.map _ = _; rw [hstk, List.reverse_cons, List.append_assoc]; rfl) (lv_room hcat) hd hroom
  · exact va_runIN (S := ⟨hx, hb, hml, hown, hts⟩) hM ⟨va_cnB (sm_np j) hts (sm_good hj) hws rfl rfl (hE.2.1 _ hl1) (hts _ f5) f8 hRm, f10, hts _ (f3 hne)⟩ ⟨sm_Pc.blind, hpre⟩ rfl hAs hls (by show st.map _ = _; rw [hstk, List.reverse_cons, List.append_assoc]; rfl) (lv_room hcat) hd hroom
end SMC
