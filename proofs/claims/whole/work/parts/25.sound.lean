section SMS
variable {p : Program} {l : Launch} {e : Env} {R : Room} {s : State} {m : MethodId} {args : Array Value} {below : List Frame} {meth : Method} {c : Code} {Q : State → Prop} {D : va_G} {cyI cyB : ClassId} {base tL tG bS N0 i pc N : Nat} {ls : List (Option Value)} {r : List Value} {I : sm_Im} {L : sm_Lm} {P : sm_Pm}
theorem sm_a_get (hx : p.tables.exec = Jvm.exec) (hb : c.code = sm_b i) (hown : s.vm.findClass (sm_cn (sm_o i)) = some m.cls) (hts : ∀ w ∈ sm_W, w.before args s = true) {x c0 k z a : Nat} (hd : decode (sm_b i) pc = .ok (.getfield x, 3)) (hf : sm_fld (sm_o i) x = some (c0, k, z)) (ha : a < N) (hy : sm_lay a = .inl c0)
    (g : sm_Go p l e R s m args below meth c Q D cyI cyB base (sm_rho base tL tG bS) (sm_ml i) N0 (pc + 3, ls, sm_fv c0 k a I L P :: r, N, I, L, P)) : sm_Go p l e R s m args below meth c Q D cyI cyB base (sm_rho base tL tG bS) (sm_ml i) N0 (pc, ls, .ref a :: r, N, I, L, P) := by
  intro H locs lsr hk hl hn
  obtain ⟨hK, hP, hS, hN⟩ := id hk
  obtain ⟨⟨C, T, n⟩, hq, hkn, hlink⟩ := sm_fld_ok hf
  obtain ⟨e1, e2, -, -, -, e6, -⟩ := sm_cls_ok hq
  have hw := sm_cw_get (cyI := cyI) (cyB := cyB) (base := base) (ρ := sm_rho base tL tG bS) (I := I) (L := L) (P := P) ha
  rw [sm_ce_o hy] at hw
  have hρ : sm_rho base tL tG bS a = base + a := sm_rho_in (show a < 1000 by dsimp only at hN; omega)
  show W p l e R s m args below meth c H locs (N - N0) (sm_sl N - sm_sl N0) Q (F0 m pc lsr (.ref (sm_rho base tL tG bS a) :: r.map (sm_cv (sm_rho base tL tG bS))))
  rw [hρ]
  refine va_get (ref := C) hx hb hts e2 hown hK hP a hw hq k hkn (hts _ hlink) (fun y hy => by have := (e6 k hkn).1; dsimp only at this; rw [← this]; exact hy) (v := sm_cv (sm_rho base tL tG bS) (sm_fv c0 k a I L P)) ?_ hd (g H locs lsr hk hl hn)
  rw [List.getElem?_map, List.getElem?_range (by dsimp only at e1 hkn; omega)]
  rfl
theorem sm_a_put (hx : p.tables.exec = Jvm.exec) (hb : c.code = sm_b i) (hown : s.vm.findClass (sm_cn (sm_o i)) = some m.cls) (hts : ∀ w ∈ sm_W, w.before args s = true) (hin : sm_kd i = 2 → meth.name = "<init>") {x c0 k z a : Nat} {v : Value} {I1 : sm_Im} {L1 : sm_Lm} {P1 : sm_Pm} (hd : decode (sm_b i) pc = .ok (.putfield x, 3)) (hf : sm_fld (sm_o i) x = some (c0, k, z)) (ha : a < N) (hy : sm_lay a = .inl c0)
    (hfin : sm_ff c0 k = false ∨ (sm_kd i = 2 ∧ sm_o i = c0)) (hfit : ∀ ty, sm_kt (sm_fk c0 k) ty → narrow ty (sm_cv (sm_rho base tL tG bS) v) = sm_cv (sm_rho base tL tG bS) v ∧ fits ty (sm_cv (sm_rho base tL tG bS) v) = true)
    (h1 : ∀ b, b ≠ a → I1 b = I b) (h2 : ∀ b, b ≠ a → L1 b = L b) (h3 : ∀ b, b ≠ a → P1 b = P b) (h4 : ∀ j, j ≠ k → sm_fv c0 j a I1 L1 P1 = sm_fv c0 j a I L P) (h5 : sm_fv c0 k a I1 L1 P1 = v)
    (g : sm_Go p l e R s m args below meth c Q D cyI cyB base (sm_rho base tL tG bS) (sm_ml i) N0 (pc + 3, ls, r, N, I1, L1, P1)) : sm_Go p l e R s m args below meth c Q D cyI cyB base (sm_rho base tL tG bS) (sm_ml i) N0 (pc, ls, v :: .ref a :: r, N, I, L, P) := by
  intro H locs lsr hk hl hn
  obtain ⟨hK, hP, hS, hN⟩ := id hk
  dsimp only at hN hP
  obtain ⟨⟨C, T, n⟩, hq, hkn, hlink⟩ := sm_fld_ok hf
  obtain ⟨e1, e2, -, -, e5, e6, e7⟩ := sm_cls_ok hq
  dsimp only at e1 hkn e2 e5 e6 e7 hlink
  have hw := sm_cw_get (cyI := cyI) (cyB := cyB) (base := base) (ρ := sm_rho base tL tG bS) (I := I) (L := L) (P := P) ha
  rw [sm_ce_o hy] at hw
  have hρ : sm_rho base tL tG bS a = base + a := sm_rho_in (show a < 1000 by omega)
  show W p l e R s m args below meth c H locs (N - N0) (sm_sl N - sm_sl N0) Q (F0 m pc lsr (sm_cv (sm_rho base tL tG bS) v :: .ref (sm_rho base tL tG bS a) :: r.map (sm_cv (sm_rho base tL tG bS))))
  rw [hρ]
  obtain ⟨f1, f2, ty, f3, f4⟩ := e6 k hkn
  have hset := sm_cw_set (cyI := cyI) (cyB := cyB) (base := base) (ρ := sm_rho base tL tG bS) (I := I) (L := L) (P := P) (I1 := I1) (L1 := L1) (P1 := P1) (e := .inr (c0, ((List.range (sm_nf c0)).map (fun j => sm_cv (sm_rho base tL tG bS) (sm_fv c0 j a I L P))).set k (sm_cv (sm_rho base tL tG bS) v))) ha (by
    rw [sm_ce_o hy]
    refine congrArg (fun q => Sum.inr (c0, q)) (sm_fset (fun j hj => ?_) ?_)
    · rw [h4 j hj]
    · rw [h5]) h1 h2 h3
  have fin : ∀ (H1 : Heap) (locs1 : List Loc), va_P D vwCl ((sm_cw cyI cyB base (sm_rho base tL tG bS) N I L P).set a (base + a, .inr (c0, ((List.range (sm_nf c0)).map (fun j => sm_cv (sm_rho base tL tG bS) (sm_fv c0 j a I L P))).set k (sm_cv (sm_rho base tL tG bS) v)))) H1 → va_S (fun q => base ≤ q) s.heap H1 locs1 →
      W p l e R s m args below meth c H1 locs1 (N - N0) (sm_sl N - sm_sl N0) Q (F0 m (pc + 3) lsr (r.map (sm_cv (sm_rho base tL tG bS)))) := by
    intro H1 locs1 hP1 hS1
    rw [hset] at hP1
    exact g H1 locs1 lsr ⟨hK, hP1, hS1, hN⟩ hl hn
  have hlen : k < ((List.range (sm_nf c0)).map (fun j => sm_cv (sm_rho base tL tG bS) (sm_fv c0 j a I L P))).length := by
    rw [List.length_map, List.length_range]; omega
  have hty : ∀ k, k < n → parseFieldDescriptor (T k).2.2.1 = some ((fun k => (parseFieldDescriptor (T k).2.2.1).getD .int) k) := fun k hk => by
    obtain ⟨-, -, ty, e, -⟩ := e6 k hk
    dsimp only at e ⊢
    rw [e]; rfl
  cases hff : sm_ff c0 k with
  | false =>
    exact va_put (ref := C) (ty := ty) hx hb hts e2 (fun k => (parseFieldDescriptor (T k).2.2.1).getD .int) hty e7 hown hK hP (sm_D cyI cyB base (sm_rho base tL tG bS) N I L P) hS a hw hq k hkn (hts _ hlink) (fun y hy => by rw [← f1]; exact hy) (by rw [f2]; exact hff) f3 (hfit ty f4).1 (hfit ty f4).2 hlen hd (fun H1 locs1 hP1 _ hS1 => fin H1 locs1 hP1 hS1)
  | true =>
    rcases hfin with z | ⟨z1, z2⟩
    · rw [hff] at z; cases z
    · exact va_putF (ref := C) (ty := ty) hx hb hts e2 (fun k => (parseFieldDescriptor (T k).2.2.1).getD .int) hty e7 hown hK hP (sm_D cyI cyB base (sm_rho base tL tG bS) N I L P) hS a hw hq k hkn (hts _ hlink) (fun y hy => by rw [← f1]; exact hy) (by rw [f2]; exact hff) (hin z1) (by rw [f1, e5, z2]) f3 (hfit ty f4).1 (hfit ty f4).2 hlen hd (fun H1 locs1 hP1 _ hS1 => fin H1 locs1 hP1 hS1)
theorem sm_a_iald (hx : p.tables.exec = Jvm.exec) (hb : c.code = sm_b i) {x : Int32} {n a : Nat} (hd : decode (sm_b i) pc = .ok (.iaload, 1)) (ha : a < N) (hy : sm_lay a = .inr (.inl n)) (hin : ¬ (x < 0 ∨ n ≤ x.toNatClampNeg))
    (g : sm_Go p l e R s m args below meth c Q D cyI cyB base (sm_rho base tL tG bS) (sm_ml i) N0 (pc + 1, ls, .int (I a x.toNatClampNeg) :: r, N, I, L, P)) : sm_Go p l e R s m args below meth c Q D cyI cyB base (sm_rho base tL tG bS) (sm_ml i) N0 (pc, ls, .int x :: .ref a :: r, N, I, L, P) := by
  intro H locs lsr hk hl hn
  obtain ⟨hK, hP, hS, hN⟩ := id hk
  dsimp only at hN hP
  have hw := sm_cw_get (cyI := cyI) (cyB := cyB) (base := base) (ρ := sm_rho base tL tG bS) (I := I) (L := L) (P := P) ha
  rw [sm_ce_i hy] at hw
  have hρ : sm_rho base tL tG bS a = base + a := sm_rho_in (show a < 1000 by omega)
  show W p l e R s m args below meth c H locs (N - N0) (sm_sl N - sm_sl N0) Q (F0 m pc lsr (.int x :: .ref (sm_rho base tL tG bS a) :: r.map (sm_cv (sm_rho base tL tG bS))))
  rw [hρ]
  exact va_iald hx hb hK hP a 0 hw rfl hin hd (g H locs lsr hk hl hn)
theorem sm_a_iast (hx : p.tables.exec = Jvm.exec) (hb : c.code = sm_b i) {x v : Int32} {n a : Nat} (hd : decode (sm_b i) pc = .ok (.iastore, 1)) (ha : a < N) (hy : sm_lay a = .inr (.inl n)) (hin : ¬ (x < 0 ∨ n ≤ x.toNatClampNeg))
    (g : sm_Go p l e R s m args below meth c Q D cyI cyB base (sm_rho base tL tG bS) (sm_ml i) N0 (pc + 1, ls, r, N, sm_up I a x.toNatClampNeg v, L, P)) : sm_Go p l e R s m args below meth c Q D cyI cyB base (sm_rho base tL tG bS) (sm_ml i) N0 (pc, ls, .int v :: .int x :: .ref a :: r, N, I, L, P) := by
  intro H locs lsr hk hl hn
  obtain ⟨hK, hP, hS, hN⟩ := id hk
  dsimp only at hN hP
  have hw := sm_cw_get (cyI := cyI) (cyB := cyB) (base := base) (ρ := sm_rho base tL tG bS) (I := I) (L := L) (P := P) ha
  rw [sm_ce_i hy] at hw
  have hρ : sm_rho base tL tG bS a = base + a := sm_rho_in (show a < 1000 by omega)
  show W p l e R s m args below meth c H locs (N - N0) (sm_sl N - sm_sl N0) Q (F0 m pc lsr (.int v :: .int x :: .ref (sm_rho base tL tG bS a) :: r.map (sm_cv (sm_rho base tL tG bS))))
  rw [hρ]
  refine va_iast hx hb hK hP (sm_D cyI cyB base (sm_rho base tL tG bS) N I L P) hS a 0 hw rfl hin hd fun H1 locs1 hP1 _ hS1 => ?_
  rw [sm_cw_set (I1 := sm_up I a x.toNatClampNeg v) (L1 := L) (P1 := P) ha (by
    rw [sm_ce_i hy]
    refine congrArg (fun q => Sum.inl (cyI, n, Sum.inl q)) (funext fun j => ?_)
    unfold sm_up upd
    by_cases hj : j = x.toNatClampNeg <;> simp [hj]) (fun b hb => funext fun j => by unfold sm_up; simp [hb]) (fun _ _ => rfl) (fun _ _ => rfl)] at hP1
  exact g H1 locs1 lsr ⟨hK, hP1, hS1, hN⟩ hl hn
theorem sm_a_aald (hx : p.tables.exec = Jvm.exec) (hb : c.code = sm_b i) {x : Int32} {n a : Nat} (hd : decode (sm_b i) pc = .ok (.aaload, 1)) (ha : a < N) (hy : sm_lay a = .inr (.inr n)) (hin : ¬ (x < 0 ∨ n ≤ x.toNatClampNeg))
    (g : sm_Go p l e R s m args below meth c Q D cyI cyB base (sm_rho base tL tG bS) (sm_ml i) N0 (pc + 1, ls, va_rf (P a x.toNatClampNeg) :: r, N, I, L, P)) : sm_Go p l e R s m args below meth c Q D cyI cyB base (sm_rho base tL tG bS) (sm_ml i) N0 (pc, ls, .int x :: .ref a :: r, N, I, L, P) := by
  intro H locs lsr hk hl hn
  obtain ⟨hK, hP, hS, hN⟩ := id hk
  dsimp only at hN hP
  have hw := sm_cw_get (cyI := cyI) (cyB := cyB) (base := base) (ρ := sm_rho base tL tG bS) (I := I) (L := L) (P := P) ha
  rw [sm_ce_r hy] at hw
  have hρ : sm_rho base tL tG bS a = base + a := sm_rho_in (show a < 1000 by omega)
  show W p l e R s m args below meth c H locs (N - N0) (sm_sl N - sm_sl N0) Q (F0 m pc lsr (.int x :: .ref (sm_rho base tL tG bS a) :: r.map (sm_cv (sm_rho base tL tG bS))))
  rw [hρ]
  have gg := g H locs lsr hk hl hn
  dsimp only [List.map] at gg
  rw [sm_cv_rf] at gg
  exact va_aldq (C := "FeltByTwin$Birth") hx hb hK hP a 1 hw rfl hin hd gg
theorem sm_a_aast (hx : p.tables.exec = Jvm.exec) (hb : c.code = sm_b i) {x : Int32} {n a v : Nat} (hd : decode (sm_b i) pc = .ok (.aastore, 1)) (ha : a < N) (hv : v < N) (hvy : sm_lay v = .inl 0) (hy : sm_lay a = .inr (.inr n)) (hin : ¬ (x < 0 ∨ n ≤ x.toNatClampNeg))
    (g : sm_Go p l e R s m args below meth c Q D cyI cyB base (sm_rho base tL tG bS) (sm_ml i) N0 (pc + 1, ls, r, N, I, L, sm_up P a x.toNatClampNeg (some v))) : sm_Go p l e R s m args below meth c Q D cyI cyB base (sm_rho base tL tG bS) (sm_ml i) N0 (pc, ls, .ref v :: .int x :: .ref a :: r, N, I, L, P) := by
  intro H locs lsr hk hl hn
  obtain ⟨hK, hP, hS, hN⟩ := id hk
  dsimp only at hN hP
  have hw := sm_cw_get (cyI := cyI) (cyB := cyB) (base := base) (ρ := sm_rho base tL tG bS) (I := I) (L := L) (P := P) ha
  rw [sm_ce_r hy] at hw
  have hw2 := sm_cw_get (cyI := cyI) (cyB := cyB) (base := base) (ρ := sm_rho base tL tG bS) (I := I) (L := L) (P := P) hv
  rw [sm_ce_o hvy] at hw2
  have hρ : sm_rho base tL tG bS a = base + a := sm_rho_in (show a < 1000 by omega)
  have hρv : sm_rho base tL tG bS v = base + v := sm_rho_in (show v < 1000 by omega)
  show W p l e R s m args below meth c H locs (N - N0) (sm_sl N - sm_sl N0) Q (F0 m pc lsr (.ref (sm_rho base tL tG bS v) :: .int x :: .ref (sm_rho base tL tG bS a) :: r.map (sm_cv (sm_rho base tL tG bS))))
  rw [hρ, hρv]
  refine va_astq (r := (RX0, TX0, 4)) hx hb hK hP (sm_D cyI cyB base (sm_rho base tL tG bS) N I L P) hS a 1 v 0 hw rfl hw2 rfl hin hd fun H1 locs1 hP1 _ hS1 => ?_
  rw [sm_cw_set (I1 := I) (L1 := L) (P1 := sm_up P a x.toNatClampNeg (some v)) ha (by
    rw [sm_ce_r hy]
    refine congrArg (fun q => Sum.inl (cyB, n, Sum.inr (Sum.inr (Sum.inr (Sum.inr q))))) (funext fun j => ?_)
    unfold sm_up va_up
    by_cases hj : j = x.toNatClampNeg
    · simp [hj, hρv]
    · simp [hj]) (fun _ _ => rfl) (fun _ _ => rfl) (fun b hb => funext fun j => by unfold sm_up; simp [hb])] at hP1
  exact g H1 locs1 lsr ⟨hK, hP1, hS1, hN⟩ hl hn
end SMS
