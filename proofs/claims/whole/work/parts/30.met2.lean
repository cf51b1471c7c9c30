section SME
theorem sm_run_N {C : sm_Cf} {X : sm_Xs} {i : Nat} (hC : ∀ (j : Nat) (as : List Value) (N : Nat) (I : sm_Im) (L : sm_Lm) (P : sm_Pm) (r : sm_Rs), C j as N I L P = some r → N ≤ r.2.1 ∧ (N ≤ 1000 → r.2.1 ≤ 1000)) : ∀ (n : Nat) (t : sm_St) (r : sm_Rs), sm_run C X i n t = some r → t.2.2.2.1 ≤ r.2.1 ∧ (t.2.2.2.1 ≤ 1000 → r.2.1 ≤ 1000) := by
  intro n
  induction n with
  | zero => intro t r h; cases h
  | succ n ih =>
    intro t r h
    unfold sm_run at h
    cases hs : sm_S C X i t with
    | none => rw [hs] at h; cases h
    | some q =>
      rw [hs] at h
      cases q with
      | inl r1 =>
        obtain rfl := Option.some.inj h
        have := (sm_ret_S hs).1
        have e : r1.2.1 = t.2.2.2.1 := congrArg (fun q => q.1) this
        rw [e]
        exact ⟨Nat.le_refl _, id⟩
      | inr t1 =>
        have a := sm_grow_S hC hs
        have b := ih t1 r h
        exact ⟨Nat.le_trans a.1 b.1, fun q => b.2 (a.2 q)⟩
theorem sm_ex_N : ∀ (d j : Nat) (as : List Value) (N : Nat) (I : sm_Im) (L : sm_Lm) (P : sm_Pm) (r : sm_Rs), sm_ex d j as N I L P = some r → N ≤ r.2.1 ∧ (N ≤ 1000 → r.2.1 ≤ 1000) := by
  intro d
  induction d with
  | zero => intro j as N I L P r h; cases h
  | succ d ih =>
    intro j as N I L P r h
    obtain ⟨-, h⟩ := sm_if h
    obtain ⟨n, hn⟩ := sm_lim_iff.mp h
    exact sm_run_N ih n _ r hn
variable {p : Program} {l : Launch} {e : Env} {R : Room} {s : State} {m : MethodId} {args : Array Value} {below : List Frame} {meth : Method} {c : Code} {D : va_G} {cyI cyB : ClassId} {base tL tG bS N0 i d : Nat} {C : sm_Cf} {X : sm_Xs}
/-- from a state of the small machine that comes to an answer, the machine comes to it -/
theorem sm_runs (hx : p.tables.exec = Jvm.exec) (hb : c.code = sm_b i) (hml : c.maxLocals = sm_ml i) (hr : meth.sig.returnType = sm_rt i) (hlocks : meth.locks = false) (hown : s.vm.findClass (sm_cn (sm_o i)) = some m.cls) (hts : ∀ w ∈ sm_W, w.before args s = true) (hE : sm_En base tL tG s) (hX : ∀ q, X = some q → va_X bS q.1 q.2 s s.heap ∧ bS < base) (hin : sm_kd i = 2 → meth.name = "<init>") (hs : s.heap.size = base + N0) (hR : d + 1 ≤ R.frames ∧ 64 * (d + 1) ≤ R.locals) (hG : ∀ (j : Nat) (as : List Value) (N : Nat) (I : sm_Im) (L : sm_Lm) (P : sm_Pm) (r : sm_Rs), C j as N I L P = some r → N ≤ r.2.1 ∧ (N ≤ 1000 → r.2.1 ≤ 1000)) (hC : sm_CM l D cyI cyB base tL tG bS d C) (r : sm_Rs) (hNf : r.2.1 - N0 ≤ R.cells ∧ sm_sl r.2.1 - sm_sl N0 ≤ R.slots) :
    ∀ (n : Nat) (t : sm_St), sm_run C X i n t = some r → sm_Go p l e R s m args below meth c (MQ below (sm_Qc D cyI cyB base (sm_rho base tL tG bS) r) args s (r.2.1 - N0) (sm_sl r.2.1 - sm_sl N0) (fun q => base ≤ q)) D cyI cyB base (sm_rho base tL tG bS) (sm_ml i) N0 t := by
  intro n
  induction n with
  | zero => intro t h; cases h
  | succ n ih =>
    intro t h
    unfold sm_run at h
    cases hS1 : sm_S C X i t with
    | none => rw [hS1] at h; cases h
    | some q =>
      rw [hS1] at h
      cases q with
      | inr t1 =>
        exact sm_step hx hb hml hown hts hE hX hin hs hR hNf hC hS1 (sm_run_N hG n t1 r h).1 (ih t1 h)
      | inl r1 =>
        obtain rfl := Option.some.inj h
        obtain ⟨pc, ls, st, N, I, L, P⟩ := t
        obtain ⟨o, M⟩ := r1
        obtain ⟨e1, e2⟩ := sm_ret_S hS1
        dsimp only at e1
        subst e1
        intro H locs lsr hk hl hn
        obtain ⟨hK, hP, hS, hN⟩ := hk
        dsimp only at hK hP hS hN e2 ⊢
        rcases e2 with ⟨v, hd, rfl, rfl, hrt⟩ | ⟨v, hd, rfl, rfl, hrt⟩ | ⟨v, hd, rfl, rfl, hrt⟩ | ⟨hd, rfl, rfl, hrt⟩
        · rcases hrt with hrt | ⟨hrt, hv⟩
          · exact W.iret hx hb (by rw [hr, hrt]) (fun t ht hW => ⟨⟨rfl, by rw [ht]; exact hP⟩, hS.F ht⟩) hS.2.2 hd hlocks
          · exact W.zret hx hb (by rw [hr, hrt]) (by show Value.int (v &&& 1) = _; rw [hv]) (fun t ht hW => ⟨⟨rfl, by rw [ht]; exact hP⟩, hS.F ht⟩) hS.2.2 hd hlocks
        · exact W.lret hx hb (by rw [hr, hrt]) (fun t ht hW => ⟨⟨rfl, by rw [ht]; exact hP⟩, hS.F ht⟩) hS.2.2 hd hlocks
        · refine W.aret (v := sm_cv (sm_rho base tL tG bS) (va_rf v)) hx hb (by rw [hr, hrt]) (Or.inl ⟨_, rfl⟩) ?_ (fun t ht hW => ⟨⟨rfl, by rw [ht]; exact hP⟩, hS.F ht⟩) hS.2.2 hd hlocks
          cases v with
          | none => exact Or.inl rfl
          | some a => exact Or.inr ⟨_, rfl⟩
        · exact W.vret hx hb (by rw [hr, hrt]) (fun t ht hW => ⟨⟨rfl, by rw [ht]; exact hP⟩, hS.F ht⟩) hS.2.2 hd hlocks
theorem sm_ent_len (ρ : Nat → Nat) : ∀ as : List Value, (lg_sl (as.map (sm_cv ρ))).length = (sm_ent as).length := by
  intro as
  induction as with
  | nil => rfl
  | cons v t ih =>
    have e : lg_sl ((v :: t).map (sm_cv ρ)) = (if (sm_cv ρ v).category = 2 then [Slot.val (sm_cv ρ v), .second] else [Slot.val (sm_cv ρ v)]) ++ lg_sl (t.map (sm_cv ρ)) := by simp [lg_sl]
    rw [e, sm_cv_cat]
    cases v <;> simp [sm_ent, Value.category, ih] <;> omega
theorem sm_ent_get (ρ : Nat → Nat) : ∀ (as : List Value) (k : Nat) (v : Value), (sm_ent as)[k]? = some (some v) → (lg_sl (as.map (sm_cv ρ)))[k]? = some (.val (sm_cv ρ v)) := by
  intro as
  induction as with
  | nil => intro k v h; simp [sm_ent] at h
  | cons w t ih =>
    intro k v h
    have e : lg_sl ((w :: t).map (sm_cv ρ)) = (if (sm_cv ρ w).category = 2 then [Slot.val (sm_cv ρ w), .second] else [Slot.val (sm_cv ρ w)]) ++ lg_sl (t.map (sm_cv ρ)) := by simp [lg_sl]
    rw [e, sm_cv_cat]
    cases w with
    | long x =>
      match k, h with
      | 0, h => simp [sm_ent] at h; subst h; rfl
      | 1, h => simp [sm_ent] at h
      | k + 2, h => simp only [sm_ent, List.getElem?_cons_succ] at h; exact ih k v h
    | double x =>
      match k, h with
      | 0, h => simp [sm_ent] at h; subst h; rfl
      | 1, h => simp [sm_ent] at h
      | k + 2, h => simp only [sm_ent, List.getElem?_cons_succ] at h; exact ih k v h
    | _ =>
      match k, h with
      | 0, h => simp [sm_ent] at h; subst h; rfl
      | k + 1, h => simp only [sm_ent, List.getElem?_cons_succ] at h; exact ih k v h
theorem sm_lh_ent (ρ : Nat → Nat) {j : Nat} {as : List Value} (h : (sm_ent as).length ≤ sm_ml j) : sm_lh ρ ((lg_sl (as.map (sm_cv ρ)) ++ List.replicate (sm_ml j - (lg_sl (as.map (sm_cv ρ))).length) Slot.unset).toArray) (sm_ml j) (sm_lsl j as) := by
  have hl := lv_entry (as.map (sm_cv ρ)) (n := sm_ml j) (by rw [sm_ent_len]; exact h)
  refine ⟨hl.1, hl.2.1, fun k v hk => ?_⟩
  unfold sm_lsl at hk
  rw [List.getElem?_toArray]
  by_cases hlt : k < (sm_ent as).length
  · rw [List.getElem?_append_left hlt] at hk
    rw [List.getElem?_append_left (by rw [sm_ent_len]; exact hlt)]
    exact sm_ent_get ρ as k v hk
  · rw [List.getElem?_append_right (by omega), List.getElem?_replicate] at hk
    split at hk <;> cases hk
theorem sm_met (l : Launch) (D : va_G) (cyI cyB : ClassId) (base tL tG bS : Nat) : ∀ d, sm_CM l D cyI cyB base tL tG bS d (sm_ex d) := by
  intro d
  induction d with
  | zero => intro j as N I L P r hj h hN; cases h
  | succ d ih =>
    intro j as N I L P r hj h hN
    have hg := sm_ex_N (d + 1) j as N I L P r h
    refine ⟨hg.1, hg.2 hN, ?_⟩
    obtain ⟨hlen, h⟩ := sm_if h
    obtain ⟨n, hn⟩ := sm_lim_iff.mp h
    obtain ⟨f1, -, -, -, f5, f6, f7, f8, f9⟩ := sm_m_facts hj
    refine va_MetF (cc := sm_b j) (maxL := sm_ml j) (ret := sm_rt j) f7 rfl ?_
    intro p e s m args below meth c s₁ B hml hv
    obtain ⟨rfl, hsz, hP, hK, hE, hN2⟩ := hv
    have hts0 := atoms_spec (ws := sm_ws j) B.pre
    have hts : ∀ w ∈ sm_W, w.before (as.map (sm_cv (sm_rho base tL tG bS))).toArray s = true := fun w hw => hts0 w (List.mem_cons_of_mem _ hw)
    have hown : s.vm.findClass (sm_y j).cls = some m.cls := findClass_of_methodNamed B.named
    rw [f6] at hown
    rw [lg_entry_eq]
    have key := sm_runs (R := sm_rm (d + 1) N r.2.1) (X := none) (i := j) (N0 := N) (below := below) (e := e) (p := p) (d := d) (hx := B.exec) (hb := B.bytes) (hml := hml) (hr := B.returns) (hlocks := B.notSynchronized) (hown := hown) (hts := hts) (hE := hE) (hX := fun q hq => by cases hq) (hin := fun q => ((name_of_methodNamed B.named B.method).1).trans (f9 q).1) (hs := hsz) (hR := ⟨Nat.le_refl _, Nat.le_refl _⟩) (hG := sm_ex_N d) (hC := ih) r ⟨Nat.le_refl _, Nat.le_refl _⟩ n _ hn s.heap [] _ ⟨hK, hP, va_S.rf, hN⟩ (sm_lh_ent (sm_rho base tL tG bS) hlen) (Nat.le_refl N)
    dsimp only at key
    rw [Nat.sub_self, Nat.sub_self] at key
    exact key
end SME
