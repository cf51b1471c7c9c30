/-! THE LINK between the small machine and the machine of the claim -/
def sm_rho (base tL tG bS k : Nat) : Nat := if k = 1048576 then tL else if k = 1048577 then tG else if k = 1048578 then bS else base + k
def sm_cv (ρ : Nat → Nat) (v : Value) : Value := match v with
  | .ref k => .ref (ρ k)
  | v => v
theorem sm_cv_rf (ρ : Nat → Nat) (o : Option Nat) : sm_cv ρ (va_rf o) = va_rf (o.map ρ) := by cases o <;> rfl
theorem sm_cv_cat (ρ : Nat → Nat) (v : Value) : (sm_cv ρ v).category = v.category := by cases v <;> rfl
def sm_ce (cyI cyB : ClassId) (ρ : Nat → Nat) (I : sm_Im) (L : sm_Lm) (P : sm_Pm) (k : Nat) : va_E := match sm_lay k with
  | .inl c => .inr (c, (List.range (sm_nf c)).map (fun j => sm_cv ρ (sm_fv c j k I L P)))
  | .inr (.inl n) => .inl (cyI, n, .inl (I k))
  | .inr (.inr n) => .inl (cyB, n, .inr (.inr (.inr (.inr (fun j => (P k j).map ρ)))))
def sm_cw (cyI cyB : ClassId) (base : Nat) (ρ : Nat → Nat) (N : Nat) (I : sm_Im) (L : sm_Lm) (P : sm_Pm) : va_W := (List.range N).map (fun k => (base + k, sm_ce cyI cyB ρ I L P k))
theorem sm_cw_get {cyI cyB : ClassId} {base : Nat} {ρ : Nat → Nat} {N : Nat} {I : sm_Im} {L : sm_Lm} {P : sm_Pm} {k : Nat} (h : k < N) : (sm_cw cyI cyB base ρ N I L P)[k]? = some (base + k, sm_ce cyI cyB ρ I L P k) := by
  unfold sm_cw
  rw [List.getElem?_map, List.getElem?_range h]
  rfl
theorem sm_ce_eq {cyI cyB : ClassId} {ρ : Nat → Nat} {I I1 : sm_Im} {L L1 : sm_Lm} {P P1 : sm_Pm} {k : Nat} (h1 : I1 k = I k) (h2 : L1 k = L k) (h3 : P1 k = P k) : sm_ce cyI cyB ρ I1 L1 P1 k = sm_ce cyI cyB ρ I L P k := by
  unfold sm_ce
  rw [h1, h3]
  have : ∀ c j, sm_fv c j k I1 L1 P1 = sm_fv c j k I L P := fun c j => by unfold sm_fv; rw [h1, h2, h3]
  simp only [this]
theorem sm_cw_set {cyI cyB : ClassId} {base : Nat} {ρ : Nat → Nat} {N : Nat} {I I1 : sm_Im} {L L1 : sm_Lm} {P P1 : sm_Pm} {a : Nat} {e : va_E} (h : a < N) (he : sm_ce cyI cyB ρ I1 L1 P1 a = e) (h1 : ∀ k, k ≠ a → I1 k = I k) (h2 : ∀ k, k ≠ a → L1 k = L k) (h3 : ∀ k, k ≠ a → P1 k = P k) :
    (sm_cw cyI cyB base ρ N I L P).set a (base + a, e) = sm_cw cyI cyB base ρ N I1 L1 P1 := by
  apply List.ext_getElem?
  intro k
  by_cases hk : k < N
  · rw [sm_cw_get hk]
    by_cases ha : k = a
    · subst ha
      rw [List.getElem?_set_self (by unfold sm_cw; simpa using hk), he]
    · rw [List.getElem?_set_ne (fun q => ha q.symm), sm_cw_get hk, sm_ce_eq (h1 k ha) (h2 k ha) (h3 k ha)]
  · rw [List.getElem?_eq_none (by unfold sm_cw; simpa using hk), List.getElem?_eq_none (by unfold sm_cw; simpa using hk)]
theorem sm_cw_add {cyI cyB : ClassId} {base : Nat} {ρ : Nat → Nat} {N : Nat} {I I1 : sm_Im} {L L1 : sm_Lm} {P P1 : sm_Pm} {e : va_E} (he : sm_ce cyI cyB ρ I1 L1 P1 N = e) (h1 : ∀ k, k ≠ N → I1 k = I k) (h2 : ∀ k, k ≠ N → L1 k = L k) (h3 : ∀ k, k ≠ N → P1 k = P k) :
    sm_cw cyI cyB base ρ N I L P ++ [(base + N, e)] = sm_cw cyI cyB base ρ (N + 1) I1 L1 P1 := by
  unfold sm_cw
  rw [List.range_succ, List.map_append]
  congr 1
  · apply List.map_congr_left
    intro k hk
    have := List.mem_range.mp hk
    rw [sm_ce_eq (h1 k (by omega)) (h2 k (by omega)) (h3 k (by omega))]
  · rw [List.map_cons, he]; rfl
theorem sm_D (cyI cyB : ClassId) (base : Nat) (ρ : Nat → Nat) (N : Nat) (I : sm_Im) (L : sm_Lm) (P : sm_Pm) : va_D (fun q => base ≤ q) (sm_cw cyI cyB base ρ N I L P) := by
  have key : ∀ (k : Nat) (q : Nat × va_E), (sm_cw cyI cyB base ρ N I L P)[k]? = some q → q.1 = base + k := by
    intro k q h
    have hk : k < N := by
      have := (List.getElem?_eq_some_iff.mp h).1
      unfold sm_cw at this
      simpa using this
    rw [sm_cw_get hk] at h
    cases h
    rfl
  refine ⟨fun i j p q hp hq he => ?_, fun k q hq => ?_⟩
  · have h1 := key i p hp
    have h2 := key j q hq
    omega
  · have h1 := key k q hq
    show base ≤ q.1
    omega
def sm_sz (k : Nat) : Nat := match sm_lay k with
  | .inl c => sm_nf c
  | .inr (.inl n) => n
  | .inr (.inr n) => n
def sm_sl : Nat → Nat
  | 0 => 0
  | n + 1 => sm_sl n + sm_sz n
theorem sm_sl_mono {a b : Nat} (h : a ≤ b) : sm_sl a ≤ sm_sl b := by
  induction h with
  | refl => exact Nat.le_refl _
  | step h ih => exact Nat.le_trans ih (Nat.le_add_right _ _)
/-- the locals -/
def sm_lh (ρ : Nat → Nat) (lsr : Array Slot) (nL : Nat) (ls : List (Option Value)) : Prop := lsr.size = nL ∧ lv_wf lsr ∧ ∀ (k : Nat) (v : Value), ls[k]? = some (some v) → lsr[k]? = some (.val (sm_cv ρ v))
def sm_lvl (ρ : Nat → Nat) (ls : List (Option Value)) : List (Nat × Value) := (List.range ls.length).filterMap (fun k => match ls[k]? with
  | some (some v) => some (k, sm_cv ρ v)
  | _ => none)
theorem sm_lvl_mem {ρ : Nat → Nat} {ls : List (Option Value)} {k : Nat} {w : Value} : (k, w) ∈ sm_lvl ρ ls ↔ ∃ v, ls[k]? = some (some v) ∧ w = sm_cv ρ v := by
  unfold sm_lvl
  rw [List.mem_filterMap]
  constructor
  · rintro ⟨j, -, hj⟩
    cases h : ls[j]? with
    | none => rw [h] at hj; cases hj
    | some o =>
      cases o with
      | none => rw [h] at hj; cases hj
      | some v =>
        rw [h] at hj
        cases hj
        exact ⟨v, h, rfl⟩
  · rintro ⟨v, hv, rfl⟩
    refine ⟨k, List.mem_range.mpr (List.getElem?_eq_some_iff.mp hv).1, ?_⟩
    rw [hv]
theorem sm_lh_has {ρ : Nat → Nat} {lsr : Array Slot} {nL : Nat} {ls : List (Option Value)} (h : sm_lh ρ lsr nL ls) : lv_has lsr nL (sm_lvl ρ ls) := by
  refine ⟨h.1, h.2.1, fun q hq => ?_⟩
  obtain ⟨k, w⟩ := q
  obtain ⟨v, hv, rfl⟩ := sm_lvl_mem.mp hq
  exact h.2.2 k v hv
theorem sm_s1_get {ls : List (Option Value)} {n k : Nat} {v w : Value} (h : (sm_s1 ls n v)[k]? = some (some w)) : (k = n ∧ w = v) ∨ (k ≠ n ∧ ls[k]? = some (some w) ∧ ¬ (k + 1 = n ∧ w.category = 2)) := by
  unfold sm_s1 at h
  rw [List.getElem?_set] at h
  by_cases hk : n = k
  · subst hk
    left
    rw [if_pos rfl] at h
    by_cases hl : n < (if n = 0 then ls else ls.set (n - 1) (sm_cl (ls[n - 1]?.getD none))).length
    · rw [if_pos hl] at h; cases h; exact ⟨rfl, rfl⟩
    · rw [if_neg hl] at h; cases h
  · rw [if_neg hk] at h
    right
    refine ⟨fun q => hk q.symm, ?_⟩
    by_cases h0 : n = 0
    · rw [if_pos h0] at h
      exact ⟨h, fun q => by omega⟩
    · rw [if_neg h0, List.getElem?_set] at h
      by_cases h1 : n - 1 = k
      · rw [if_pos h1] at h
        subst h1
        split at h
        · cases hl : ls[n - 1]? with
          | none => rw [hl] at h; cases h
          | some o =>
            rw [hl] at h
            cases o with
            | none => cases h
            | some u =>
              cases u <;> first | (cases h; exact ⟨rfl, fun q => by have := q.2; simp [Value.category] at this⟩) | cases h
        · cases h
      · rw [if_neg h1] at h
        exact ⟨h, fun q => by omega⟩
theorem sm_lh_1 {ρ : Nat → Nat} {lsr : Array Slot} {nL n : Nat} {ls : List (Option Value)} {v : Value} (h : lv_has lsr nL ((n, sm_cv ρ v) :: (sm_lvl ρ ls).filter (fun q => !(q.1 == n) && !(q.1 + 1 == n && q.2.category == 2)))) : sm_lh ρ lsr nL (sm_s1 ls n v) := by
  refine ⟨h.1, h.2.1, fun k w hk => ?_⟩
  rcases sm_s1_get hk with ⟨rfl, rfl⟩ | ⟨h1, h2, h3⟩
  · exact h.2.2 (k, sm_cv ρ w) List.mem_cons_self
  · refine h.2.2 (k, sm_cv ρ w) (List.mem_cons_of_mem _ (List.mem_filter.mpr ⟨sm_lvl_mem.mpr ⟨w, h2, rfl⟩, ?_⟩))
    rw [sm_cv_cat]
    simp only [Bool.and_eq_true, Bool.not_eq_true', beq_eq_false_iff_ne, ne_eq, Bool.and_eq_false_iff]
    refine ⟨h1, ?_⟩
    by_cases a : k + 1 = n
    · exact Or.inr fun q => h3 ⟨a, q⟩
    · exact Or.inl a
theorem sm_lh_2 {ρ : Nat → Nat} {lsr : Array Slot} {nL n : Nat} {ls : List (Option Value)} {v : Value} (h : lv_has lsr nL ((n, sm_cv ρ v) :: (sm_lvl ρ ls).filter (fun q => !(q.1 == n) && (!(q.1 == n + 1) && !(q.1 + 1 == n && q.2.category == 2))))) : sm_lh ρ lsr nL (sm_s2 ls n v) := by
  refine ⟨h.1, h.2.1, fun k w hk => ?_⟩
  unfold sm_s2 at hk
  rw [List.getElem?_set] at hk
  by_cases hn : n + 1 = k
  · rw [if_pos hn] at hk
    split at hk <;> cases hk
  · rw [if_neg hn] at hk
    rcases sm_s1_get hk with ⟨rfl, rfl⟩ | ⟨h1, h2, h3⟩
    · exact h.2.2 (k, sm_cv ρ w) List.mem_cons_self
    · refine h.2.2 (k, sm_cv ρ w) (List.mem_cons_of_mem _ (List.mem_filter.mpr ⟨sm_lvl_mem.mpr ⟨w, h2, rfl⟩, ?_⟩))
      rw [sm_cv_cat]
      simp only [Bool.and_eq_true, Bool.not_eq_true', beq_eq_false_iff_ne, ne_eq, Bool.and_eq_false_iff]
      refine ⟨h1, fun q => hn q.symm, ?_⟩
      by_cases a : k + 1 = n
      · exact Or.inr fun q => h3 ⟨a, q⟩
      · exact Or.inl a
theorem sm_iinc_get {ρ : Nat → Nat} {ls : List (Option Value)} {n : Nat} {x : Int32} (h : ls[n]? = some (some (.int x))) : ∃ k : Nat, (sm_lvl ρ ls)[k]? = some (n, Value.int x) := List.getElem?_of_mem (sm_lvl_mem.mpr ⟨_, h, rfl⟩)
/-- the world -/
def sm_ty (cyI cyB : ClassId) : List (ClassId × FieldType) := [(cyI, .int), (cyB, .object "FeltByTwin$Birth")]
def sm_nest : List Cond := lw_tbl.filter (fun w => match w with
  | .methodLinkNest _ _ _ _ => true
  | _ => false)
def sm_En (base tL tG : Nat) (U : State) : Prop := va_AO "FeltByTwin$Birth" U ∧ (∀ w ∈ sm_nest, va_Nw w U) ∧ base ≤ U.heap.size ∧
  (va_Z "FeltByTwin$News" "LESSER" "[I" (.ref tL) (fun q => base ≤ q) U U.heap ∧ va_T .int tL 15 (fun j => .int (sm_tab 0 j)) (fun q => base ≤ q) U U.heap) ∧
  (va_Z "FeltByTwin$News" "GREATER" "[I" (.ref tG) (fun q => base ≤ q) U U.heap ∧ va_T .int tG 15 (fun j => .int (sm_tab 1 j)) (fun q => base ≤ q) U U.heap)
def sm_Lk (D : va_G) (cyI cyB : ClassId) (base : Nat) (ρ : Nat → Nat) (s : State) (H : Heap) (locs : List Loc) (N : Nat) (I : sm_Im) (L : sm_Lm) (P : sm_Pm) : Prop :=
  va_K D vwCl (sm_ty cyI cyB) s ∧ va_P D vwCl (sm_cw cyI cyB base ρ N I L P) H ∧ va_S (fun q => base ≤ q) s.heap H locs ∧ N ≤ 1000
def sm_Go (p : Program) (l : Launch) (e : Env) (R : Room) (s : State) (m : MethodId) (args : Array Value) (below : List Frame) (meth : Method) (c : Code) (Q : State → Prop) (D : va_G) (cyI cyB : ClassId) (base : Nat) (ρ : Nat → Nat) (nL N0 : Nat) (t : sm_St) : Prop :=
  ∀ (H : Heap) (locs : List Loc) (lsr : Array Slot), sm_Lk D cyI cyB base ρ s H locs t.2.2.2.1 t.2.2.2.2.1 t.2.2.2.2.2.1 t.2.2.2.2.2.2 → sm_lh ρ lsr nL t.2.1 → N0 ≤ t.2.2.2.1 →
    W p l e R s m args below meth c H locs (t.2.2.2.1 - N0) (sm_sl t.2.2.2.1 - sm_sl N0) Q (F0 m t.1 lsr (t.2.2.1.map (sm_cv ρ)))
def sm_ws (j : Nat) : List Cond := .code (sm_y j) (sm_b j) (sm_ml j) (sm_rt j) :: sm_W
def sm_rm (d N N1 : Nat) : Room := { frames := d, cells := N1 - N, slots := sm_sl N1 - sm_sl N, locals := 64 * d }
def sm_Pc (D : va_G) (cyI cyB : ClassId) (base : Nat) (ρ : Nat → Nat) (tL tG : Nat) (as : List Value) (N : Nat) (I : sm_Im) (L : sm_Lm) (P : sm_Pm) : Array Value → State → Prop :=
  va_Pc (as.map (sm_cv ρ)) (fun U => U.heap.size = base + N ∧ va_P D vwCl (sm_cw cyI cyB base ρ N I L P) U.heap ∧ va_K D vwCl (sm_ty cyI cyB) U ∧ sm_En base tL tG U ∧ N ≤ 1000)
def sm_Qc (D : va_G) (cyI cyB : ClassId) (base : Nat) (ρ : Nat → Nat) (r : sm_Rs) : Array Value → State → Outcome → State → Prop := fun _ st oc t =>
  (oc = .returned (r.1.map (sm_cv ρ)) ∧ va_P D vwCl (sm_cw cyI cyB base ρ r.2.1 r.2.2.1 r.2.2.2.1 r.2.2.2.2) t.heap) ∧ va_F (fun q => base ≤ q) st t
theorem sm_En.warm {base tL tG : Nat} {s U : State} {H : Heap} {locs : List Loc} (h : sm_En base tL tG s) (hW : s.WarmedH U.vm) (hS : va_S (fun q => base ≤ q) s.heap H locs) (hU : U.heap = H) : sm_En base tL tG U := by
  obtain ⟨h1, h2, h3, ⟨h4, h5⟩, h6, h7⟩ := h
  subst hU
  have hk : ∀ a : Nat, a < s.heap.size → ¬ (fun q => base ≤ q) a → U.heap[a]? = s.heap[a]? := fun a ha hb => hS.2.1 a ha hb
  refine ⟨h1.moved hW.alike, fun w hw => ?_, Nat.le_trans h3 hS.1, ⟨(h4.kept hk).moved hW.alike, (h5.kept hk).moved hW.alike⟩, (h6.kept hk).moved hW.alike, (h7.kept hk).moved hW.alike⟩
  have := (List.mem_filter.mp hw).2
  cases w with
  | methodLinkNest a i y h => exact va_Nw.warmM hW (h2 _ hw)
  | _ => cases this
theorem sm_Pc.blind {D : va_G} {cyI cyB : ClassId} {base : Nat} {ρ : Nat → Nat} {tL tG : Nat} {as : List Value} {N : Nat} {I : sm_Im} {L : sm_Lm} {P : sm_Pm} : FrameBlind (sm_Pc D cyI cyB base ρ tL tG as N I L P) := by
  intro a U g mk q
  obtain ⟨q0, q1, q2, q3, ⟨e1, e2, e3, ⟨e4, e5⟩, e6, e7⟩, q5⟩ := q
  have al : U.vm.Alike (U.calling g mk a).vm := Vm.Alike.refl U.vm
  refine ⟨q0, q1, q2, va_K.moved al q3, ⟨e1.moved al, fun w hw => ?_, e3, ⟨e4.moved al, e5.moved al⟩, e6.moved al, e7.moved al⟩, q5⟩
  have := (List.mem_filter.mp hw).2
  cases w with
  | methodLinkNest a i y h => exact va_Nw.same rfl rfl (e2 _ hw)
  | _ => cases this
theorem sm_hsz {p : Program} {l : Launch} {e : Env} {R : Room} {s : State} {m : MethodId} {args : Array Value} {below : List Frame} {meth : Method} {c : Code} {T : State} {locs : List Loc} {D : va_G} {cyI cyB : ClassId} {base N0 N z : Nat} {ρ : Nat → Nat} {I : sm_Im} {L : sm_Lm} {P : sm_Pm} (X : Stand p l e R s m args below meth c T locs (N - N0) z) (hs : s.heap.size = base + N0) (hn : N0 ≤ N) (hP : va_P D vwCl (sm_cw cyI cyB base ρ N I L P) T.heap) : T.heap.size = base + N := by
  have h1 : T.heap.size ≤ s.heap.size + (N - N0) := X.same.2.2.1
  have h2 : s.heap.size ≤ T.heap.size := X.same.2.1
  by_cases h : N = N0
  · omega
  · have h3 := (hP (N - 1) _ (sm_cw_get (by omega))).lt
    dsimp only at h3
    omega
theorem sm_rho_in {base tL tG bS k : Nat} (h : k < 1000) : sm_rho base tL tG bS k = base + k := by
  unfold sm_rho
  rw [if_neg (by omega), if_neg (by omega), if_neg (by omega)]
theorem sm_ce_o {cyI cyB : ClassId} {ρ : Nat → Nat} {I : sm_Im} {L : sm_Lm} {P : sm_Pm} {k c : Nat} (h : sm_lay k = .inl c) : sm_ce cyI cyB ρ I L P k = .inr (c, (List.range (sm_nf c)).map (fun j => sm_cv ρ (sm_fv c j k I L P))) := by
  unfold sm_ce; rw [h]
theorem sm_ce_i {cyI cyB : ClassId} {ρ : Nat → Nat} {I : sm_Im} {L : sm_Lm} {P : sm_Pm} {k n : Nat} (h : sm_lay k = .inr (.inl n)) : sm_ce cyI cyB ρ I L P k = .inl (cyI, n, .inl (I k)) := by
  unfold sm_ce; rw [h]
theorem sm_ce_r {cyI cyB : ClassId} {ρ : Nat → Nat} {I : sm_Im} {L : sm_Lm} {P : sm_Pm} {k n : Nat} (h : sm_lay k = .inr (.inr n)) : sm_ce cyI cyB ρ I L P k = .inl (cyB, n, .inr (.inr (.inr (.inr (fun j => (P k j).map ρ))))) := by
  unfold sm_ce; rw [h]
theorem sm_fset {f f1 : Nat → Value} {n k : Nat} {v : Value} (h : ∀ j, j ≠ k → f1 j = f j) (hv : f1 k = v) : (List.range n).map f1 = ((List.range n).map f).set k v := by
  apply List.ext_getElem?
  intro j
  rw [List.getElem?_set, List.getElem?_map]
  by_cases hj : k = j
  · subst hj
    rw [if_pos rfl]
    by_cases hl : k < n
    · rw [List.getElem?_range hl, if_pos (by simpa using hl)]
      simp [hv]
    · rw [List.getElem?_eq_none (by simpa using hl), if_neg (by simpa using hl)]
      rfl
  · rw [if_neg hj, List.getElem?_map]
    by_cases hl : j < n
    · rw [List.getElem?_range hl]
      simp [h j (fun q => hj q.symm)]
    · rw [List.getElem?_eq_none (by simpa using hl)]
      rfl
