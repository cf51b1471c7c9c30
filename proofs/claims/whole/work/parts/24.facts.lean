/-! what the tables give -/
theorem sm_if {α : Type} {c : Prop} [Decidable c] {a : Option α} {q : α} (h : (if c then a else none) = some q) : c ∧ a = some q := by
  by_cases hc : c
  · rw [if_pos hc] at h; exact ⟨hc, h⟩
  · rw [if_neg hc] at h; cases h
theorem sm_ifn {α : Type} {c : Prop} [Decidable c] {a : Option α} {q : α} (h : (if c then none else a) = some q) : ¬ c ∧ a = some q := by
  by_cases hc : c
  · rw [if_pos hc] at h; cases h
  · rw [if_neg hc] at h; exact ⟨hc, h⟩
theorem sm_nx_eq {pc : Nat} {ls : List (Option Value)} {st : List Value} {N : Nat} {I : sm_Im} {L : sm_Lm} {P : sm_Pm} {t : sm_Rs ⊕ sm_St} (h : sm_nx pc ls st N I L P = some t) : Sum.inr (pc, ls, st, N, I, L, P) = t := Option.some.inj h
theorem sm_to_eq {pc : Nat} {off : Int} {ls : List (Option Value)} {st : List Value} {N : Nat} {I : sm_Im} {L : sm_Lm} {P : sm_Pm} {t : sm_Rs ⊕ sm_St} (h : sm_to pc off ls st N I L P = some t) : ∃ g : Nat, (pc : Int) + off = g ∧ Sum.inr (g, ls, st, N, I, L, P) = t := by
  obtain ⟨h1, h2⟩ := sm_if h
  exact ⟨_, (Int.toNat_of_nonneg h1).symm, sm_nx_eq h2⟩
theorem sm_br_eq {c : Bool} {pc : Nat} {off : Int} {ls : List (Option Value)} {st : List Value} {N : Nat} {I : sm_Im} {L : sm_Lm} {P : sm_Pm} {t : sm_Rs ⊕ sm_St} (h : sm_br c pc off ls st N I L P = some t) : ∃ g : Nat, (pc : Int) + off = g ∧ Sum.inr (bif c then g else pc + 3, ls, st, N, I, L, P) = t := by
  obtain ⟨h1, h2⟩ := sm_if h
  exact ⟨_, (Int.toNat_of_nonneg h1).symm, sm_nx_eq h2⟩
theorem sm_p1_eq {α : Type} {st : List Value} {k : Int32 → List Value → Option α} {q : α} (h : sm_p1 st k = some q) : ∃ x r, st = .int x :: r ∧ k x r = some q := by
  unfold sm_p1 at h
  split at h
  · exact ⟨_, _, rfl, h⟩
  · cases h
theorem sm_p2_eq {α : Type} {st : List Value} {k : Int32 → Int32 → List Value → Option α} {q : α} (h : sm_p2 st k = some q) : ∃ x y r, st = .int y :: .int x :: r ∧ k x y r = some q := by
  unfold sm_p2 at h
  split at h
  · exact ⟨_, _, _, rfl, h⟩
  · cases h
theorem sm_q1_eq {α : Type} {st : List Value} {k : Int64 → List Value → Option α} {q : α} (h : sm_q1 st k = some q) : ∃ x r, st = .long x :: r ∧ k x r = some q := by
  unfold sm_q1 at h
  split at h
  · exact ⟨_, _, rfl, h⟩
  · cases h
theorem sm_q2_eq {α : Type} {st : List Value} {k : Int64 → Int64 → List Value → Option α} {q : α} (h : sm_q2 st k = some q) : ∃ x y r, st = .long y :: .long x :: r ∧ k x y r = some q := by
  unfold sm_q2 at h
  split at h
  · exact ⟨_, _, _, rfl, h⟩
  · cases h
theorem sm_ldi_eq {α : Type} {ls : List (Option Value)} {n : Nat} {k : Int32 → Option α} {q : α} (h : sm_ldi ls n k = some q) : ∃ x, ls[n]? = some (some (.int x)) ∧ k x = some q := by
  unfold sm_ldi at h
  split at h
  · exact ⟨_, by assumption, h⟩
  · cases h
theorem sm_ldl_eq {α : Type} {ls : List (Option Value)} {n : Nat} {k : Int64 → Option α} {q : α} (h : sm_ldl ls n k = some q) : ∃ x, ls[n]? = some (some (.long x)) ∧ k x = some q := by
  unfold sm_ldl at h
  split at h
  · exact ⟨_, by assumption, h⟩
  · cases h
theorem sm_lda_eq {α : Type} {ls : List (Option Value)} {n : Nat} {k : Option Nat → Option α} {q : α} (h : sm_lda ls n k = some q) : (∃ x, ls[n]? = some (some (.ref x)) ∧ k (some x) = some q) ∨ (ls[n]? = some (some .null) ∧ k none = some q) := by
  unfold sm_lda at h
  split at h
  · exact Or.inl ⟨_, by assumption, h⟩
  · exact Or.inr ⟨by assumption, h⟩
  · cases h
theorem sm_pa_eq {α : Type} {st : List Value} {k : Option Nat → List Value → Option α} {q : α} (h : sm_pa st k = some q) : (∃ x r, st = .ref x :: r ∧ k (some x) r = some q) ∨ (∃ r, st = .null :: r ∧ k none r = some q) := by
  unfold sm_pa at h
  split at h
  · exact Or.inl ⟨_, _, rfl, h⟩
  · exact Or.inr ⟨_, rfl, h⟩
  · cases h
theorem sm_cl12 {c : Nat} {q : vw_C} (hq : vwCl[c]? = some q) : c < 12 := by
  have := (List.getElem?_eq_some_iff.mp hq).1
  exact this
def sm_kt (k : Nat) (ty : FieldType) : Prop := (k = 0 ∧ ty = .int) ∨ (k = 1 ∧ ty = .boolean) ∨ (k = 2 ∧ ty = .long) ∨ (k = 3 ∧ ((∃ n, ty = .object n) ∨ ∃ n, ty = .array n))
theorem sm_cls_ok {c : Nat} {q : vw_C} (hq : vwCl[c]? = some q) : q.2.2 = sm_nf c ∧ (∀ w ∈ u_ws q.1 q.2.1 q.2.2, w ∈ sm_W) ∧ Cond.instantiable q.1 (sm_nf c) ∈ sm_W ∧ Cond.initialized q.1 ∈ sm_W ∧ q.1 = sm_cn c ∧
    (∀ k, k < q.2.2 → (q.2.1 k).1 = q.1 ∧ (q.2.1 k).2.2.2 = sm_ff c k ∧ ∃ ty, parseFieldDescriptor (q.2.1 k).2.2.1 = some ty ∧ sm_kt (sm_fk c k) ty) ∧ (∀ a, a < q.2.2 → ∀ b, b < q.2.2 → a ≠ b → (q.2.1 a).2.1 ≠ (q.2.1 b).2.1) := by
  have h1 := List.all_eq_true.mp sm_cl_ok c (List.mem_range.mpr (sm_cl12 hq))
  unfold sm_clOk at h1
  rw [hq] at h1
  dsimp only at h1
  simp only [Bool.and_eq_true, decide_eq_true_eq, List.all_eq_true, List.mem_range, Bool.or_eq_true, beq_iff_eq] at h1
  obtain ⟨⟨⟨⟨⟨a1, a2⟩, a3⟩, a4⟩, a5⟩, a6⟩ := h1
  refine ⟨a1, fun w hw => ?_, sm_wd_in a3, sm_wd_in a4, a5, fun k hk => ?_, fun a ha b hb hab => ?_⟩
  · obtain ⟨k, hk, rfl⟩ := List.mem_map.mp hw
    exact sm_wd_in (a2 k (by rw [← a1]; exact List.mem_range.mp hk))
  · obtain ⟨⟨⟨b1, b2⟩, b3⟩, -⟩ := a6 k (by rw [← a1]; exact hk)
    refine ⟨b1, b2, ?_⟩
    cases hp : parseFieldDescriptor (q.2.1 k).2.2.1 with
    | none => rw [hp] at b3; cases b3
    | some ty =>
      rw [hp] at b3
      refine ⟨ty, rfl, ?_⟩
      cases ty with
      | int => exact Or.inl ⟨beq_iff_eq.mp b3, rfl⟩
      | boolean => exact Or.inr (Or.inl ⟨beq_iff_eq.mp b3, rfl⟩)
      | long => exact Or.inr (Or.inr (Or.inl ⟨beq_iff_eq.mp b3, rfl⟩))
      | object n => exact Or.inr (Or.inr (Or.inr ⟨beq_iff_eq.mp b3, Or.inl ⟨n, rfl⟩⟩))
      | array n => exact Or.inr (Or.inr (Or.inr ⟨beq_iff_eq.mp b3, Or.inr ⟨n, rfl⟩⟩))
      | _ => cases b3
  · obtain ⟨-, b4⟩ := a6 a (by rw [← a1]; exact ha)
    rcases b4 b (by rw [← a1]; exact hb) with z | z
    · exact absurd z hab
    · exact z
theorem sm_fld_ok {o x c k z : Nat} (h : sm_fld o x = some (c, k, z)) : ∃ q : vw_C, vwCl[c]? = some q ∧ k < q.2.2 ∧ Cond.fieldLink (sm_cn o) x q.1 (q.2.1 k).2.1 (q.2.1 k).2.2.1 ∈ sm_W := by
  have h1 := List.all_eq_true.mp sm_fl_ok _ (sm_fi2_mem h)
  unfold sm_flOk at h1
  dsimp only at h1
  cases hq : vwCl[c]? with
  | none => rw [hq] at h1; cases h1
  | some q =>
    rw [hq] at h1
    dsimp only at h1
    rw [Bool.and_eq_true, decide_eq_true_eq] at h1
    exact ⟨q, rfl, h1.1, sm_wd_in h1.2⟩
set_option maxRecDepth 100000 in
theorem sm_m_ok {j : Nat} (hj : j < 216) : sm_mOk (sm_m j) = true := by
  have h7 := sm_mt7_ok
  have key : ∀ q ∈ sm_mt.take 216, sm_mOk q = true := by
    have e : sm_mt.take 216 = sm_mt0 ++ (sm_mt1 ++ (sm_mt2 ++ (sm_mt3 ++ (sm_mt4 ++ (sm_mt5 ++ (sm_mt6 ++ sm_mt7.take 6)))))) := by rfl
    rw [e]
    intro q hq
    simp only [List.mem_append] at hq
    rcases hq with h | h | h | h | h | h | h | h
    · exact List.all_eq_true.mp sm_mt0_ok q h
    · exact List.all_eq_true.mp sm_mt1_ok q h
    · exact List.all_eq_true.mp sm_mt2_ok q h
    · exact List.all_eq_true.mp sm_mt3_ok q h
    · exact List.all_eq_true.mp sm_mt4_ok q h
    · exact List.all_eq_true.mp sm_mt5_ok q h
    · exact List.all_eq_true.mp sm_mt6_ok q h
    · exact List.all_eq_true.mp h7 q h
  have hl : sm_mt.length = 217 := by rfl
  have hg : sm_mt[j]? = some (sm_m j) := by
    unfold sm_m
    rw [List.getD_eq_getElem?_getD, List.getElem?_eq_getElem (by omega)]
    rfl
  exact key _ (List.mem_of_getElem? (i := j) (by rw [List.getElem?_take_of_lt hj]; exact hg))
theorem sm_m_facts {j : Nat} (hj : j < 216) : Cond.code (sm_y j) (sm_b j) (sm_ml j) (sm_rt j) ∈ sm_W ∧ (sm_kd j = 0 → Cond.static (sm_y j) ∈ sm_W) ∧ (¬ sm_kd j = 0 → Cond.instanceMethod (sm_y j) ∈ sm_W) ∧ (sm_kd j = 1 → Cond.selects (sm_y j).cls (sm_y j) (sm_y j) ∈ sm_W) ∧ Cond.initialized (sm_y j).cls ∈ sm_W ∧ (sm_y j).cls = sm_cn (sm_o j) ∧ plainFor (sm_y j) = true ∧
    ((sm_y j).cls ≠ "java/lang/invoke/MethodHandle" ∧ (sm_y j).cls ≠ "java/lang/invoke/VarHandle" ∧ (parseMethodDescriptor (sm_y j).desc).map (fun d => d.parameters.length) = some (sm_np j)) ∧ (sm_kd j = 2 → (sm_y j).name = "<init>" ∧ sm_rt j = none) := by
  have h := sm_m_ok hj
  unfold sm_mOk at h
  simp only [Bool.and_eq_true, decide_eq_true_eq] at h
  obtain ⟨⟨⟨⟨⟨⟨⟨h1, h2⟩, h3⟩, h4⟩, h5⟩, h6⟩, h7⟩, h8⟩ := h
  refine ⟨sm_wd_in h1, fun q => ?_, fun q => ?_, fun q => ?_, sm_wd_in h4, h5, h6, h7, fun q => ?_⟩
  · rw [if_pos (show (sm_m j).2.2.2.2.2.1 = 0 from q)] at h2
    exact sm_wd_in h2
  · rw [if_neg (show ¬ (sm_m j).2.2.2.2.2.1 = 0 from q)] at h2
    exact sm_wd_in h2
  · rw [if_pos (show (sm_m j).2.2.2.2.2.1 = 1 from q)] at h3
    exact sm_wd_in h3
  · rw [if_pos (show (sm_m j).2.2.2.2.2.1 = 2 from q), decide_eq_true_eq] at h8
    exact h8
theorem sm_cal_ok {o x j z k : Nat} (h : sm_cal o x = some (j, z, k)) : j < 216 ∧ ((k = 0 ∧ Cond.methodLink (sm_cn o) x (sm_y j) ∈ sm_W) ∨ (¬ k = 0 ∧ Cond.methodLinkNest (sm_cn o) x (sm_y j) "FeltByTwin" ∈ sm_nest)) := by
  have h1 := List.all_eq_true.mp sm_ca_ok _ (sm_fi2_mem h)
  unfold sm_caOk at h1
  dsimp only at h1
  rw [Bool.and_eq_true, decide_eq_true_eq] at h1
  refine ⟨h1.1, ?_⟩
  by_cases hk : k = 0
  · rw [if_pos hk] at h1
    exact Or.inl ⟨hk, sm_wd_in h1.2⟩
  · rw [if_neg hk, decide_eq_true_eq] at h1
    exact Or.inr ⟨hk, List.mem_filter.mpr ⟨List.mem_of_getElem? h1.2, rfl⟩⟩
theorem sm_ob_in {o x z : Nat} (h : sm_ob o x = some z) : Cond.methodLink (sm_cn o) x objectInit ∈ sm_W := sm_wd_in (List.all_eq_true.mp sm_ob_ok _ (sm_fi2_mem h))
theorem sm_ac_in {o x z : Nat} (h : sm_ac o x = some z) : Cond.methodLink (sm_cn o) x arraycopyName ∈ sm_W := sm_wd_in (List.all_eq_true.mp sm_ac_ok _ (sm_fi2_mem h))
theorem sm_ki_in {o x z : Nat} {v : Int32} (h : sm_ki o x = some (v, z)) : Cond.constant (sm_cn o) x v ∈ sm_W := sm_wd_in (List.all_eq_true.mp sm_ki_ok _ (sm_fi2_mem h))
theorem sm_kl_in {o x z : Nat} {v : Int64} (h : sm_kl o x = some (v, z)) : Cond.constantLong (sm_cn o) x v ∈ sm_W := sm_wd_in (List.all_eq_true.mp sm_kl_ok _ (sm_fi2_mem h))
theorem sm_nw_in {o x k z : Nat} (h : sm_nw o x = some (k, z)) : k < 12 ∧ Cond.classLink (sm_cn o) x (sm_cn k) ∈ sm_W := by
  have h1 := List.all_eq_true.mp sm_nw_ok _ (sm_fi2_mem h)
  dsimp only at h1
  rw [Bool.and_eq_true, decide_eq_true_eq] at h1
  exact ⟨h1.1, sm_wd_in h1.2⟩
theorem sm_st_in {o x k z : Nat} (h : sm_stf o x = some (k, z)) : (k = 0 ∧ Cond.fieldLink (sm_cn o) x "FeltByTwin$News" "LESSER" "[I" ∈ sm_W) ∨ (k = 1 ∧ Cond.fieldLink (sm_cn o) x "FeltByTwin$News" "GREATER" "[I" ∈ sm_W) := by
  have h1 := List.all_eq_true.mp sm_st_ok _ (sm_fi2_mem h)
  dsimp only at h1
  rw [Bool.and_eq_true, decide_eq_true_eq] at h1
  by_cases hk : k = 0
  · rw [if_pos hk] at h1
    exact Or.inl ⟨hk, sm_wd_in h1.2⟩
  · rw [if_neg hk] at h1
    exact Or.inr ⟨by omega, sm_wd_in h1.2⟩
theorem sm_vw {c : Nat} (h : c < 12) : ∃ q : vw_C, vwCl[c]? = some q := ⟨_, List.getElem?_eq_getElem (show c < vwCl.length from h)⟩
