section SMD
variable {p : Program} {l : Launch} {e : Env} {R : Room} {s : State} {m : MethodId} {args : Array Value} {below : List Frame} {meth : Method} {c : Code} {Q : State → Prop} {D : va_G} {cyI cyB : ClassId} {base tL tG bS N0 i Nf d : Nat} {C : sm_Cf} {X : sm_Xs}
/-- cells are only ever added -/
theorem sm_grow_S (hC : ∀ (j : Nat) (as : List Value) (N : Nat) (I : sm_Im) (L : sm_Lm) (P : sm_Pm) (r : sm_Rs), C j as N I L P = some r → N ≤ r.2.1 ∧ (N ≤ 1000 → r.2.1 ≤ 1000)) {t t1 : sm_St} (h : sm_S C X i t = some (.inr t1)) : t.2.2.2.1 ≤ t1.2.2.2.1 ∧ (t.2.2.2.1 ≤ 1000 → t1.2.2.2.1 ≤ 1000) := by
  obtain ⟨pc, ls, st, N, I, L, P⟩ := t
  unfold sm_S at h
  dsimp only at h
  cases hd : decode (sm_b i) pc with
  | error _ => rw [hd] at h; cases h
  | ok q =>
  obtain ⟨ins, len⟩ := q
  rw [hd] at h
  have h9 := sm_if h
  clear h
  obtain ⟨-, h⟩ := h9
  dsimp only at h
  have iv : ∀ {j n : Nat}, sm_iv C j n pc ls st N I L P = some (.inr t1) → N ≤ t1.2.2.2.1 ∧ (N ≤ 1000 → t1.2.2.2.1 ≤ 1000) := by
    intro j n h
    obtain ⟨rs, -, -, h3, h4⟩ := sm_iv_eq h
    obtain rfl := Sum.inr.inj h4
    exact hC _ _ _ _ _ _ _ h3
  have nx : ∀ {pc1 : Nat} {ls1 : List (Option Value)} {st1 : List Value} {N1 : Nat} {I1 : sm_Im} {L1 : sm_Lm} {P1 : sm_Pm}, (N ≤ N1 ∧ (N ≤ 1000 → N1 ≤ 1000)) → sm_nx pc1 ls1 st1 N1 I1 L1 P1 = some (.inr t1) → N ≤ t1.2.2.2.1 ∧ (N ≤ 1000 → t1.2.2.2.1 ≤ 1000) := by
    intro pc1 ls1 st1 N1 I1 L1 P1 hn h
    obtain rfl := Sum.inr.inj (sm_nx_eq h)
    exact hn
  have nxs : ∀ {pc1 : Nat} {ls1 : List (Option Value)} {st1 : List Value} {I1 : sm_Im} {L1 : sm_Lm} {P1 : sm_Pm}, N < sm_NN → sm_nx pc1 ls1 st1 (N + 1) I1 L1 P1 = some (.inr t1) → N ≤ t1.2.2.2.1 ∧ (N ≤ 1000 → t1.2.2.2.1 ≤ 1000) := fun hn h => nx ⟨Nat.le_succ N, fun _ => by have h81 : N < 81 := hn; omega⟩ h
  have to : ∀ {off : Int} {ls1 : List (Option Value)} {st1 : List Value}, sm_to pc off ls1 st1 N I L P = some (.inr t1) → N ≤ t1.2.2.2.1 ∧ (N ≤ 1000 → t1.2.2.2.1 ≤ 1000) := fun h => nx ⟨Nat.le_refl N, id⟩ (sm_if h).2
  have br : ∀ {b : Bool} {off : Int} {ls1 : List (Option Value)} {st1 : List Value}, sm_br b pc off ls1 st1 N I L P = some (.inr t1) → N ≤ t1.2.2.2.1 ∧ (N ≤ 1000 → t1.2.2.2.1 ≤ 1000) := fun h => nx ⟨Nat.le_refl N, id⟩ (sm_if h).2
  unfold sm_X at h
  dsimp only
  split at h
  all_goals first
    | exact nx ⟨Nat.le_refl N, id⟩ h
    | exact to h
    | (obtain ⟨_, _, _, _, h⟩ := sm_p2_eq h; first | exact nx ⟨Nat.le_refl N, id⟩ h | exact nx ⟨Nat.le_refl N, id⟩ (sm_ifn h).2 | exact br h)
    | (obtain ⟨_, _, _, _, h⟩ := sm_q2_eq h; first | exact nx ⟨Nat.le_refl N, id⟩ h | exact nx ⟨Nat.le_refl N, id⟩ (sm_ifn h).2)
    | (obtain ⟨_, _, h⟩ := sm_ldi_eq h; first | exact nx ⟨Nat.le_refl N, id⟩ h | exact nx ⟨Nat.le_refl N, id⟩ (sm_if h).2)
    | (obtain ⟨_, _, h⟩ := sm_ldl_eq h; exact nx ⟨Nat.le_refl N, id⟩ h)
    | (rcases sm_lda_eq h with ⟨_, _, h⟩ | ⟨_, h⟩ <;> exact nx ⟨Nat.le_refl N, id⟩ h)
    | (rcases sm_pa_eq h with ⟨_, _, _, h⟩ | ⟨_, _, h⟩ <;> first | exact nx ⟨Nat.le_refl N, id⟩ (sm_if h).2 | exact br h)
    | (obtain ⟨_, _, _, h⟩ := sm_q1_eq h; first | exact nx ⟨Nat.le_refl N, id⟩ h | exact nx ⟨Nat.le_refl N, id⟩ (sm_if h).2)
    | (obtain ⟨_, _, _, h⟩ := sm_p1_eq h; first | exact nx ⟨Nat.le_refl N, id⟩ h | exact nx ⟨Nat.le_refl N, id⟩ (sm_if h).2 | exact nxs (sm_if h).1.1 (sm_if h).2 | exact nxs (sm_if h).1.2.1 (sm_if h).2 | exact br h | exact to (sm_if h).2 | (split at h <;> first | exact to h | (split at h <;> first | exact to h | cases h)))
    | cases h
    | skip
  all_goals (try split at h)
  all_goals first
    | exact nx ⟨Nat.le_refl N, id⟩ h
    | exact nx ⟨Nat.le_refl N, id⟩ (sm_if h).2
    | exact nxs (sm_if h).1.1 (sm_if h).2
    | exact nxs (sm_if h).1.2.1 (sm_if h).2
    | exact iv (sm_if h).2
    | (obtain ⟨_, _, _, h⟩ := sm_p1_eq h; first | exact nxs (sm_if h).1.1 (sm_if h).2 | exact nxs (sm_if h).1.2.1 (sm_if h).2)
    | cases h
    | skip
  all_goals (try (have h9 := sm_if h; clear h; obtain ⟨_, h⟩ := h9))
  all_goals (try split at h)
  all_goals first
    | exact nx ⟨Nat.le_refl N, id⟩ h
    | exact nx ⟨Nat.le_refl N, id⟩ (sm_if h).2
    | cases h
    | skip
  all_goals (try (have h9 := sm_if h; clear h; obtain ⟨_, h⟩ := h9))
  all_goals (try split at h)
  all_goals first
    | exact nx ⟨Nat.le_refl N, id⟩ h
    | exact nx ⟨Nat.le_refl N, id⟩ (sm_if h).2
    | cases h
    | skip
  all_goals (try (have h9 := sm_if h; clear h; obtain ⟨_, h⟩ := h9))
  all_goals (try split at h)
  all_goals first
    | exact nx ⟨Nat.le_refl N, id⟩ h
    | exact nx ⟨Nat.le_refl N, id⟩ (sm_if h).2
    | cases h
    | skip
/-- what a return says -/
def sm_Rt (i : Nat) (t : sm_St) (r : sm_Rs) : Prop := r.2 = t.2.2.2 ∧
  ((∃ v, decode (sm_b i) t.1 = .ok (.ireturn, 1) ∧ t.2.2.1 = [.int v] ∧ r.1 = some (.int v) ∧ (sm_rt i = some .int ∨ (sm_rt i = some .boolean ∧ v &&& 1 = v))) ∨
   (∃ v, decode (sm_b i) t.1 = .ok (.lreturn, 1) ∧ t.2.2.1 = [.long v] ∧ r.1 = some (.long v) ∧ sm_rt i = some .long) ∨
   (∃ o, decode (sm_b i) t.1 = .ok (.areturn, 1) ∧ t.2.2.1 = [va_rf o] ∧ r.1 = some (va_rf o) ∧ sm_rt i = some (.object "FeltByTwin$Birth")) ∨
   (decode (sm_b i) t.1 = .ok (.return_, 1) ∧ t.2.2.1 = [] ∧ r.1 = none ∧ sm_rt i = none))
theorem sm_no3 {α β : Type} {a : α} {b : β} {A : Prop} (h : (some (Sum.inr b) : Option (α ⊕ β)) = some (Sum.inl a)) : A := by cases h
theorem sm_ret_S {t : sm_St} {r : sm_Rs} (h : sm_S C X i t = some (.inl r)) : sm_Rt i t r := by
  obtain ⟨pc, ls, st, N, I, L, P⟩ := t
  unfold sm_S at h
  dsimp only at h
  cases hd : decode (sm_b i) pc with
  | error _ => rw [hd] at h; cases h
  | ok q =>
  obtain ⟨ins, len⟩ := q
  rw [hd] at h
  have h9 := sm_if h
  clear h
  obtain ⟨hlen, h⟩ := h9
  dsimp only at h hlen
  have iv : ∀ {j n : Nat} {A : Prop}, sm_iv C j n pc ls st N I L P = some (.inl r) → A := by
    intro j n A h
    obtain ⟨rs, -, -, h3, h4⟩ := sm_iv_eq h
    cases h4
  have nx : ∀ {pc1 : Nat} {ls1 : List (Option Value)} {st1 : List Value} {N1 : Nat} {I1 : sm_Im} {L1 : sm_Lm} {P1 : sm_Pm} {A : Prop}, sm_nx pc1 ls1 st1 N1 I1 L1 P1 = some (.inl r) → A := by
    intro pc1 ls1 st1 N1 I1 L1 P1 A h
    exact sm_no3 h
  have to : ∀ {off : Int} {ls1 : List (Option Value)} {st1 : List Value} {A : Prop}, sm_to pc off ls1 st1 N I L P = some (.inl r) → A := fun h => nx (sm_if h).2
  have br : ∀ {b : Bool} {off : Int} {ls1 : List (Option Value)} {st1 : List Value} {A : Prop}, sm_br b pc off ls1 st1 N I L P = some (.inl r) → A := fun h => nx (sm_if h).2
  unfold sm_X at h
  split at h
  all_goals first
    | exact nx h
    | exact to h
    | (obtain ⟨_, _, _, _, h⟩ := sm_p2_eq h; first | exact nx h | exact nx (sm_ifn h).2 | exact br h)
    | (obtain ⟨_, _, _, _, h⟩ := sm_q2_eq h; first | exact nx h | exact nx (sm_ifn h).2)
    | (obtain ⟨_, _, h⟩ := sm_ldi_eq h; first | exact nx h | exact nx (sm_if h).2)
    | (obtain ⟨_, _, h⟩ := sm_ldl_eq h; exact nx h)
    | (rcases sm_lda_eq h with ⟨_, _, h⟩ | ⟨_, h⟩ <;> exact nx h)
    | (rcases sm_pa_eq h with ⟨_, _, _, h⟩ | ⟨_, _, h⟩ <;> first | exact nx (sm_if h).2 | exact br h)
    | (obtain ⟨_, _, _, h⟩ := sm_q1_eq h; first | exact nx h | exact nx (sm_if h).2)
    | (obtain ⟨_, _, _, h⟩ := sm_p1_eq h; first | exact nx h | exact nx (sm_if h).2 | exact br h | exact to (sm_if h).2 | (split at h <;> first | exact to h | (split at h <;> first | exact to h | cases h)))
    | exact sm_no h
    | skip
  all_goals (split at h)
  all_goals first
    | exact nx h
    | exact nx (sm_if h).2
    | exact iv (sm_if h).2
    | (obtain ⟨_, _, _, h⟩ := sm_p1_eq h; exact nx (sm_if h).2)
    | exact sm_no h
    | (have h9 := sm_if h; clear h; obtain ⟨hc, h⟩ := h9; obtain rfl := Sum.inl.inj (Option.some.inj h); exact ⟨rfl, Or.inl ⟨_, by rw [hd]; exact congrArg (fun q => Except.ok (Instr.ireturn, q)) (hlen.resolve_left (by decide)).symm, rfl, rfl, hc⟩⟩)
    | (have h9 := sm_if h; clear h; obtain ⟨hc, h⟩ := h9; obtain rfl := Sum.inl.inj (Option.some.inj h); exact ⟨rfl, Or.inr (Or.inl ⟨_, by rw [hd]; exact congrArg (fun q => Except.ok (Instr.lreturn, q)) (hlen.resolve_left (by decide)).symm, rfl, rfl, hc⟩)⟩)
    | (have h9 := sm_if h; clear h; obtain ⟨hc, h⟩ := h9; obtain rfl := Sum.inl.inj (Option.some.inj h); exact ⟨rfl, Or.inr (Or.inr (Or.inl ⟨some _, by rw [hd]; exact congrArg (fun q => Except.ok (Instr.areturn, q)) (hlen.resolve_left (by decide)).symm, rfl, rfl, hc⟩))⟩)
    | (have h9 := sm_if h; clear h; obtain ⟨hc, h⟩ := h9; obtain rfl := Sum.inl.inj (Option.some.inj h); exact ⟨rfl, Or.inr (Or.inr (Or.inl ⟨none, by rw [hd]; exact congrArg (fun q => Except.ok (Instr.areturn, q)) (hlen.resolve_left (by decide)).symm, rfl, rfl, hc⟩))⟩)
    | (have h9 := sm_if h; clear h; obtain ⟨hc, h⟩ := h9; obtain rfl := Sum.inl.inj (Option.some.inj h); exact ⟨rfl, Or.inr (Or.inr (Or.inr ⟨by rw [hd]; exact congrArg (fun q => Except.ok (Instr.return_, q)) (hlen.resolve_left (by decide)).symm, rfl, rfl, hc⟩))⟩)
    | skip
  all_goals (try (have h9 := sm_if h; clear h; obtain ⟨_, h⟩ := h9))
  all_goals (try split at h)
  all_goals first
    | exact nx h
    | exact nx (sm_if h).2
    | exact sm_no h
    | skip
  all_goals (try (have h9 := sm_if h; clear h; obtain ⟨_, h⟩ := h9))
  all_goals (try split at h)
  all_goals first
    | exact nx h
    | exact nx (sm_if h).2
    | exact sm_no h
    | skip
  all_goals (try (have h9 := sm_if h; clear h; obtain ⟨_, h⟩ := h9))
  all_goals (try split at h)
  all_goals first
    | exact nx h
    | exact nx (sm_if h).2
    | exact sm_no h
    | skip
end SMD
