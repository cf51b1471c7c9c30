section SMD
variable {p : Program} {l : Launch} {e : Env} {R : Room} {s : State} {m : MethodId} {args : Array Value} {below : List Frame} {meth : Method} {c : Code} {Q : State → Prop} {D : va_G} {cyI cyB : ClassId} {base tL tG bS N0 i Nf d : Nat} {C : sm_Cf} {X : sm_Xs}
/-- cells are only ever added -/
theorem sm_grow_S (hC : ∀ (j : Nat) (as : List Value) (N : Nat) (I : sm_Im) (L : sm_Lm) (P : sm_Pm) (r : sm_Rs), C j as N I L P = some r → N ≤ r.2.1) {t t1 : sm_St} (h : sm_S C X i t = some (.inr t1)) : t.2.2.2.1 ≤ t1.2.2.2.1 := by
  obtain ⟨pc, ls, st, N, I, L, P⟩ := t
  unfold sm_S at h
  dsimp only at h
  cases hd : decode (sm_b i) pc with
  | error _ => rw [hd] at h; cases h
  | ok q =>
  obtain ⟨ins, len⟩ := q
  rw [hd] at h
  have h9 := sm_if h
  clear h
  obtain ⟨-, h⟩ := h9
  dsimp only at h
  have iv : ∀ {j n : Nat}, sm_iv C j n pc ls st N I L P = some (.inr t1) → N ≤ t1.2.2.2.1 := by
    intro j n h
    obtain ⟨rs, -, -, h3, h4⟩ := sm_iv_eq h
    obtain rfl := Sum.inr.inj h4
    exact hC _ _ _ _ _ _ _ h3
  have nx : ∀ {pc1 : Nat} {ls1 : List (Option Value)} {st1 : List Value} {N1 : Nat} {I1 : sm_Im} {L1 : sm_Lm} {P1 : sm_Pm}, N ≤ N1 → sm_nx pc1 ls1 st1 N1 I1 L1 P1 = some (.inr t1) → N ≤ t1.2.2.2.1 := by
    intro pc1 ls1 st1 N1 I1 L1 P1 hn h
    obtain rfl := Sum.inr.inj (sm_nx_eq h)
    exact hn
  have to : ∀ {off : Int} {ls1 : List (Option Value)} {st1 : List Value}, sm_to pc off ls1 st1 N I L P = some (.inr t1) → N ≤ t1.2.2.2.1 := fun h => nx (Nat.le_refl N) (sm_if h).2
  have br : ∀ {b : Bool} {off : Int} {ls1 : List (Option Value)} {st1 : List Value}, sm_br b pc off ls1 st1 N I L P = some (.inr t1) → N ≤ t1.2.2.2.1 := fun h => nx (Nat.le_refl N) (sm_if h).2
  unfold sm_X at h
  dsimp only
  split at h
  all_goals first
    | exact nx (Nat.le_refl N) h
    | exact to h
    | (obtain ⟨_, _, _, _, h⟩ := sm_p2_eq h; first | exact nx (Nat.le_refl N) h | exact nx (Nat.le_refl N) (sm_ifn h).2 | exact br h)
    | (obtain ⟨_, _, _, _, h⟩ := sm_q2_eq h; first | exact nx (Nat.le_refl N) h | exact nx (Nat.le_refl N) (sm_ifn h).2)
    | (obtain ⟨_, _, h⟩ := sm_ldi_eq h; first | exact nx (Nat.le_refl N) h | exact nx (Nat.le_refl N) (sm_if h).2)
    | (obtain ⟨_, _, h⟩ := sm_ldl_eq h; exact nx (Nat.le_refl N) h)
    | (rcases sm_lda_eq h with ⟨_, _, h⟩ | ⟨_, h⟩ <;> exact nx (Nat.le_refl N) h)
    | (rcases sm_pa_eq h with ⟨_, _, _, h⟩ | ⟨_, _, h⟩ <;> first | exact nx (Nat.le_refl N) (sm_if h).2 | exact br h)
    | (obtain ⟨_, _, _, h⟩ := sm_q1_eq h; first | exact nx (Nat.le_refl N) h | exact nx (Nat.le_refl N) (sm_if h).2)
    | (obtain ⟨_, _, _, h⟩ := sm_p1_eq h; first | exact nx (Nat.le_refl N) h | exact nx (Nat.le_refl N) (sm_if h).2 | exact nx (Nat.le_succ N) (sm_if h).2 | exact br h | exact to (sm_if h).2 | (split at h <;> first | exact to h | (split at h <;> first | exact to h | cases h)))
    | skip
  all_goals (split at h)
  all_goals first
    | exact nx (Nat.le_refl N) h
    | exact nx (Nat.le_refl N) (sm_if h).2
    | exact nx (Nat.le_succ N) (sm_if h).2
    | exact iv (sm_if h).2
    | (obtain ⟨_, _, _, h⟩ := sm_p1_eq h; exact nx (Nat.le_succ N) (sm_if h).2)
    | cases h
    | skip
  all_goals (try (have h9 := sm_if h; clear h; obtain ⟨_, h⟩ := h9))
  all_goals (try split at h)
  all_goals first
    | exact nx (Nat.le_refl N) h
    | exact nx (Nat.le_refl N) (sm_if h).2
    | cases h
    | skip
  all_goals (try (have h9 := sm_if h; clear h; obtain ⟨_, h⟩ := h9))
  all_goals (try split at h)
  all_goals first
    | exact nx (Nat.le_refl N) h
    | exact nx (Nat.le_refl N) (sm_if h).2
    | cases h
    | skip
  all_goals (try (have h9 := sm_if h; clear h; obtain ⟨_, h⟩ := h9))
  all_goals (try split at h)
  all_goals first
    | exact nx (Nat.le_refl N) h
    | exact nx (Nat.le_refl N) (sm_if h).2
    | cases h
    | skip
end SMD
