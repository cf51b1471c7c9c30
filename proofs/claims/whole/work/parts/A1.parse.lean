section PA
variable {d : Nat} {I J : sm_Im} {L : sm_Lm} {sw : Bool} {x y z : Int32} {a b m n q c k j p r v : Nat} {β β' : Nat → Nat → Nat}
/-- one letter more of the births -/
def pst (β : Nat → Nat → Nat) (c : Nat) : Option (Nat → Nat → Nat) :=
  if c = 44 then (if (if β 1 (β 0 0 - 1) = 1 then 3 else 2) ≤ β 3 (β 0 0 - 1) ∧ β 0 0 < 5 then some (sm_up (sm_up (sm_up (sm_up β 1 (β 0 0) 0) 2 (β 0 0) 0) 3 (β 0 0) 0) 0 0 (β 0 0 + 1)) else none)
  else if c = 111 then (if β 1 (β 0 0 - 1) = 0 ∧ β 3 (β 0 0 - 1) = 0 then some (sm_up β 1 (β 0 0 - 1) 1) else none)
  else if c = 63 then (if β 1 (β 0 0 - 1) = 0 ∧ β 3 (β 0 0 - 1) = 0 then some (sm_up β 1 (β 0 0 - 1) 2) else none)
  else if c = 43 then (if β 1 (β 0 0 - 1) = 0 ∧ β 3 (β 0 0 - 1) = 0 then some (sm_up β 1 (β 0 0 - 1) 3) else none)
  else if 48 ≤ c ∧ c ≤ 57 then
    (if (β 1 (β 0 0 - 1) = 2 ∨ β 1 (β 0 0 - 1) = 3) ∧ β 2 (β 0 0 - 1) = 0 then (if c = 48 then none else some (sm_up β 2 (β 0 0 - 1) (c - 48)))
    else if ¬ β 4 (c - 48) < β 0 0 ∧ β 3 (β 0 0 - 1) < (if β 1 (β 0 0 - 1) = 1 then 4 else 2) then some (sm_up (sm_up (sm_up (sm_up β (6 + (β 0 0 - 1)) (β 3 (β 0 0 - 1)) (c - 48)) 4 (c - 48) (β 0 0 - 1)) 5 (c - 48) (β 3 (β 0 0 - 1))) 3 (β 0 0 - 1) (β 3 (β 0 0 - 1) + 1)) else none)
  else none
/-- what holds between two letters -/
def PV (β : Nat → Nat → Nat) : Prop := (1 ≤ β 0 0 ∧ β 0 0 ≤ 5) ∧ (∀ k, k < β 0 0 → β 1 k ≤ 3 ∧ β 2 k ≤ 9 ∧ β 3 k ≤ 4 ∧ (k + 1 < β 0 0 → 2 ≤ β 3 k) ∧ (β 1 k = 0 → β 2 k = 0) ∧ ((β 1 k = 2 ∨ β 1 k = 3) ∧ β 2 k = 0 → β 3 k = 0) ∧ ∀ j, j < β 3 k → β (6 + k) j < 10 ∧ β 4 (β (6 + k) j) = k ∧ β 5 (β (6 + k) j) = j) ∧ (∀ p, p < 10 → β 4 p < β 0 0 → β 5 p < β 3 (β 4 p) ∧ β (6 + β 4 p) (β 5 p) = p) ∧ (∀ p, p < 10 → β 4 p < β 0 0 ∨ 5 ≤ β 4 p)
theorem PV_44 (V : PV β) (h1 : (if β 1 (β 0 0 - 1) = 1 then 3 else 2) ≤ β 3 (β 0 0 - 1)) (h2 : β 0 0 < 5) : PV (sm_up (sm_up (sm_up (sm_up β 1 (β 0 0) 0) 2 (β 0 0) 0) 3 (β 0 0) 0) 0 0 (β 0 0 + 1)) := by
  obtain ⟨V1, V2, V3, V4⟩ := V
  have hw : 2 ≤ β 3 (β 0 0 - 1) := by
    by_cases e : β 1 (β 0 0 - 1) = 1
    · rw [if_pos e] at h1; omega
    · rw [if_neg e] at h1; exact h1
  have e0 : ∀ n, n ≠ 0 → n ≠ 1 → n ≠ 2 → n ≠ 3 → sm_up (sm_up (sm_up (sm_up β 1 (β 0 0) 0) 2 (β 0 0) 0) 3 (β 0 0) 0) 0 0 (β 0 0 + 1) n = β n := fun n a1 a2 a3 a4 => by rw [up_row a1, up_row a4, up_row a3, up_row a2]
  have e1 : ∀ k, sm_up (sm_up (sm_up (sm_up β 1 (β 0 0) 0) 2 (β 0 0) 0) 3 (β 0 0) 0) 0 0 (β 0 0 + 1) 1 k = if k = β 0 0 then 0 else β 1 k := fun k => by rw [up_row (by decide), up_row (by decide), up_row (by decide), up_at]
  have e2 : ∀ k, sm_up (sm_up (sm_up (sm_up β 1 (β 0 0) 0) 2 (β 0 0) 0) 3 (β 0 0) 0) 0 0 (β 0 0 + 1) 2 k = if k = β 0 0 then 0 else β 2 k := fun k => by rw [up_row (by decide), up_row (by decide), up_at, up_row (by decide)]
  have e3 : ∀ k, sm_up (sm_up (sm_up (sm_up β 1 (β 0 0) 0) 2 (β 0 0) 0) 3 (β 0 0) 0) 0 0 (β 0 0 + 1) 3 k = if k = β 0 0 then 0 else β 3 k := fun k => by rw [up_row (by decide), up_at, up_row (by decide), up_row (by decide)]
  unfold PV
  rw [up_same]
  simp only [e1, e2, e3, e0 4 (by decide) (by decide) (by decide) (by decide), e0 5 (by decide) (by decide) (by decide) (by decide)]
  refine ⟨by omega, fun k hk => ?_, fun p hp hb => ?_, fun p hp => ?_⟩
  · rw [e0 (6 + k) (by omega) (by omega) (by omega) (by omega)]
    by_cases e : k = β 0 0
    · simp only [if_pos e]
      exact ⟨by omega, by omega, by omega, fun q => by omega, fun _ => trivial, fun _ => trivial, fun j hj => by omega⟩
    · simp only [if_neg e]
      obtain ⟨q1, q2, q3, q4, q5, q6, q7⟩ := V2 k (by omega)
      refine ⟨q1, q2, q3, fun _ => ?_, q5, q6, q7⟩
      rcases (show k + 1 < β 0 0 ∨ k = β 0 0 - 1 by omega) with q | q
      · exact q4 q
      · rw [q]; exact hw
  · have h4 : β 4 p < β 0 0 := by rcases V4 p hp with q | q <;> omega
    rw [e0 (6 + β 4 p) (by omega) (by omega) (by omega) (by omega), if_neg (by omega)]
    exact V3 p hp h4
  · rcases V4 p hp with q | q
    · exact Or.inl (by omega)
    · exact Or.inr q
theorem PV_sign (V : PV β) (h1 : β 1 (β 0 0 - 1) = 0) (h2 : β 3 (β 0 0 - 1) = 0) (hv : 1 ≤ v ∧ v ≤ 3) : PV (sm_up β 1 (β 0 0 - 1) v) := by
  obtain ⟨V1, V2, V3, V4⟩ := V
  unfold PV
  rw [up_row (show 0 ≠ 1 by decide), up_row (show 2 ≠ 1 by decide), up_row (show 3 ≠ 1 by decide), up_row (show 4 ≠ 1 by decide), up_row (show 5 ≠ 1 by decide)]
  refine ⟨V1, fun k hk => ?_, fun p hp hb => by rw [up_row (by omega)]; exact V3 p hp hb, V4⟩
  obtain ⟨q1, q2, q3, q4, q5, q6, q7⟩ := V2 k hk
  rw [up_row (show 6 + k ≠ 1 by omega), up_at]
  by_cases e : k = β 0 0 - 1
  · rw [if_pos e]
    exact ⟨by omega, q2, q3, q4, fun q => by omega, fun _ => by rw [e]; exact h2, q7⟩
  · rw [if_neg e]; exact ⟨q1, q2, q3, q4, q5, q6, q7⟩
theorem PV_am (V : PV β) (h1 : β 1 (β 0 0 - 1) = 2 ∨ β 1 (β 0 0 - 1) = 3) (hv : 1 ≤ v ∧ v ≤ 9) : PV (sm_up β 2 (β 0 0 - 1) v) := by
  obtain ⟨V1, V2, V3, V4⟩ := V
  unfold PV
  rw [up_row (show 0 ≠ 2 by decide), up_row (show 1 ≠ 2 by decide), up_row (show 3 ≠ 2 by decide), up_row (show 4 ≠ 2 by decide), up_row (show 5 ≠ 2 by decide)]
  refine ⟨V1, fun k hk => ?_, fun p hp hb => by rw [up_row (by omega)]; exact V3 p hp hb, V4⟩
  obtain ⟨q1, q2, q3, q4, q5, q6, q7⟩ := V2 k hk
  rw [up_row (show 6 + k ≠ 2 by omega), up_at]
  by_cases e : k = β 0 0 - 1
  · rw [if_pos e]
    exact ⟨q1, by omega, q3, q4, fun q => by rw [e] at q; omega, fun q => by omega, q7⟩
  · rw [if_neg e]; exact ⟨q1, q2, q3, q4, q5, q6, q7⟩
/-- one person more -/
def pp1 (β : Nat → Nat → Nat) (q : Nat) : Nat → Nat → Nat := sm_up (sm_up (sm_up (sm_up β (6 + (β 0 0 - 1)) (β 3 (β 0 0 - 1)) q) 4 q (β 0 0 - 1)) 5 q (β 3 (β 0 0 - 1))) 3 (β 0 0 - 1) (β 3 (β 0 0 - 1) + 1)
theorem pp_0 (h : a ≤ 2) : pp1 β q a = β a := by unfold pp1; rw [up_row (by omega), up_row (by omega), up_row (by omega), up_row (by omega)]
theorem pp_3 : pp1 β q 3 k = if k = β 0 0 - 1 then β 3 (β 0 0 - 1) + 1 else β 3 k := by unfold pp1; rw [up_at, up_row (by decide), up_row (by decide), up_row (by omega)]
theorem pp_4 : pp1 β q 4 p = if p = q then β 0 0 - 1 else β 4 p := by unfold pp1; rw [up_row (by decide), up_row (by decide), up_at, up_row (by omega)]
theorem pp_5 : pp1 β q 5 p = if p = q then β 3 (β 0 0 - 1) else β 5 p := by unfold pp1; rw [up_row (by decide), up_at, up_row (by decide), up_row (by omega)]
theorem pp_6 : pp1 β q (6 + k) j = if k = β 0 0 - 1 ∧ j = β 3 (β 0 0 - 1) then q else β (6 + k) j := by
  unfold pp1
  rw [up_row (by omega), up_row (by omega), up_row (by omega)]
  by_cases e : k = β 0 0 - 1
  · subst e
    rw [up_at]
    by_cases e2 : j = β 3 (β 0 0 - 1)
    · rw [if_pos e2, if_pos ⟨rfl, e2⟩]
    · rw [if_neg e2, if_neg (fun q => e2 q.2)]
  · rw [up_row (by omega), if_neg (fun q => e q.1)]
theorem PV_pp (V : PV β) (hq : q < 10) (h4 : ¬ β 4 q < β 0 0) (hm : β 3 (β 0 0 - 1) < (if β 1 (β 0 0 - 1) = 1 then 4 else 2)) (hn : ¬ ((β 1 (β 0 0 - 1) = 2 ∨ β 1 (β 0 0 - 1) = 3) ∧ β 2 (β 0 0 - 1) = 0)) : PV (pp1 β q) := by
  obtain ⟨V1, V2, V3, V4⟩ := V
  have hm4 : β 3 (β 0 0 - 1) < 4 := by
    by_cases e : β 1 (β 0 0 - 1) = 1
    · rw [if_pos e] at hm; exact hm
    · rw [if_neg e] at hm; omega
  unfold PV
  rw [pp_0 (show 0 ≤ 2 by decide), pp_0 (show 1 ≤ 2 by decide), pp_0 (show 2 ≤ 2 by decide)]
  refine ⟨V1, fun k hk => ?_, fun p hp => ?_, fun p hp => ?_⟩
  · obtain ⟨q1, q2, q3, q4, q5, q6, q7⟩ := V2 k hk
    rw [pp_3]
    by_cases e : k = β 0 0 - 1
    · rw [if_pos e]
      refine ⟨q1, q2, by omega, fun q => by omega, q5, fun q => absurd (by rw [← e]; exact q) hn, fun j hj => ?_⟩
      rw [pp_6]
      by_cases e2 : j = β 3 (β 0 0 - 1)
      · rw [if_pos ⟨e, e2⟩, pp_4, pp_5, if_pos rfl, if_pos rfl]
        exact ⟨hq, e.symm, e2.symm⟩
      · rw [if_neg (fun q => e2 q.2)]
        obtain ⟨w1, w2, w3⟩ := q7 j (by rw [e]; omega)
        have ne : ¬ β (6 + k) j = q := fun z => by rw [z] at w2; omega
        rw [pp_4, pp_5, if_neg ne, if_neg ne]
        exact ⟨w1, w2, w3⟩
    · rw [if_neg e]
      refine ⟨q1, q2, q3, q4, q5, q6, fun j hj => ?_⟩
      rw [pp_6, if_neg (fun q => e q.1)]
      obtain ⟨w1, w2, w3⟩ := q7 j hj
      have ne : ¬ β (6 + k) j = q := fun z => by rw [z] at w2; omega
      rw [pp_4, pp_5, if_neg ne, if_neg ne]
      exact ⟨w1, w2, w3⟩
  · rw [pp_4, pp_5]
    by_cases e : p = q
    · rw [if_pos e, if_pos e, pp_3, if_pos rfl, pp_6, if_pos ⟨rfl, rfl⟩]
      exact fun _ => ⟨by omega, e.symm⟩
    · rw [if_neg e, if_neg e]
      intro hb
      obtain ⟨w1, w2⟩ := V3 p hp hb
      rw [pp_3, pp_6]
      refine ⟨?_, ?_⟩
      · by_cases e2 : β 4 p = β 0 0 - 1
        · rw [if_pos e2]; rw [e2] at w1; omega
        · rw [if_neg e2]; exact w1
      · rw [if_neg (fun z => by rw [z.1] at w1; omega)]; exact w2
  · rw [pp_4]
    by_cases e : p = q
    · rw [if_pos e]; exact Or.inl (by omega)
    · rw [if_neg e]; exact V4 p hp
/-- the births that are whole -/
theorem PV_BOk (V : PV β) (h1 : (if β 1 (β 0 0 - 1) = 1 then 3 else 2) ≤ β 3 (β 0 0 - 1)) : BOk β := by
  obtain ⟨V1, V2, V3, V4⟩ := V
  have hw : 2 ≤ β 3 (β 0 0 - 1) := by
    by_cases e : β 1 (β 0 0 - 1) = 1
    · rw [if_pos e] at h1; omega
    · rw [if_neg e] at h1; exact h1
  refine ⟨V1.2, fun k hk => ?_, V3⟩
  obtain ⟨q1, q2, q3, q4, q5, q6, q7⟩ := V2 k hk
  refine ⟨q1, q2, ?_, q3, q7⟩
  rcases (show k + 1 < β 0 0 ∨ k = β 0 0 - 1 by omega) with q | q
  · exact q4 q
  · rw [q]; exact hw
/-- all letters, from a place on -/
def prun (f : Nat → Nat) : Nat → Nat → (Nat → Nat → Nat) → Nat × (Nat → Nat → Nat)
  | 0, i, β => (i, β)
  | g + 1, i, β => match pst β (f i) with
    | some β' => prun f g (i + 1) β'
    | none => (i, β)
theorem prun_le (f : Nat → Nat) : ∀ g i β, (prun f g i β).1 ≤ i + g := by
  intro g
  induction g with
  | zero => intro i β; exact Nat.le_refl _
  | succ g ih =>
    intro i β
    unfold prun
    split
    · rename_i β' _; have := ih (i + 1) β'; omega
    · show i ≤ _; omega
def be0 : Nat → Nat → Nat := fun a _ => if a = 0 then 1 else if a = 4 then 99 else 0
theorem PV_0 : PV be0 := by
  refine ⟨⟨Nat.le_refl _, by decide⟩, fun k hk => ⟨Nat.zero_le _, Nat.zero_le _, Nat.zero_le _, fun h => ?_, fun _ => rfl, fun _ => rfl, fun j hj => absurd hj (Nat.not_lt_zero _)⟩, fun p hp h => absurd h (by show ¬ 99 < 1; decide), fun p hp => Or.inr (by show 5 ≤ 99; decide)⟩
  have : k < 1 := hk
  have : k + 1 < 1 := h
  omega
end PA
