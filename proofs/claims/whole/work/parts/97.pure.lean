/-- THE PURE PART: the small machine's law answers 1 on every script -/
theorem law_pure (L : Nat) (xs : Nat → Int32) (hL : L ≤ 320) : ∃ r : sm_Rs, sm_at (sm_ex 40) (some (L, xs)) 216 0 [some (.ref 1048578), none, none, none] [] 0 (fun _ _ => 0) (fun _ _ => 0) (fun _ _ => none) = some r ∧ r.1 = some (.int 1) := by
  sorry
