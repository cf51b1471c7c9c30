section R1
variable {d : Nat} {I : sm_Im} {L : sm_Lm} {sw : Bool} {x y z : Int32} {a b m n q : Nat} {w : Int64}
/-- roads, towns, the page: the class and the reference hold the same -/
def RRoad (f g : Nat → Int32) : Prop := ∃ r : Nat → Nat, (∀ k, k < 36 → f k = nI (r k) ∧ g k = nI (r k) ∧ r k ≤ 99) ∧ (∀ a b, a < 6 → b < 6 → r (6 * a + b) = r (6 * b + a)) ∧ (∀ a, a < 6 → r (7 * a) = 0)
def RTown (f g : Nat → Int32) : Prop := ∃ t : Nat → Nat, ∀ k, k < 10 → f k = nI (t k) ∧ g k = nI (t k) ∧ t k < 6
def RPage (u v : Int32) (f g : Nat → Int32) : Prop := ∃ (n : Nat) (c : Nat → Nat), n ≤ 32 ∧ u = nI n ∧ v = nI n ∧ ∀ k, k < n → f k = nI (c k) ∧ g k = nI (c k) ∧ c k ≤ 126
theorem op_road_rel (h : RRoad (I 8) (I 64)) (ha : a < 6) (hb : b < 6) (hab : ¬ a = b) (hm : m ≤ 99) : I 8 (a * 6 + b) = I 64 (6 * a + b) ∧ RRoad (fun k => if k = b * 6 + a then nI m else if k = a * 6 + b then nI m else I 8 k) (fun k => if k = 6 * b + a then nI m else if k = 6 * a + b then nI m else I 64 k) := by
  obtain ⟨r, h1, h2, h3⟩ := h
  refine ⟨?_, fun k => if k = 6 * b + a then m else if k = 6 * a + b then m else r k, fun k hk => ?_, fun a' b' ha' hb' => ?_, fun a' ha' => ?_⟩
  · rw [Nat.mul_comm a 6, (h1 _ (by omega)).1, (h1 _ (by omega)).2.1]
  · rw [Nat.mul_comm b 6, Nat.mul_comm a 6]
    dsimp only
    by_cases e1 : k = 6 * b + a
    · simp only [if_pos e1]; exact ⟨trivial, trivial, hm⟩
    · by_cases e2 : k = 6 * a + b
      · simp only [if_neg e1, if_pos e2]; exact ⟨trivial, trivial, hm⟩
      · simp only [if_neg e1, if_neg e2]; exact h1 k hk
  · have := h2 a' b' ha' hb'
    dsimp only
    by_cases e1 : a' = b ∧ b' = a
    · rw [if_pos (by omega), if_neg (by omega), if_pos (by omega)]
    · by_cases e2 : a' = a ∧ b' = b
      · rw [if_neg (by omega), if_pos (by omega), if_pos (by omega)]
      · rw [if_neg (by omega), if_neg (by omega), if_neg (by omega), if_neg (by omega)]; exact this
  · dsimp only
    rw [if_neg (by omega), if_neg (by omega)]; exact h3 a' ha'
theorem op_town_rel (h : RTown (I 36) (I 65)) (ha : a < 10) (hb : b < 6) : I 36 a = I 65 a ∧ RTown (fun k => if k = a then nI b else I 36 k) (fun k => if k = a then nI b else I 65 k) := by
  obtain ⟨t, h1⟩ := h
  refine ⟨by rw [(h1 a ha).1, (h1 a ha).2.1], fun k => if k = a then b else t k, fun k hk => ?_⟩
  dsimp only
  by_cases e : k = a
  · simp only [if_pos e]; exact ⟨trivial, trivial, hb⟩
  · simp only [if_neg e]; exact h1 k hk
theorem op_page_rel (f : Nat → Nat) (hf : ∀ k, k < m → f k ≤ 126) (hn : n ≤ 32) (hnm : n + m ≤ 32) (h1 : ∀ k, k < n → ∃ c, I 2 k = nI c ∧ I 66 k = nI c ∧ c ≤ 126) : RPage (nI (n + m)) (nI (n + m)) (lays I 2 n (fun k => nI (f k)) m 2) (lays I 66 n (fun k => nI (f k)) m 66) := by
  refine ⟨n + m, fun k => if n ≤ k then f (k - n) else if h : k < n then (h1 k h).choose else 0, hnm, rfl, rfl, fun k hk => ?_⟩
  rw [lays_at, lays_at]
  dsimp only
  by_cases e : n ≤ k
  · simp only [if_pos (show n ≤ k ∧ k < n + m from ⟨e, hk⟩), if_pos e]; exact ⟨trivial, trivial, hf _ (by omega)⟩
  · have hk2 : k < n := by omega
    simp only [if_neg (show ¬ (n ≤ k ∧ k < n + m) by omega), if_neg e, dif_pos hk2]; exact (h1 k hk2).choose_spec
end R1
