/-! ways: the greatest ways below some given ones -/
section WY
abbrev Mx : Type := Nat → Nat → Nat
def stg (D : Mx) (k : Nat) : Mx := fun a b => min (D a b) (D a k + D k b)
def fw (M : Mx) : Nat → Mx
  | 0 => M
  | k + 1 => stg (fw M k) k
def Tri (T : Mx) : Prop := ∀ a b c, a < 6 → b < 6 → c < 6 → T a b ≤ T a c + T c b
def IsC (M C : Mx) : Prop := (∀ a b, a < 6 → b < 6 → C a b ≤ M a b) ∧ (∀ a, a < 6 → C a a = 0) ∧ Tri C ∧ ∀ T : Mx, (∀ a b, a < 6 → b < 6 → T a b ≤ M a b) → Tri T → ∀ a b, a < 6 → b < 6 → T a b ≤ C a b
theorem fw_d {M : Mx} (hd : ∀ a, a < 6 → M a a = 0) : ∀ k a, a < 6 → fw M k a a = 0 := by
  intro k
  induction k with
  | zero => exact hd
  | succ k ih => intro a ha; show min (fw M k a a) _ = 0; rw [ih a ha]; exact Nat.zero_min _
theorem fw_le {M : Mx} : ∀ k a b, fw M k a b ≤ M a b := by
  intro k
  induction k with
  | zero => intro a b; exact Nat.le_refl _
  | succ k ih => intro a b; exact Nat.le_trans (Nat.min_le_left _ _) (ih a b)
theorem fw_max {M T : Mx} (h : ∀ a b, a < 6 → b < 6 → T a b ≤ M a b) (t : Tri T) : ∀ k, k ≤ 6 → ∀ a b, a < 6 → b < 6 → T a b ≤ fw M k a b := by
  intro k
  induction k with
  | zero => intro _; exact h
  | succ k ih =>
    intro hk a b ha hb
    have i1 := ih (by omega) a b ha hb
    have i2 := ih (by omega) a k ha (by omega)
    have i3 := ih (by omega) k b (by omega) hb
    have i4 := t a b k ha hb (by omega)
    show T a b ≤ min (fw M k a b) (fw M k a k + fw M k k b)
    omega
theorem fw_tri {M : Mx} (hd : ∀ a, a < 6 → M a a = 0) : ∀ k, k ≤ 6 → ∀ a b c, a < 6 → b < 6 → c < k → fw M k a b ≤ fw M k a c + fw M k c b := by
  intro k
  induction k with
  | zero => intro _ a b c _ _ hc; omega
  | succ k ih =>
    intro hk a b c ha hb hc
    have dk := fw_d hd k k (by omega)
    show min (fw M k a b) (fw M k a k + fw M k k b) ≤ min (fw M k a c) (fw M k a k + fw M k k c) + min (fw M k c b) (fw M k c k + fw M k k b)
    by_cases e : c = k
    · subst e
      omega
    · have h1 := ih (by omega) a b c ha hb (by omega)
      have h2 := ih (by omega) k b c (by omega) hb (by omega)
      have h3 := ih (by omega) a k c ha (by omega) (by omega)
      omega
theorem fw_C {M : Mx} (hd : ∀ a, a < 6 → M a a = 0) : IsC M (fw M 6) :=
  ⟨fun a b _ _ => fw_le 6 a b, fun a ha => fw_d hd 6 a ha, fun a b c ha hb hc => fw_tri hd 6 (Nat.le_refl _) a b c ha hb hc, fun T h t a b ha hb => fw_max h t 6 (Nat.le_refl _) a b ha hb⟩
theorem IsC_eq {M M' C C' : Mx} (h : IsC M C) (h' : IsC M' C') (e : ∀ a b, a < 6 → b < 6 → M a b = M' a b) : ∀ a b, a < 6 → b < 6 → C a b = C' a b := by
  intro a b ha hb
  have i1 := h'.2.2.2 C (fun a b ha hb => by rw [← e a b ha hb]; exact h.1 a b ha hb) h.2.2.1 a b ha hb
  have i2 := h.2.2.2 C' (fun a b ha hb => by rw [e a b ha hb]; exact h'.1 a b ha hb) h'.2.2.1 a b ha hb
  omega
theorem IsC_cap {M C : Mx} (N : Nat) (h : IsC M C) : IsC (fun a b => min N (M a b)) (fun a b => min N (C a b)) := by
  obtain ⟨h1, h2, h3, h4⟩ := h
  refine ⟨fun a b ha hb => ?_, fun a ha => ?_, fun a b c ha hb hc => ?_, fun T t1 t2 a b ha hb => ?_⟩
  · have := h1 a b ha hb; dsimp only; omega
  · have := h2 a ha; dsimp only; omega
  · have := h3 a b c ha hb hc; dsimp only; omega
  · have i1 := h4 T (fun a b ha hb => by have := t1 a b ha hb; dsimp only at this; omega) t2 a b ha hb
    have i2 := t1 a b ha hb
    dsimp only at i2 ⊢
    omega
/-- with one bond more -/
def bd (C : Mx) (a b : Nat) : Mx := fun i j => min (C i j) (min (C i a + 1 + C b j) (C i b + 1 + C a j))
def bM (M : Mx) (a b : Nat) : Mx := fun i j => if (i = a ∧ j = b) ∨ (i = b ∧ j = a) then min (M i j) 1 else M i j
theorem bd_C {M C : Mx} {a b : Nat} (ha : a < 6) (hb : b < 6) (hab : a ≠ b) (h : IsC M C) : IsC (bM M a b) (bd C a b) := by
  obtain ⟨h1, h2, h3, h4⟩ := h
  have da := h2 a ha
  have db := h2 b hb
  refine ⟨fun i j hi hj => ?_, fun i hi => ?_, fun i j k hi hj hk => ?_, fun T t1 t2 i j hi hj => ?_⟩
  · have := h1 i j hi hj
    unfold bd bM
    (try dsimp only)
    split
    · rename_i h
      rcases h with ⟨rfl, rfl⟩ | ⟨rfl, rfl⟩ <;> omega
    · omega
  · have := h2 i hi; unfold bd; (try dsimp only); omega
  · unfold bd
    (try dsimp only)
    have q1 := h3 i j k hi hj hk
    have q2 := h3 b j k hb hj hk
    have q3 := h3 a j k ha hj hk
    have q4 := h3 i a k hi ha hk
    have q5 := h3 i b k hi hb hk
    have q6 := h3 i j a hi hj ha
    have q7 := h3 i j b hi hj hb
    omega
  · have m1 := h4 T (fun i j hi hj => by
      have := t1 i j hi hj
      unfold bM at this
      (try dsimp only at this)
      split at this
      · omega
      · exact this) t2
    have e1 : T a b ≤ 1 := by have := t1 a b ha hb; unfold bM at this; (try dsimp only at this); rw [if_pos (Or.inl ⟨rfl, rfl⟩)] at this; omega
    have e2 : T b a ≤ 1 := by have := t1 b a hb ha; unfold bM at this; (try dsimp only at this); rw [if_pos (Or.inr ⟨rfl, rfl⟩)] at this; omega
    have u1 := m1 i j hi hj
    have u2 := m1 i a hi ha
    have u3 := m1 b j hb hj
    have u4 := m1 i b hi hb
    have u5 := m1 a j ha hj
    have v1 := t2 i j a hi hj ha
    have v2 := t2 a j b ha hj hb
    have v3 := t2 i j b hi hj hb
    have v4 := t2 b j a hb hj ha
    unfold bd
    (try dsimp only)
    omega
theorem bM_cap {M : Mx} {a b N : Nat} (hN : 1 ≤ N) (i j : Nat) : bM (fun a b => min N (M a b)) a b i j = min N (bM M a b i j) := by
  unfold bM
  (try dsimp only)
  split <;> omega
theorem bM_d {M : Mx} {a b : Nat} (hab : a ≠ b) (hd : ∀ a, a < 6 → M a a = 0) : ∀ i, i < 6 → bM M a b i i = 0 := by
  intro i hi
  unfold bM
  (try dsimp only)
  rw [if_neg (by omega)]
  exact hd i hi
end WY
