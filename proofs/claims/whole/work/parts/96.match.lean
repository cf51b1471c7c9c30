section MT
variable {A : Nat → Nat} {S K m n q c x y o i j : Nat} {f g : Nat → Nat} {h : Nat → Bool}
/-- the lowest of a set of 8; the K-th of a set -/
def loF (S : Nat) : Nat → Nat → Nat
  | 0, i => i
  | g + 1, i => if S.testBit i = true then i else loF S g (i + 1)
def lo (S : Nat) : Nat := loF S 7 0
def otF (S K : Nat) : Nat → Nat → Nat
  | 0, i => i
  | g + 1, i => if S.testBit i = true ∧ pop S i = K then i else otF S K g (i + 1)
def ot (S K : Nat) : Nat := otF S K 8 0
theorem lo_ok : ∀ S, S < 256 → 0 < S → S.testBit (lo S) = true ∧ lo S < 8 ∧ ∀ j, j < 8 → j < lo S → S.testBit j = false := by decide +kernel
theorem ot_ok : ∀ S, S < 256 → ∀ K, K < 8 → K < pop S 8 → S.testBit (ot S K) = true ∧ pop S (ot S K) = K ∧ ot S K < 8 := by decide +kernel
theorem ot_pop : ∀ S, S < 256 → ∀ n, n < 8 → S.testBit n = true → ot S (pop S n) = n ∧ pop S n < pop S 8 := by decide +kernel
theorem rm_ok : ∀ S, S < 256 → ∀ j, j < 8 → S.testBit j = true → S - 2 ^ j < 256 ∧ 2 ^ j ≤ S ∧ pop (S - 2 ^ j) 8 + 1 = pop S 8 ∧ ∀ i, i < 8 → (S - 2 ^ j).testBit i = (S.testBit i && !decide (i = j)) := by decide +kernel
theorem rm_adn : ∀ S, S < 256 → ∀ a, a < 8 → ∀ b, b < 8 → (S.testBit a && S.testBit b && !decide (a = b)) = true → adn S (2 ^ a ||| 2 ^ b) = S - 2 ^ a - 2 ^ b := by decide +kernel
theorem pop8_0 : ∀ S, S < 256 → pop S 8 = 0 → S = 0 := by decide +kernel
def s1 (S : Nat) : Nat := S - 2 ^ lo S
def df : Nat → Nat
  | 0 => 1
  | m + 1 => (2 * m + 1) * df m
def VV (A : Nat → Nat) (a b : Nat) : Bool := (A a).testBit b && (A b).testBit a
def tw : Nat → Nat → Nat → Nat → Nat
  | 0, _, _, _ => 0
  | m + 1, S, c, x => if x = lo S then ot (s1 S) (c % (2 * m + 1)) else if x = ot (s1 S) (c % (2 * m + 1)) then lo S else tw m (s1 S - 2 ^ ot (s1 S) (c % (2 * m + 1))) (c / (2 * m + 1)) x
def vd (A : Nat → Nat) : Nat → Nat → Nat → Bool
  | 0, _, _ => true
  | m + 1, S, c => VV A (lo S) (ot (s1 S) (c % (2 * m + 1))) && vd A m (s1 S - 2 ^ ot (s1 S) (c % (2 * m + 1))) (c / (2 * m + 1))
def pu (A : Nat → Nat) : Nat → Nat → Nat
  | 0, _ => 1
  | m + 1, S => sig (fun o => if (s1 S).testBit o = true then (if VV A (lo S) o = true then pu A m (s1 S - 2 ^ o) else 0) else 0) 8
def MK (A : Nat → Nat) : Nat → Nat → Nat → Nat → Prop
  | 0, _, _, _ => False
  | m + 1, S, x, y => ∃ o, o < 8 ∧ (s1 S).testBit o = true ∧ VV A (lo S) o = true ∧ ((0 < pu A m (s1 S - 2 ^ o) ∧ ((x = lo S ∧ y = o) ∨ (x = o ∧ y = lo S))) ∨ MK A m (s1 S - 2 ^ o) x y)
/-- a set of two more: its lowest one, the rest -/
theorem s1_ok (hS : S < 256) (hp : pop S 8 = 2 * (m + 1)) : S.testBit (lo S) = true ∧ lo S < 8 ∧ s1 S < 256 ∧ pop (s1 S) 8 = 2 * m + 1 ∧ (∀ i, i < 8 → (s1 S).testBit i = (S.testBit i && !decide (i = lo S))) ∧ ∀ i, i < 8 → (s1 S).testBit i = true → lo S < i := by
  have h0 : 0 < S := by
    rcases Nat.eq_zero_or_pos S with e | e
    · subst e; revert hp; rw [show pop 0 8 = 0 from rfl]; omega
    · exact e
  obtain ⟨a1, a2, a3⟩ := lo_ok S hS h0
  obtain ⟨b1, b2, b3, b4⟩ := rm_ok S hS (lo S) a2 a1
  refine ⟨a1, a2, b1, by unfold s1; omega, b4, fun i hi hb => ?_⟩
  have := b4 i hi
  unfold s1 at hb
  rw [hb] at this
  have h1 : S.testBit i = true ∧ ¬ i = lo S := by
    have := this.symm
    rw [Bool.and_eq_true, Bool.not_eq_true', decide_eq_false_iff_not] at this
    exact this
  rcases Nat.lt_trichotomy i (lo S) with q | q | q
  · rw [a3 i hi q] at h1; cases h1.1
  · exact absurd q h1.2
  · exact q
theorem s2_ok (hS : S < 256) (hp : pop S 8 = 2 * (m + 1)) (ho : o < 8) (hb : (s1 S).testBit o = true) : s1 S - 2 ^ o < 256 ∧ pop (s1 S - 2 ^ o) 8 = 2 * m ∧ S.testBit o = true ∧ ¬ o = lo S ∧ (∀ i, i < 8 → (s1 S - 2 ^ o).testBit i = (S.testBit i && !decide (i = lo S) && !decide (i = o))) := by
  obtain ⟨a1, a2, a3, a4, a5, a6⟩ := s1_ok hS hp
  obtain ⟨b1, b2, b3, b4⟩ := rm_ok (s1 S) a3 o ho hb
  have h1 := a5 o ho
  rw [hb] at h1
  have h1 := h1.symm
  rw [Bool.and_eq_true, Bool.not_eq_true', decide_eq_false_iff_not] at h1
  refine ⟨b1, by omega, h1.1, h1.2, fun i hi => ?_⟩
  rw [b4 i hi, a5 i hi]
theorem sig_cong {f g : Nat → Nat} : ∀ n, (∀ k, k < n → f k = g k) → sig f n = sig g n := by
  intro n
  induction n with
  | zero => intro _; rfl
  | succ n ih => intro h; rw [sig_s, sig_s, ih (fun k hk => h k (by omega)), h n (by omega)]
theorem sig_addf {f g : Nat → Nat} : ∀ n, sig (fun k => f k + g k) n = sig f n + sig g n := by
  intro n
  induction n with
  | zero => rfl
  | succ n ih => rw [sig_s, sig_s, sig_s, ih]; omega
theorem sig_zero : ∀ n, sig (fun _ => 0) n = 0 := by
  intro n
  induction n with
  | zero => rfl
  | succ n ih => rw [sig_s, ih]
theorem cn_app (h : Nat → Bool) (n : Nat) : ∀ q, cn h (n + q) = cn h n + sig (fun K => if h (n + K) = true then 1 else 0) q := by
  intro q
  induction q with
  | zero => rfl
  | succ q ih => rw [show n + (q + 1) = (n + q) + 1 by omega, cn_s, sig_s, ih]; omega
theorem cn_blk (h : Nat → Bool) (q : Nat) : ∀ a, cn h (q * a) = sig (fun K => cn (fun c => h (K + q * c)) a) q := by
  intro a
  induction a with
  | zero => rw [Nat.mul_zero]; exact (sig_zero q).symm
  | succ a ih =>
    rw [Nat.mul_succ, cn_app, ih, ← sig_addf]
    refine sig_cong q (fun K hK => ?_)
    rw [cn_s, Nat.add_comm K (q * a)]
theorem cn_cong {f g : Nat → Bool} : ∀ n, (∀ k, k < n → f k = g k) → cn f n = cn g n := by
  intro n
  induction n with
  | zero => intro _; rfl
  | succ n ih => intro h; rw [cn_s, cn_s, ih (fun k hk => h k (by omega)), h n (by omega)]
theorem cn_no : ∀ n, cn (fun _ => false) n = 0 := by
  intro n
  induction n with
  | zero => rfl
  | succ n ih => rw [cn_s, ih]; rfl
theorem cn_pos {f : Nat → Bool} : ∀ n, 0 < cn f n ↔ ∃ c, c < n ∧ f c = true := by
  intro n
  induction n with
  | zero => exact ⟨fun h => absurd h (Nat.lt_irrefl _), fun ⟨c, h, _⟩ => absurd h (Nat.not_lt_zero _)⟩
  | succ n ih =>
    rw [cn_s]
    constructor
    · intro h
      by_cases e : f n = true
      · exact ⟨n, by omega, e⟩
      · rw [if_neg e] at h
        obtain ⟨c, h1, h2⟩ := ih.mp h
        exact ⟨c, by omega, h2⟩
    · rintro ⟨c, h1, h2⟩
      rcases (show c = n ∨ c < n by omega) with e | e
      · subst e; rw [if_pos h2]; omega
      · have := ih.mpr ⟨c, e, h2⟩; omega
/-- a sum over a set's ones by their numbers is the sum over the set -/
theorem sig_ot (hS : S < 256) : ∀ n, n ≤ 8 → sig (fun K => f (ot S K)) (pop S n) = sig (fun o => if S.testBit o = true then f o else 0) n := by
  intro n
  induction n with
  | zero => intro _; rfl
  | succ n ih =>
    intro hn
    rw [pop_s, sig_s]
    by_cases b : S.testBit n = true
    · rw [if_pos b, if_pos b, sig_s, ih (by omega), (ot_pop S hS n (by omega) b).1]
    · rw [if_neg b, if_neg b, Nat.add_zero, Nat.add_zero, ih (by omega)]
theorem dm1 (hK : K < q) : (K + q * c) % q = K := by rw [Nat.add_mul_mod_self_left, Nat.mod_eq_of_lt hK]
theorem dm2 (hK : K < q) : (K + q * c) / q = c := by rw [Nat.add_mul_div_left _ _ (by omega), Nat.div_eq_of_lt hK, Nat.zero_add]
theorem pu_cn : ∀ m S, S < 256 → pop S 8 = 2 * m → cn (vd A m S) (df m) = pu A m S := by
  intro m
  induction m with
  | zero => intro S _ _; rfl
  | succ m ih =>
    intro S hS hp
    obtain ⟨a1, a2, a3, a4, a5, a6⟩ := s1_ok hS hp
    have hp8 := pop_le S 8
    show cn _ ((2 * m + 1) * df m) = _
    rw [cn_blk]
    have e : sig (fun K => cn (fun c => vd A (m + 1) S (K + (2 * m + 1) * c)) (df m)) (2 * m + 1) = sig (fun K => (fun o => if VV A (lo S) o = true then pu A m (s1 S - 2 ^ o) else 0) (ot (s1 S) K)) (pop (s1 S) 8) := by
      rw [a4]
      refine sig_cong _ (fun K hK => ?_)
      obtain ⟨b1, b2, b3⟩ := ot_ok (s1 S) a3 K (by omega) (by omega)
      obtain ⟨c1, c2, -⟩ := s2_ok hS hp b3 b1
      have e1 : ∀ c, vd A (m + 1) S (K + (2 * m + 1) * c) = (VV A (lo S) (ot (s1 S) K) && vd A m (s1 S - 2 ^ ot (s1 S) K) c) := by
        intro c
        rw [vd, dm1 hK, dm2 hK]
      dsimp only
      by_cases v : VV A (lo S) (ot (s1 S) K) = true
      · rw [if_pos v, ← ih _ c1 c2]
        refine cn_cong _ (fun c _ => ?_)
        rw [e1, v, Bool.true_and]
      · rw [if_neg v, ← cn_no (df m)]
        refine cn_cong _ (fun c _ => ?_)
        rw [e1, Bool.eq_false_iff.mpr v, Bool.false_and]
    rw [e]
    exact sig_ot (f := fun o => if VV A (lo S) o = true then pu A m (s1 S - 2 ^ o) else 0) a3 8 (Nat.le_refl _)
theorem df_le : ∀ m, m < 5 → df m ≤ 105 := by decide
theorem pu_le (hS : S < 256) (hp : pop S 8 = 2 * m) : pu A m S ≤ 105 := by
  have := pop_le S 8
  rw [← pu_cn m S hS hp]
  exact Nat.le_trans (cn_le _ _) (df_le m (by omega))
theorem MK_MM : ∀ m S, S < 256 → pop S 8 = 2 * m → ∀ x, x < 8 → ∀ y, (MK A m S x y ↔ ∃ c, c < df m ∧ vd A m S c = true ∧ S.testBit x = true ∧ tw m S c x = y) := by
  intro m
  induction m with
  | zero =>
    intro S hS hp x hx y
    obtain rfl := pop8_0 S hS hp
    exact ⟨fun h => h.elim, fun ⟨c, _, _, h, _⟩ => by rw [Nat.zero_testBit] at h; cases h⟩
  | succ m ih =>
    intro S hS hp x hx y
    obtain ⟨a1, a2, a3, a4, a5, a6⟩ := s1_ok hS hp
    have hp8 := pop_le S 8
    constructor
    · rintro ⟨o, ho, hb, hv, h⟩
      obtain ⟨b1, b2, b3, b4, b5⟩ := s2_ok hS hp ho hb
      obtain ⟨k1, k2⟩ := ot_pop (s1 S) a3 o ho hb
      have hK : pop (s1 S) o < 2 * m + 1 := by omega
      have mkc : ∀ c', c' < df m → pop (s1 S) o + (2 * m + 1) * c' < df (m + 1) := by
        intro c' hc
        have : (2 * m + 1) * (c' + 1) ≤ (2 * m + 1) * df m := Nat.mul_le_mul_left _ hc
        rw [Nat.mul_succ] at this
        show _ < (2 * m + 1) * df m
        omega
      have ve : ∀ c', vd A (m + 1) S (pop (s1 S) o + (2 * m + 1) * c') = vd A m (s1 S - 2 ^ o) c' := by
        intro c'
        rw [vd, dm1 hK, dm2 hK, k1, hv, Bool.true_and]
      have te : ∀ c', tw (m + 1) S (pop (s1 S) o + (2 * m + 1) * c') x = if x = lo S then o else if x = o then lo S else tw m (s1 S - 2 ^ o) c' x := by
        intro c'
        rw [tw, dm1 hK, dm2 hK, k1]
      rcases h with ⟨h1, h2⟩ | h
      · rw [← pu_cn _ _ b1 b2] at h1
        obtain ⟨c', hc, hv'⟩ := (cn_pos _).mp h1
        refine ⟨_, mkc c' hc, by rw [ve]; exact hv', ?_⟩
        rw [te]
        rcases h2 with ⟨rfl, rfl⟩ | ⟨rfl, rfl⟩
        · exact ⟨a1, if_pos rfl⟩
        · exact ⟨b3, by rw [if_neg b4, if_pos rfl]⟩
      · obtain ⟨c', hc, hv', hx', ht⟩ := (ih _ b1 b2 x hx y).mp h
        refine ⟨_, mkc c' hc, by rw [ve]; exact hv', ?_⟩
        rw [te]
        rw [b5 x hx, Bool.and_eq_true, Bool.and_eq_true, Bool.not_eq_true', decide_eq_false_iff_not, Bool.not_eq_true', decide_eq_false_iff_not] at hx'
        exact ⟨hx'.1.1, by rw [if_neg hx'.1.2, if_neg hx'.2]; exact ht⟩
    · rintro ⟨c, hc, hv, hx', ht⟩
      have hK : c % (2 * m + 1) < 2 * m + 1 := Nat.mod_lt _ (by omega)
      have hc' : c / (2 * m + 1) < df m := by
        rw [Nat.div_lt_iff_lt_mul (by omega), Nat.mul_comm]; exact hc
      obtain ⟨k1, k2, k3⟩ := ot_ok (s1 S) a3 (c % (2 * m + 1)) (by omega) (by omega)
      obtain ⟨b1, b2, b3, b4, b5⟩ := s2_ok hS hp k3 k1
      rw [vd, Bool.and_eq_true] at hv
      rw [tw] at ht
      refine ⟨_, k3, k1, hv.1, ?_⟩
      have hpos : 0 < pu A m (s1 S - 2 ^ ot (s1 S) (c % (2 * m + 1))) := by
        rw [← pu_cn _ _ b1 b2]; exact (cn_pos _).mpr ⟨_, hc', hv.2⟩
      by_cases e1 : x = lo S
      · rw [if_pos e1] at ht; exact Or.inl ⟨hpos, Or.inl ⟨e1, ht.symm⟩⟩
      · rw [if_neg e1] at ht
        by_cases e2 : x = ot (s1 S) (c % (2 * m + 1))
        · rw [if_pos e2] at ht; exact Or.inl ⟨hpos, Or.inr ⟨e2, ht.symm⟩⟩
        · rw [if_neg e2] at ht
          refine Or.inr ((ih _ b1 b2 x hx y).mpr ⟨_, hc', hv.2, ?_, ht⟩)
          rw [b5 x hx, hx', decide_eq_false e1, decide_eq_false e2]; rfl
/-- the ones of a pairing are in the set; it is so, if each one's twin is so -/
theorem tw_in : ∀ m S c, S < 256 → pop S 8 = 2 * m → ∀ x, x < 8 → S.testBit x = true → tw m S c x < 8 ∧ S.testBit (tw m S c x) = true := by
  intro m
  induction m with
  | zero =>
    intro S c hS hp x hx hb
    obtain rfl := pop8_0 S hS hp
    rw [Nat.zero_testBit] at hb; cases hb
  | succ m ih =>
    intro S c hS hp x hx hb
    obtain ⟨a1, a2, a3, a4, a5, a6⟩ := s1_ok hS hp
    have hp8 := pop_le S 8
    have hK : c % (2 * m + 1) < 2 * m + 1 := Nat.mod_lt _ (by omega)
    obtain ⟨k1, k2, k3⟩ := ot_ok (s1 S) a3 (c % (2 * m + 1)) (by omega) (by omega)
    obtain ⟨b1, b2, b3, b4, b5⟩ := s2_ok hS hp k3 k1
    rw [tw]
    by_cases e1 : x = lo S
    · rw [if_pos e1]; exact ⟨k3, b3⟩
    · rw [if_neg e1]
      by_cases e2 : x = ot (s1 S) (c % (2 * m + 1))
      · rw [if_pos e2]; exact ⟨a2, a1⟩
      · rw [if_neg e2]
        obtain ⟨h1, h2⟩ := ih _ (c / (2 * m + 1)) b1 b2 x hx (by rw [b5 x hx, hb, decide_eq_false e1, decide_eq_false e2]; rfl)
        refine ⟨h1, ?_⟩
        rw [b5 _ h1, Bool.and_eq_true, Bool.and_eq_true] at h2
        exact h2.1.1
theorem vd_so : ∀ m S c, S < 256 → pop S 8 = 2 * m → (vd A m S c = true ↔ ∀ x, x < 8 → S.testBit x = true → (A x).testBit (tw m S c x) = true) := by
  intro m
  induction m with
  | zero =>
    intro S c hS hp
    obtain rfl := pop8_0 S hS hp
    exact ⟨fun _ x _ h => (by rw [Nat.zero_testBit] at h; cases h), fun _ => rfl⟩
  | succ m ih =>
    intro S c hS hp
    obtain ⟨a1, a2, a3, a4, a5, a6⟩ := s1_ok hS hp
    have hp8 := pop_le S 8
    have hK : c % (2 * m + 1) < 2 * m + 1 := Nat.mod_lt _ (by omega)
    obtain ⟨k1, k2, k3⟩ := ot_ok (s1 S) a3 (c % (2 * m + 1)) (by omega) (by omega)
    obtain ⟨b1, b2, b3, b4, b5⟩ := s2_ok hS hp k3 k1
    rw [vd, Bool.and_eq_true, ih _ _ b1 b2]
    unfold VV
    rw [Bool.and_eq_true]
    constructor
    · rintro ⟨⟨h1, h2⟩, h3⟩ x hx hb
      rw [tw]
      by_cases e1 : x = lo S
      · rw [if_pos e1, e1]; exact h1
      · rw [if_neg e1]
        by_cases e2 : x = ot (s1 S) (c % (2 * m + 1))
        · rw [if_pos e2, e2]; exact h2
        · rw [if_neg e2]
          exact h3 x hx (by rw [b5 x hx, hb, decide_eq_false e1, decide_eq_false e2]; rfl)
    · intro h
      refine ⟨⟨?_, ?_⟩, fun x hx hb => ?_⟩
      · have := h _ a2 a1
        rw [tw, if_pos rfl] at this; exact this
      · have := h _ k3 b3
        rw [tw, if_neg b4, if_pos rfl] at this; exact this
      · rw [b5 x hx, Bool.and_eq_true, Bool.and_eq_true, Bool.not_eq_true', decide_eq_false_iff_not, Bool.not_eq_true', decide_eq_false_iff_not] at hb
        have := h x hx hb.1.1
        rw [tw, if_neg hb.1.2, if_neg hb.2] at this; exact this
end MT
