section SC
/-- the first greatest one of a row of numbers -/
def scn (ok : Nat → Bool) (sz vl : Nat → Nat) : Nat → Nat → Nat × Nat → Nat × Nat
  | 0, _, b => b
  | g + 1, i, b => scn ok sz vl g (i + 1) (if ok i = true ∧ b.1 < sz i then (sz i, vl i) else b)
variable {ok ok' : Nat → Bool} {sz sz' vl vl' : Nat → Nat} {lk : Nat → Nat → Bool} {a u f k n m st mn B : Nat} {al : Nat → Nat}
theorem scn_s (g i : Nat) (b : Nat × Nat) : scn ok sz vl (g + 1) i b = scn ok sz vl g (i + 1) (if ok i = true ∧ b.1 < sz i then (sz i, vl i) else b) := rfl
theorem scn_none {b : Nat × Nat} : ∀ (g i : Nat), (∀ j, i ≤ j → j < i + g → ok j = true → sz j ≤ b.1) → scn ok sz vl g i b = b := by
  intro g
  induction g with
  | zero => intro i _; rfl
  | succ g ih =>
    intro i h
    rw [scn_s, if_neg (fun q => by have := h i (Nat.le_refl _) (by omega) q.1; omega)]
    exact ih (i + 1) (fun j h1 h2 => h j (by omega) (by omega))
theorem scn_add : ∀ (g h i : Nat) (b : Nat × Nat), scn ok sz vl (g + h) i b = scn ok sz vl h (i + g) (scn ok sz vl g i b) := by
  intro g
  induction g with
  | zero => intro h i b; rw [Nat.zero_add]; rfl
  | succ g ih =>
    intro h i b
    rw [show g + 1 + h = (g + h) + 1 by omega, scn_s, scn_s, ih h (i + 1), show i + 1 + g = i + (g + 1) by omega]
theorem scn_cong (s : Nat) : ∀ (g i : Nat) (b : Nat × Nat), (∀ j, i ≤ j → j < i + g → ok (j + s) = ok' j ∧ (ok' j = true → sz (j + s) = sz' j ∧ vl (j + s) = vl' j)) → scn ok sz vl g (i + s) b = scn ok' sz' vl' g i b := by
  intro g
  induction g with
  | zero => intro i b _; rfl
  | succ g ih =>
    intro i b h
    obtain ⟨h1, h2⟩ := h i (Nat.le_refl _) (by omega)
    rw [scn_s, scn_s, h1, show i + s + 1 = i + 1 + s by omega]
    by_cases c : ok' i = true
    · obtain ⟨h3, h4⟩ := h2 c
      rw [h3, h4]
      exact ih (i + 1) _ (fun j a1 a2 => h j (by omega) (by omega))
    · rw [if_neg (fun q => c q.1), if_neg (fun q => c q.1)]
      exact ih (i + 1) _ (fun j a1 a2 => h j (by omega) (by omega))
theorem scn_le : ∀ (g i : Nat) (b : Nat × Nat), b.1 ≤ B → (∀ j, i ≤ j → j < i + g → sz j ≤ B) → (scn ok sz vl g i b).1 ≤ B := by
  intro g
  induction g with
  | zero => intro i b h _; exact h
  | succ g ih =>
    intro i b h h2
    rw [scn_s]
    refine ih (i + 1) _ ?_ (fun j a1 a2 => h2 j (by omega) (by omega))
    split
    · exact h2 i (Nat.le_refl _) (by omega)
    · exact h
theorem scn_pop {sz : Nat → Nat} : ∀ (g i : Nat) (b : Nat × Nat), b.1 = sz b.2 → (scn ok sz (fun u => u) g i b).1 = sz (scn ok sz (fun u => u) g i b).2 := by
  intro g
  induction g with
  | zero => intro i b h; exact h
  | succ g ih =>
    intro i b h
    rw [scn_s]
    refine ih (i + 1) _ ?_
    split
    · rfl
    · exact h
theorem tb_add (h : u < 2 ^ k) (j : Nat) : (u + 2 ^ k).testBit j = (decide (k = j) || u.testBit j) := by
  have e := Nat.two_pow_add_eq_or_of_lt h 1
  rw [Nat.mul_one] at e
  rw [Nat.add_comm, e, Nat.testBit_or, Nat.testBit_two_pow]
theorem tb_lt (h : u < 2 ^ k) {j : Nat} (hj : u.testBit j = true) : j < k := by
  rcases Nat.lt_or_ge j k with q | q
  · exact q
  · have : u < 2 ^ j := Nat.lt_of_lt_of_le h (Nat.pow_le_pow_right (by decide) q)
    rw [Nat.testBit_lt_two_pow this] at hj
    cases hj
theorem pop_mono : ∀ n, (∀ x, x < n → u.testBit x = true → f.testBit x = true) → pop u n ≤ pop f n := by
  intro n
  induction n with
  | zero => intro _; exact Nat.le_refl _
  | succ n ih =>
    intro h
    have := ih (fun x hx => h x (by omega))
    rw [pop_s, pop_s]
    by_cases c : u.testBit n = true
    · rw [if_pos c, if_pos (h n (by omega) c)]; omega
    · rw [if_neg c]; split <;> omega
theorem pop_add (h : u < 2 ^ k) : ∀ j, pop (u + 2 ^ k) j = pop u j + if k < j then 1 else 0 := by
  intro j
  induction j with
  | zero => rfl
  | succ j ih =>
    rw [pop_s, pop_s, ih, tb_add h]
    rcases Nat.lt_trichotomy k j with q | q | q
    · have e : u.testBit j = false := Nat.testBit_lt_two_pow (Nat.lt_trans h (wb_lt2 q))
      rw [e, show decide (k = j) = false from decide_eq_false (by omega), if_pos q, if_pos (show k < j + 1 by omega)]; simp
    · subst q
      rw [Nat.testBit_lt_two_pow h, show decide (k = k) = true from decide_eq_true rfl, if_neg (show ¬ k < k by omega), if_pos (show k < k + 1 by omega)]; simp
    · rw [show decide (k = j) = false from decide_eq_false (by omega), if_neg (show ¬ k < j by omega), if_neg (show ¬ k < j + 1 by omega), Bool.false_or]; omega
theorem pop_k (h : u < 2 ^ k) (hk : k ≤ 16) : pop u 16 ≤ k := by
  rw [show 16 = k + (16 - k) by omega, pop_stop h]; exact pop_le u k
/-- no two of a set are alike; a set within another -/
abbrev Ind (lk : Nat → Nat → Bool) (u : Nat) : Prop := ∀ x, x < 16 → ∀ y, y < 16 → u.testBit x = true → u.testBit y = true → ¬ x = y → lk x y = false
abbrev Sub (u f : Nat) : Prop := ∀ x, x < 16 → u.testBit x = true → f.testBit x = true
def okC (lk : Nat → Nat → Bool) (f u : Nat) : Bool := decide (Sub u f ∧ Ind lk u)
theorem beq_iff {p q : Prop} [Decidable p] [Decidable q] (h : p ↔ q) : decide p = decide q := by
  by_cases c : p
  · rw [decide_eq_true c, decide_eq_true (h.mp c)]
  · rw [decide_eq_false c, decide_eq_false (fun z => c (h.mpr z))]
theorem okC_lo (hu : u < 2 ^ k) (hk : k < 16) (hf : f < 65536) : okC lk f u = okC lk (adn f (2 ^ k)) u := by
  have h2 : (2 : Nat) ^ k < 4294967296 := wb_lt2 (b := 32) (by omega)
  refine beq_iff (and_congr_left fun _ => ?_)
  constructor
  · intro h x hx hb
    have := tb_lt hu hb
    rw [tb_adn (by omega) h2, h x hx hb, Nat.testBit_two_pow, decide_eq_false (by omega)]; rfl
  · intro h x hx hb
    have := h x hx hb
    rw [tb_adn (by omega) h2, Bool.and_eq_true] at this
    exact this.1
theorem okC_hi (hu : u < 2 ^ k) (hk : k < n) (hn : n ≤ 16) (hf : f < 65536) (ha : a < 65536) (hb : f.testBit k = true) (hal : ∀ y, y < n → a.testBit y = lk k y) (hs : ∀ x y, lk x y = lk y x) : okC lk f (u + 2 ^ k) = okC lk (adn f a) u := by
  have hx1 : ∀ {x}, u.testBit x = true → (u + 2 ^ k).testBit x = true := fun {x} h => by rw [tb_add hu, h, Bool.or_true]
  have hkk : (u + 2 ^ k).testBit k = true := by rw [tb_add hu, decide_eq_true rfl, Bool.true_or]
  refine beq_iff ⟨fun ⟨h1, h2⟩ => ⟨fun x hx hb => ?_, fun x hx y hy bx by' hxy => h2 x hx y hy (hx1 bx) (hx1 by') hxy⟩, fun ⟨h1, h2⟩ => ⟨fun x hx hb => ?_, fun x hx y hy bx by' hxy => ?_⟩⟩
  · have := tb_lt hu hb
    have e := h2 k (by omega) x hx hkk (hx1 hb) (by omega)
    rw [tb_adn (by omega) (by omega), h1 x hx (hx1 hb), hal x (by omega), e]; rfl
  · rw [tb_add hu, Bool.or_eq_true, decide_eq_true_eq] at hb
    rcases hb with rfl | hb
    · assumption
    · have := h1 x hx hb
      rw [tb_adn (by omega) (by omega), Bool.and_eq_true] at this
      exact this.1
  · have key : ∀ y, y < 16 → u.testBit y = true → lk k y = false := fun y hy h => by
      have q := h1 y hy h
      have := tb_lt hu h
      rw [tb_adn (by omega) (by omega), Bool.and_eq_true, hal y (by omega)] at q
      cases e : lk k y with
      | false => rfl
      | true => rw [e] at q; cases q.2
    rw [tb_add hu, Bool.or_eq_true, decide_eq_true_eq] at bx by'
    rcases bx with rfl | bx
    · rcases by' with q | by'
      · exact absurd q hxy
      · exact key y hy by'
    · rcases by' with rfl | by'
      · rw [hs]; exact key x hx bx
      · exact h2 x hx y hy bx by' hxy
theorem okC_no (hu : u < 2 ^ k) (hk : k < 16) (hb : f.testBit k = false) : okC lk f (u + 2 ^ k) = false := by
  unfold okC
  rw [decide_eq_false]
  rintro ⟨h, -⟩
  have := h k hk (by rw [tb_add hu, decide_eq_true rfl, Bool.true_or])
  rw [hb] at this
  cases this
def ch (lk : Nat → Nat → Bool) (k f st mn : Nat) (b : Nat × Nat) : Nat × Nat := scn (okC lk f) (fun u => mn + pop u 16) (fun u => st + u) (2 ^ k) 0 b
theorem okC_0 : okC lk f 0 = true := by
  unfold okC
  rw [decide_eq_true]
  exact ⟨fun x _ h => absurd h (by rw [Nat.zero_testBit]; decide), fun x _ y _ h => absurd h (by rw [Nat.zero_testBit]; decide)⟩
theorem ch_0 (b : Nat × Nat) : ch lk 0 f st mn b = if b.1 < mn then (mn, st) else b := by
  unfold ch
  rw [show 2 ^ 0 = 0 + 1 from rfl, scn_s, okC_0, show pop 0 16 = 0 from rfl]
  simp only [true_and, Nat.add_zero]
  rfl
theorem ch_p {b : Nat × Nat} (h : mn + pop f 16 ≤ b.1) : ch lk k f st mn b = b := by
  refine scn_none _ _ (fun j _ _ hj => ?_)
  unfold okC at hj
  have := pop_mono 16 (of_decide_eq_true hj).1
  show mn + pop j 16 ≤ b.1
  omega
theorem ch_s (hk : k < n) (hn : n ≤ 16) (hf : f < 65536) (ha : a < 65536) (hal : ∀ y, y < n → a.testBit y = lk k y) (hs : ∀ x y, lk x y = lk y x) (b : Nat × Nat) : ch lk (k + 1) f st mn b = if f.testBit k = true then ch lk k (adn f a) (st + 2 ^ k) (mn + 1) (ch lk k (adn f (2 ^ k)) st mn b) else ch lk k (adn f (2 ^ k)) st mn b := by
  have e1 : ch lk (k + 1) f st mn b = scn (okC lk f) (fun u => mn + pop u 16) (fun u => st + u) (2 ^ k) (0 + 2 ^ k) (ch lk k (adn f (2 ^ k)) st mn b) := by
    unfold ch
    rw [show 2 ^ (k + 1) = 2 ^ k + 2 ^ k by rw [Nat.pow_succ]; omega, scn_add]
    congr 1
    exact scn_cong 0 _ 0 b (fun j _ hj => ⟨okC_lo (by omega) (by omega) hf, fun _ => ⟨rfl, rfl⟩⟩)
  rw [e1]
  by_cases c : f.testBit k = true
  · rw [if_pos c]
    refine scn_cong (2 ^ k) _ 0 _ (fun j _ hj => ⟨okC_hi (by omega) hk hn hf ha c hal hs, fun _ => ⟨?_, ?_⟩⟩)
    · show mn + pop (j + 2 ^ k) 16 = mn + 1 + pop j 16
      rw [pop_add (by omega), if_pos (by omega)]; omega
    · show st + (j + 2 ^ k) = st + 2 ^ k + j
      omega
  · rw [if_neg c]
    have c' : f.testBit k = false := by cases e : f.testBit k with | false => rfl | true => exact absurd e c
    refine scn_none _ _ (fun j h1 h2 hj => ?_)
    have := okC_no (lk := lk) (f := f) (u := j - 2 ^ k) (k := k) (by omega) (by omega) c'
    rw [show j - 2 ^ k + 2 ^ k = j by omega, hj] at this
    cases this
theorem ch_le {b : Nat × Nat} (hk : k ≤ 16) (hm : mn + k ≤ 16) (hb : b.1 ≤ 16) : (ch lk k f st mn b).1 ≤ 16 := scn_le _ _ _ hb (fun j _ hj => by
  have := pop_k (u := j) (k := k) (by omega) hk
  show mn + pop j 16 ≤ 16
  omega)
theorem adn_lt (hf : f < 2 ^ (k + 1)) (hk : k < 16) (ha : a < 65536) (hb : a.testBit k = true) : adn f a < 2 ^ k := by
  have h16 : f < 65536 := Nat.lt_of_lt_of_le hf (Nat.pow_le_pow_right (n := 2) (by decide) (show k + 1 ≤ 16 by omega))
  refine Nat.lt_pow_two_of_testBit _ (fun i hi => ?_)
  rw [tb_adn (by omega) (by omega)]
  by_cases e : i = k
  · rw [e, hb, Bool.not_true, Bool.and_false]
  · rw [Nat.testBit_lt_two_pow (Nat.lt_of_lt_of_le hf (Nat.pow_le_pow_right (by decide) (show k + 1 ≤ i by omega))), Bool.false_and]
theorem or_pw (h : st % 2 ^ (k + 1) = 0) : st ||| 2 ^ k = st + 2 ^ k := by
  have e := Nat.two_pow_add_eq_or_of_lt (wb_lt2 (show k < k + 1 by omega)) (st / 2 ^ (k + 1))
  have e2 := Nat.div_add_mod st (2 ^ (k + 1))
  rw [h, Nat.add_zero] at e2
  rw [e2] at e
  exact e.symm
theorem md_pw (h : st % 2 ^ (k + 1) = 0) : st % 2 ^ k = 0 ∧ (st + 2 ^ k) % 2 ^ k = 0 := by
  have e2 := Nat.div_add_mod st (2 ^ (k + 1))
  rw [h, Nat.add_zero, Nat.pow_succ, Nat.mul_assoc] at e2
  have e : st % 2 ^ k = 0 := by rw [← e2]; exact Nat.mul_mod_right _ _
  exact ⟨e, by rw [Nat.add_mod_right]; exact e⟩
/-- a set told bit by bit -/
def rl (g : Nat → Bool) : Nat → Nat
  | 0 => 0
  | n + 1 => rl g n + (if g n = true then 2 ^ n else 0)
theorem rl_s (g : Nat → Bool) (n : Nat) : rl g (n + 1) = rl g n + (if g n = true then 2 ^ n else 0) := rfl
theorem rl_lt (g : Nat → Bool) : ∀ n, rl g n < 2 ^ n := by
  intro n
  induction n with
  | zero => exact Nat.zero_lt_one
  | succ n ih => rw [rl_s, Nat.pow_succ]; split <;> omega
theorem rl_tb (g : Nat → Bool) (j : Nat) : ∀ n, (rl g n).testBit j = (decide (j < n) && g j) := by
  intro n
  induction n with
  | zero => rw [show rl g 0 = 0 from rfl, Nat.zero_testBit]; rfl
  | succ n ih =>
    rw [rl_s]
    by_cases c : g n = true
    · rw [if_pos c, tb_add (rl_lt g n), ih]
      rcases Nat.lt_trichotomy j n with q | q | q
      · rw [show decide (n = j) = false from decide_eq_false (by omega), decide_eq_true q, show decide (j < n + 1) = true from decide_eq_true (by omega)]; rfl
      · subst q; rw [show decide (j = j) = true from decide_eq_true rfl, show decide (j < j + 1) = true from decide_eq_true (by omega), c]; rfl
      · rw [show decide (n = j) = false from decide_eq_false (by omega), show decide (j < n) = false from decide_eq_false (by omega), show decide (j < n + 1) = false from decide_eq_false (by omega)]; rfl
    · rw [if_neg c, Nat.add_zero, ih]
      rcases Nat.lt_trichotomy j n with q | q | q
      · rw [decide_eq_true q, show decide (j < n + 1) = true from decide_eq_true (by omega)]
      · subst q; rw [show decide (j < j) = false from decide_eq_false (by omega), show decide (j < j + 1) = true from decide_eq_true (by omega)]
        cases e : g j with
        | false => rfl
        | true => exact absurd e c
      · rw [show decide (j < n) = false from decide_eq_false (by omega), show decide (j < n + 1) = false from decide_eq_false (by omega)]
theorem rl_or (g : Nat → Bool) (n : Nat) (c : g n = true) : rl g n ||| 2 ^ n = rl g (n + 1) := by
  have e := Nat.two_pow_add_eq_or_of_lt (rl_lt g n) 1
  rw [Nat.mul_one] at e
  rw [rl_s, if_pos c, Nat.or_comm, ← e]; omega
/-- which rows look alike, and both ways to the same set -/
def lkb (q x y : Nat) : Bool := decide (pop (adn x y) 16 ≤ q ∧ pop (adn y x) 16 ≤ q)
theorem lkb_s (q x y : Nat) : lkb q x y = lkb q y x := beq_iff ⟨fun h => ⟨h.2, h.1⟩, fun h => ⟨h.2, h.1⟩⟩
theorem adn_self (h : a < 65536) : adn a a = 0 := by
  refine Nat.eq_of_testBit_eq (fun i => ?_)
  rw [tb_adn (by omega) (by omega), Nat.zero_testBit, Bool.and_not_self]
theorem lkb_r (q x : Nat) (h : x < 65536) : lkb q x x = true := by
  unfold lkb
  rw [adn_self h]
  exact decide_eq_true ⟨Nat.zero_le _, Nat.zero_le _⟩
def amb (q x y : Nat) : Bool := !decide (x = y) && lkb q x y
def bad (q n s x : Nat) : Bool := s.testBit x && !decide (s &&& rl (amb q x) n = 0)
theorem bad_Ind (q s : Nat) (hn : n ≤ 16) (hs : s < 2 ^ n) : anyN (bad q n s) n = !decide (Ind (lkb q) s) := by
  have L1 : decide (Ind (lkb q) s) = true → ∀ x, x < n → bad q n s x = false := fun h x hx => by
    have h := of_decide_eq_true h
    unfold bad
    cases e : s.testBit x with
    | false => rfl
    | true =>
      have : s &&& rl (amb q x) n = 0 := by
        refine Nat.eq_of_testBit_eq (fun i => ?_)
        rw [Nat.testBit_and, rl_tb, Nat.zero_testBit]
        cases e2 : s.testBit i with
        | false => rfl
        | true =>
          have hi := tb_lt hs e2
          rw [decide_eq_true hi]
          unfold amb
          by_cases c : x = i
          · rw [decide_eq_true c]; rfl
          · rw [h x (by omega) i (by omega) e e2 c]; simp
      rw [decide_eq_true this]; rfl
  have L2 : (∀ x, x < n → bad q n s x = false) → Ind (lkb q) s := fun h x hx y hy bx by' hxy => by
    have h1 := tb_lt hs bx
    have h2 := tb_lt hs by'
    have h3 := h x h1
    unfold bad at h3
    rw [bx, Bool.true_and, Bool.not_eq_false', decide_eq_true_eq] at h3
    have h4 := congrArg (fun z => Nat.testBit z y) h3
    rw [Nat.testBit_and, rl_tb, Nat.zero_testBit, by', decide_eq_true h2, Bool.true_and, Bool.true_and] at h4
    unfold amb at h4
    rw [decide_eq_false hxy] at h4
    simpa using h4
  cases e : anyN (bad q n s) n with
  | true =>
    obtain ⟨x, hx, hb⟩ := anyN_ex e
    cases e2 : decide (Ind (lkb q) s) with
    | false => rfl
    | true => rw [L1 e2 x hx] at hb; cases hb
  | false =>
    rw [decide_eq_true (L2 (fun x hx => by
      cases e2 : bad q n s x with
      | false => rfl
      | true => rw [anyN_t e2 n hx] at e; cases e))]
    rfl
theorem okC_top (q s : Nat) (hn : n ≤ 16) (hs : s < 2 ^ n) : okC (lkb q) (2 ^ n - 1) s = !anyN (bad q n s) n := by
  rw [bad_Ind q s hn hs, Bool.not_not]
  refine beq_iff ⟨fun h => h.2, fun h => ⟨fun x hx hb => ?_, h⟩⟩
  rw [Nat.testBit_two_pow_sub_one, decide_eq_true (tb_lt hs hb)]
def mres (q n : Nat) : Nat × Nat := scn (fun s => !anyN (bad q n s) n) (fun u => pop u 16) (fun u => u) (2 ^ n - 1) 1 (0, 0)
theorem ch_top (q : Nat) (hn : n ≤ 16) : ch (lkb q) n (2 ^ n - 1) 0 0 (0, 0) = mres q n := by
  have hp : 0 < 2 ^ n := Nat.two_pow_pos n
  unfold ch mres
  rw [show 2 ^ n = (2 ^ n - 1) + 1 by omega, scn_s, if_neg (by rintro ⟨-, h⟩; revert h; decide), Nat.add_sub_cancel]
  exact scn_cong 0 _ 1 _ (fun j h1 h2 => ⟨okC_top q j hn (by omega), fun _ => ⟨Nat.zero_add _, Nat.zero_add _⟩⟩)
theorem mres_pop (q n : Nat) : (mres q n).1 = pop (mres q n).2 16 := scn_pop (sz := fun u => pop u 16) _ _ _ rfl
end SC
