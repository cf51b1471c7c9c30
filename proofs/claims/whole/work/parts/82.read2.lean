section RD2
variable {d N : Nat} {I J : sm_Im} {L : sm_Lm} {P : sm_Pm} {sw : Bool} {x y z u v : Int32} {a b m n q j p k c s w o : Nat} {g : Nat → Nat}
theorem pop_stop (h : s < 2 ^ k) : ∀ j, pop s (k + j) = pop s k := by
  intro j
  induction j with
  | zero => rfl
  | succ j ih =>
    rw [show k + (j + 1) = (k + j) + 1 from rfl, pop_s, ih, Nat.testBit_lt_two_pow (Nat.lt_of_lt_of_le h (Nat.pow_le_pow_right (by decide) (Nat.le_add_right _ _)))]
    rfl
theorem pop8 (h : s < 256) : pop s 16 = pop s 8 := pop_stop (k := 8) h 8
theorem pop8_le (h : s < 256) : pop s 16 ≤ 8 := by rw [pop8 h]; exact pop_le s 8
def wt (w c o : Nat) : Nat := if adn c w = 0 then o ^ pop (adn w c) 16 * 10 ^ (8 - pop (adn w c) 16) else 0
def lkp (w c o : Nat) : Nat → Nat
  | 0 => 1
  | k + 1 => lkp w c o k * (if c.testBit k = true then 10 - o else if w.testBit k = true then o else 10)
def lk (w c o : Nat) : Nat := if adn c w = 0 then lkp w c o 8 else 0
def sig (f : Nat → Nat) : Nat → Nat
  | 0 => 0
  | n + 1 => sig f n + f n
theorem sig_s (f : Nat → Nat) (n : Nat) : sig f (n + 1) = sig f n + f n := rfl
theorem wt_le (hw : w < 256) (ho : o ≤ 9) : wt w c o ≤ 100000000 := by
  unfold wt
  split
  · have h1 := pop8_le (s := adn w c) (Nat.lt_of_le_of_lt adn_le hw)
    generalize pop (adn w c) 16 = m at h1 ⊢
    have : o ^ m * 10 ^ (8 - m) ≤ 10 ^ m * 10 ^ (8 - m) := Nat.mul_le_mul_right _ (Nat.pow_le_pow_left (by omega) m)
    rw [← Nat.pow_add, show m + (8 - m) = 8 by omega] at this
    exact this
  · exact Nat.zero_le _
theorem lkp_le (ho : o ≤ 9) : ∀ k, lkp w c o k ≤ 10 ^ k := by
  intro k
  induction k with
  | zero => exact Nat.le_refl _
  | succ k ih =>
    show lkp w c o k * _ ≤ 10 ^ (k + 1)
    rw [Nat.pow_succ]
    refine Nat.mul_le_mul ih ?_
    split
    · omega
    · split <;> omega
theorem lk_le (ho : o ≤ 9) : lk w c o ≤ 100000000 := by
  unfold lk
  split
  · exact lkp_le ho 8
  · exact Nat.zero_le _
theorem sig_le {f : Nat → Nat} {B : Nat} (n : Nat) (h : ∀ k, k < n → f k ≤ B) : sig f n ≤ n * B := by
  induction n with
  | zero => exact Nat.zero_le _
  | succ n ih =>
    rw [sig_s, Nat.succ_mul]
    exact Nat.add_le_add (ih fun k hk => h k (by omega)) (h n (by omega))
theorem lkp_id (hw : w < 4294967296) (hc : c < 4294967296) : ∀ i, lkp w c o i * 10 ^ pop c i = (10 - o) ^ pop c i * (o ^ pop (adn w c) i * 10 ^ (i - pop (adn w c) i)) := by
  intro i
  induction i with
  | zero => rfl
  | succ i ih =>
    have hB := pop_le (adn w c) i
    rw [pop_s c, pop_s (adn w c), tb_adn hw hc]
    show lkp w c o i * _ * _ = _
    by_cases h1 : c.testBit i = true
    · have e : i + 1 - pop (adn w c) i = (i - pop (adn w c) i) + 1 := by omega
      simp only [h1, if_true, Bool.not_true, Bool.and_false, Bool.false_eq_true, if_false, Nat.add_zero, e, Nat.pow_succ]
      calc lkp w c o i * (10 - o) * (10 ^ pop c i * 10) = (lkp w c o i * 10 ^ pop c i) * ((10 - o) * 10) := by ac_rfl
        _ = _ := by rw [ih]; ac_rfl
    · by_cases h2 : w.testBit i = true
      · have e : i + 1 - (pop (adn w c) i + 1) = i - pop (adn w c) i := by omega
        simp only [h1, h2, if_true, Bool.not_false, Bool.and_true, Bool.false_eq_true, if_false, Nat.add_zero, e, Nat.pow_succ]
        calc lkp w c o i * o * 10 ^ pop c i = (lkp w c o i * 10 ^ pop c i) * o := by ac_rfl
          _ = _ := by rw [ih]; ac_rfl
      · have e : i + 1 - pop (adn w c) i = (i - pop (adn w c) i) + 1 := by omega
        simp only [h1, h2, Bool.not_false, Bool.and_true, Bool.false_eq_true, if_false, Nat.add_zero, e, Nat.pow_succ]
        calc lkp w c o i * 10 * 10 ^ pop c i = (lkp w c o i * 10 ^ pop c i) * 10 := by ac_rfl
          _ = _ := by rw [ih]; ac_rfl
theorem lk_wt (hw : w < 256) (hc : c < 256) : lk w c o * 10 ^ pop c 8 = wt w c o * (10 - o) ^ pop c 8 := by
  unfold lk wt
  by_cases h : adn c w = 0
  · rw [if_pos h, if_pos h, lkp_id (by omega) (by omega), pop8 (Nat.lt_of_le_of_lt adn_le hw), Nat.mul_comm]
  · rw [if_neg h, if_neg h, Nat.zero_mul, Nat.zero_mul]
theorem sig_id {f h : Nat → Nat} {A B : Nat} (n : Nat) (e : ∀ k, k < n → f k * A = h k * B) : sig f n * A = sig h n * B := by
  induction n with
  | zero => rw [show sig f 0 = 0 from rfl, show sig h 0 = 0 from rfl, Nat.zero_mul, Nat.zero_mul]
  | succ n ih => rw [sig_s, sig_s, Nat.add_mul, Nat.add_mul, ih (fun k hk => e k (by omega)), e n (by omega)]
theorem lw_scale {u l : Nat} (hk : 0 < k) : lw (u * k) (l * k) p = lw u l p := by
  unfold lw
  rw [Nat.gcd_mul_right, Nat.mul_div_mul_right _ _ hk, Nat.mul_div_mul_right _ _ hk]
theorem read_same (hn : n ≤ 4) (hg : ∀ k, k < n → g k < 256) (hc : c < 256) (ho : o ≤ 9) (hq : q < n) : (sig (fun k => lk (g k) c o) n = 0 ↔ sig (fun k => wt (g k) c o) n = 0) ∧ lw (lk (g q) c o) (sig (fun k => lk (g k) c o) n) p = lw (wt (g q) c o) (sig (fun k => wt (g k) c o) n) p := by
  have e := sig_id (f := fun k => lk (g k) c o) (h := fun k => wt (g k) c o) n (fun k hk => lk_wt (o := o) (hg k hk) hc)
  have hA : 0 < 10 ^ pop c 8 := Nat.pow_pos (by decide)
  have hB : 0 < (10 - o) ^ pop c 8 := Nat.pow_pos (by omega)
  constructor
  · constructor
    · intro h
      rw [h, Nat.zero_mul] at e
      rcases Nat.mul_eq_zero.mp e.symm with h | h
      · exact h
      · omega
    · intro h
      rw [h, Nat.zero_mul] at e
      rcases Nat.mul_eq_zero.mp e with h | h
      · exact h
      · omega
  · rw [← lw_scale (u := lk (g q) c o) hA, e, lk_wt (hg q hq) hc, lw_scale hB]
/-- the class -/
theorem adn0 (h : adn a b < 2147483648) : (nI (adn a b) = 0) = (adn a b = 0) := eq00 h
theorem c_weight (hn : I 14 1 = nI n) (h : n ≤ 4) (hg : ∀ k, k < n → I 15 k = nI (g k) ∧ g k < 256) (hc : c < 256) (ho : o ≤ 9) (hq : q < n) : sm_ex (d + 2) 20 [.ref 14, .int (nI q), .int (nI c), .int (nI o)] 81 I L (pX sw) = some (some (.long (lN (wt (g q) c o))), 81, I, L, pX sw) := by
  obtain ⟨g1, g2⟩ := hg q hq
  have a1 : adn c (g q) ≤ c := adn_le
  have a2 : adn (g q) c ≤ g q := adn_le
  have a3 := pop8_le (s := adn (g q) c) (by omega)
  have e1 : nI c &&& (nI (g q) ^^^ -1) = nI (adn c (g q)) := adnI (by omega) (by omega)
  have e2 : nI (g q) &&& (nI c ^^^ -1) = nI (adn (g q) c) := adnI (by omega) (by omega)
  have e3 : (nI (adn c (g q)) = 0) = (adn c (g q) = 0) := eq00 (by omega)
  have e4 : sm_ex (d + 1) 213 [.int (nI (adn (g q) c))] 81 I L (pX sw) = _ := j_bitCount (by omega)
  rw [e20]
  unfold wt
  by_cases h0 : adn c (g q) = 0
  · rw [if_pos h0]
    simp (discharger := (first | omega | decide | assumption | exact rg_lt | exact rg_ly | (simp only [ly14, p14_0]; omega))) only [s20_0, s20_1, s20_2, s20_5, s20_7, s20_8, s20_10, s20_11, s20_12, s20_13, s20_16, s20_17, s20_18, s20_20, s20_21, s20_22, s20_23, s20_24, s20_27, s20_29, s20_30, s20_31, s20_33, s20_36, s20_39, s20_41, s20_43, s20_44, s20_47, s20_48, ltI, geL, leL, not_true_eq_false, not_false_eq_true, if_true, if_false, and_self, and_true, true_and, and_false, false_and, or_self, or_true, true_or, or_false, false_or, bo_T, bo_F, bo_e0, nI10, nI00, nI11, nI01, bo_e1, nem, eqL, af_v, af_0, rf_s, rf_n, nn, ite_self, ly14, p14_0, c_bat hn h hq, g1, e1, e2, e3, h0, e4, sm_cl, lI, h_power, subN, mulL]
  · rw [if_neg h0]
    simp (discharger := (first | omega | decide | assumption | exact rg_lt | exact rg_ly | (simp only [ly14, p14_0]; omega))) only [s20_0, s20_1, s20_2, s20_5, s20_7, s20_8, s20_10, s20_11, s20_12, s20_13, s20_16, s20_17, s20_18, s20_20, s20_21, s20_22, s20_23, s20_24, s20_27, s20_29, s20_30, s20_31, s20_33, s20_36, s20_39, s20_41, s20_43, s20_44, s20_47, s20_48, ltI, geL, leL, not_true_eq_false, not_false_eq_true, if_true, if_false, and_self, and_true, true_and, and_false, false_and, or_self, or_true, true_or, or_false, false_or, bo_T, bo_F, bo_e0, nI10, nI00, nI11, nI01, bo_e1, nem, eqL, af_v, af_0, rf_s, rf_n, nn, ite_self, ly14, p14_0, c_bat hn h hq, g1, e1, e3, h0, sm_cl]
theorem addL (a b : Nat) : lN a + lN b = lN (a + b) := lN_add a b
theorem c_wall_loop (hn : I 14 1 = nI n) (h : n ≤ 4) (hg : ∀ k, k < n → I 15 k = nI (g k) ∧ g k < 256) (hc : c < 256) (ho : o ≤ 9) : ∀ (k i : Nat), i + k = n → sm_at (sm_ex (d + 2)) none 21 5 [some (.ref 14), some (.int (nI c)), some (.int (nI o)), some (.long (lN (sig (fun k => wt (g k) c o) i))), none, some (.int (nI i))] [] 81 I L (pX sw) = some (some (.long (lN (sig (fun k => wt (g k) c o) n))), 81, I, L, pX sw) := by
  intro k
  induction k with
  | zero =>
    intro i hi
    obtain rfl : i = n := by omega
    rw [s21_5]
    simp (discharger := (first | omega | decide | assumption | exact rg_lt | exact rg_ly | (simp only [ly14, p14_0]; omega))) only [s21_0, s21_1, s21_2, s21_3, s21_7, s21_8, s21_11, s21_14, s21_15, s21_16, s21_18, s21_19, s21_20, s21_23, s21_24, s21_25, s21_28, s21_31, s21_32, ltI, geL, leL, not_true_eq_false, not_false_eq_true, if_true, if_false, and_self, and_true, true_and, and_false, false_and, or_self, or_true, true_or, or_false, false_or, bo_T, bo_F, bo_e0, nI10, nI00, nI11, nI01, bo_e1, nem, eqL, af_v, af_0, rf_s, rf_n, nn, ite_self, ly14, p14_0, hn, leN, Nat.le_refl]
  | succ k ih =>
    intro i hi
    have c1 : ¬ n ≤ i := by omega
    have := ih (i + 1) (by omega)
    rw [sig_s] at this
    rw [s21_5]
    simp (discharger := (first | omega | decide | assumption | exact rg_lt | exact rg_ly | (simp only [ly14, p14_0]; omega))) only [s21_0, s21_1, s21_2, s21_3, s21_7, s21_8, s21_11, s21_14, s21_15, s21_16, s21_18, s21_19, s21_20, s21_23, s21_24, s21_25, s21_28, s21_31, s21_32, ltI, geL, leL, not_true_eq_false, not_false_eq_true, if_true, if_false, and_self, and_true, true_and, and_false, false_and, or_self, or_true, true_or, or_false, false_or, bo_T, bo_F, bo_e0, nI10, nI00, nI11, nI01, bo_e1, nem, eqL, af_v, af_0, rf_s, rf_n, nn, ite_self, ly14, p14_0, hn, leN, c1, c_weight hn h hg hc ho (show i < n by omega), addL, addN, sm_cl]
    exact this
theorem c_wall (hn : I 14 1 = nI n) (h : n ≤ 4) (hg : ∀ k, k < n → I 15 k = nI (g k) ∧ g k < 256) (hc : c < 256) (ho : o ≤ 9) : sm_ex (d + 3) 21 [.ref 14, .int (nI c), .int (nI o)] 81 I L (pX sw) = some (some (.long (lN (sig (fun k => wt (g k) c o) n))), 81, I, L, pX sw) := by
  rw [e21]
  simp only [s21_0, s21_1, s21_2, s21_3, s21_7, s21_8, s21_11, s21_14, s21_15, s21_16, s21_18, s21_19, s21_20, s21_23, s21_24, s21_25, s21_28, s21_31, s21_32, ltI, geL, leL, not_true_eq_false, not_false_eq_true, if_true, if_false, and_self, and_true, true_and, and_false, false_and, or_self, or_true, true_or, or_false, false_or, bo_T, bo_F, bo_e0, nI10, nI00, nI11, nI01, bo_e1, nem, eqL, af_v, af_0, rf_s, rf_n, nn, ite_self, sm_cl]
  exact c_wall_loop hn h hg hc ho n 0 (Nat.zero_add _)
theorem c_read_1 (hn : I 14 1 = nI n) (hn2 : n ≤ 4) (h : ¬ (0 ≤ x ∧ ¬ nI n ≤ x)) : sm_ex (d + 4) 115 [.ref 0, .int x, .int y, .int z, .int u] 81 I L (pX sw) = some (some (.long (-101)), 81, I, L, pX sw) := by
  rw [e115]
  simp (discharger := (first | omega | decide | assumption | exact rg_lt | exact rg_ly | (simp only [ly0, p0_0, p0_1, p0_2, p0_3, p0_4, p0_5, p0_6, p0_7, p0_8, p0_9, ly14, p14_0]; omega))) only [s115_0, s115_1, s115_2, s115_3, s115_6, s115_9, s115_10, s115_11, s115_14, s115_17, s115_20, s115_21, s115_22, s115_24, s115_27, s115_30, s115_31, s115_34, s115_37, s115_39, s115_42, s115_45, s115_48, s115_49, s115_50, s115_53, s115_54, s115_55, s115_58, s115_60, s115_62, s115_63, s115_64, s115_67, s115_70, s115_71, s115_72, s115_75, s115_76, s115_77, s115_78, s115_81, s115_83, s115_85, s115_88, ltI, geL, leL, not_true_eq_false, not_false_eq_true, if_true, if_false, and_self, and_true, true_and, and_false, false_and, or_self, or_true, true_or, or_false, false_or, bo_T, bo_F, bo_e0, nI10, nI00, nI11, nI01, bo_e1, nem, eqL, af_v, af_0, rf_s, rf_n, nn, ite_self, ly0, p0_0, p0_1, p0_2, p0_3, p0_4, p0_5, p0_6, p0_7, p0_8, p0_9, ly14, p14_0, c_bsize, hn, h_isWithin, inb, h]
theorem c_read_2 (hn : I 14 1 = nI n) (hn2 : n ≤ 4) (h : (0 ≤ x ∧ ¬ nI n ≤ x)) (h2 : ¬ ((nI 0 ≤ y ∧ y ≤ nI 255) ∧ (nI 0 ≤ z ∧ z ≤ nI 9) ∧ (nI 0 ≤ u ∧ u ≤ nI 1))) : sm_ex (d + 4) 115 [.ref 0, .int x, .int y, .int z, .int u] 81 I L (pX sw) = some (some (.long (-102)), 81, I, L, pX sw) := by
  rw [e115]
  by_cases h3 : (nI 0 ≤ y ∧ y ≤ nI 255)
  · by_cases h4 : (nI 0 ≤ z ∧ z ≤ nI 9)
    · have h5 : ¬ (nI 0 ≤ u ∧ u ≤ nI 1) := fun q => h2 ⟨h3, h4, q⟩
      simp (discharger := (first | omega | decide | assumption | exact rg_lt | exact rg_ly | (simp only [ly0, p0_0, p0_1, p0_2, p0_3, p0_4, p0_5, p0_6, p0_7, p0_8, p0_9, ly14, p14_0]; omega))) only [s115_0, s115_1, s115_2, s115_3, s115_6, s115_9, s115_10, s115_11, s115_14, s115_17, s115_20, s115_21, s115_22, s115_24, s115_27, s115_30, s115_31, s115_34, s115_37, s115_39, s115_42, s115_45, s115_48, s115_49, s115_50, s115_53, s115_54, s115_55, s115_58, s115_60, s115_62, s115_63, s115_64, s115_67, s115_70, s115_71, s115_72, s115_75, s115_76, s115_77, s115_78, s115_81, s115_83, s115_85, s115_88, ltI, geL, leL, not_true_eq_false, not_false_eq_true, if_true, if_false, and_self, and_true, true_and, and_false, false_and, or_self, or_true, true_or, or_false, false_or, bo_T, bo_F, bo_e0, nI10, nI00, nI11, nI01, bo_e1, nem, eqL, af_v, af_0, rf_s, rf_n, nn, ite_self, ly0, p0_0, p0_1, p0_2, p0_3, p0_4, p0_5, p0_6, p0_7, p0_8, p0_9, ly14, p14_0, c_bsize, hn, h_isWithin, inb, h, h_isSetOf, b255, h3, h_isOdds, h4, h_isPart, h5]
    · simp (discharger := (first | omega | decide | assumption | exact rg_lt | exact rg_ly | (simp only [ly0, p0_0, p0_1, p0_2, p0_3, p0_4, p0_5, p0_6, p0_7, p0_8, p0_9, ly14, p14_0]; omega))) only [s115_0, s115_1, s115_2, s115_3, s115_6, s115_9, s115_10, s115_11, s115_14, s115_17, s115_20, s115_21, s115_22, s115_24, s115_27, s115_30, s115_31, s115_34, s115_37, s115_39, s115_42, s115_45, s115_48, s115_49, s115_50, s115_53, s115_54, s115_55, s115_58, s115_60, s115_62, s115_63, s115_64, s115_67, s115_70, s115_71, s115_72, s115_75, s115_76, s115_77, s115_78, s115_81, s115_83, s115_85, s115_88, ltI, geL, leL, not_true_eq_false, not_false_eq_true, if_true, if_false, and_self, and_true, true_and, and_false, false_and, or_self, or_true, true_or, or_false, false_or, bo_T, bo_F, bo_e0, nI10, nI00, nI11, nI01, bo_e1, nem, eqL, af_v, af_0, rf_s, rf_n, nn, ite_self, ly0, p0_0, p0_1, p0_2, p0_3, p0_4, p0_5, p0_6, p0_7, p0_8, p0_9, ly14, p14_0, c_bsize, hn, h_isWithin, inb, h, h_isSetOf, b255, h3, h_isOdds, h4]
  · simp (discharger := (first | omega | decide | assumption | exact rg_lt | exact rg_ly | (simp only [ly0, p0_0, p0_1, p0_2, p0_3, p0_4, p0_5, p0_6, p0_7, p0_8, p0_9, ly14, p14_0]; omega))) only [s115_0, s115_1, s115_2, s115_3, s115_6, s115_9, s115_10, s115_11, s115_14, s115_17, s115_20, s115_21, s115_22, s115_24, s115_27, s115_30, s115_31, s115_34, s115_37, s115_39, s115_42, s115_45, s115_48, s115_49, s115_50, s115_53, s115_54, s115_55, s115_58, s115_60, s115_62, s115_63, s115_64, s115_67, s115_70, s115_71, s115_72, s115_75, s115_76, s115_77, s115_78, s115_81, s115_83, s115_85, s115_88, ltI, geL, leL, not_true_eq_false, not_false_eq_true, if_true, if_false, and_self, and_true, true_and, and_false, false_and, or_self, or_true, true_or, or_false, false_or, bo_T, bo_F, bo_e0, nI10, nI00, nI11, nI01, bo_e1, nem, eqL, af_v, af_0, rf_s, rf_n, nn, ite_self, ly0, p0_0, p0_1, p0_2, p0_3, p0_4, p0_5, p0_6, p0_7, p0_8, p0_9, ly14, p14_0, c_bsize, hn, h_isWithin, inb, h, h_isSetOf, b255, h3]
theorem c_read_3 (hn : I 14 1 = nI n) (h : n ≤ 4) (hg : ∀ k, k < n → I 15 k = nI (g k) ∧ g k < 256) (hc : c < 256) (ho : o ≤ 9) (hq : q < n) (hp : p ≤ 1) : sm_ex (d + 4) 115 [.ref 0, .int (nI q), .int (nI c), .int (nI o), .int (nI p)] 81 I L (pX sw) = some (some (.long (if sig (fun k => wt (g k) c o) n = 0 then -1 else lN (lw (wt (g q) c o) (sig (fun k => wt (g k) c o) n) p))), 81, I, L, pX sw) := by
  have s1 := sig_le (f := fun k => wt (g k) c o) (B := 100000000) n (fun k hk => wt_le (hg k hk).2 ho)
  have s2 : sig (fun k => wt (g k) c o) n ≤ 400000000 := by omega
  have s3 := wt_le (c := c) (hg q hq).2 ho
  rw [e115]
  by_cases h0 : sig (fun k => wt (g k) c o) n = 0
  · rw [if_pos h0]
    have hall : sm_ex (d + 3) 21 [.ref 14, .int (nI c), .int (nI o)] 81 I L (pX sw) = _ := c_wall hn h hg hc ho
    rw [h0] at hall
    simp (discharger := (first | omega | decide | assumption | exact rg_lt | exact rg_ly | (simp only [ly0, p0_0, p0_1, p0_2, p0_3, p0_4, p0_5, p0_6, p0_7, p0_8, p0_9, ly14, p14_0]; omega))) only [s115_0, s115_1, s115_2, s115_3, s115_6, s115_9, s115_10, s115_11, s115_14, s115_17, s115_20, s115_21, s115_22, s115_24, s115_27, s115_30, s115_31, s115_34, s115_37, s115_39, s115_42, s115_45, s115_48, s115_49, s115_50, s115_53, s115_54, s115_55, s115_58, s115_60, s115_62, s115_63, s115_64, s115_67, s115_70, s115_71, s115_72, s115_75, s115_76, s115_77, s115_78, s115_81, s115_83, s115_85, s115_88, ltI, geL, leL, not_true_eq_false, not_false_eq_true, if_true, if_false, and_self, and_true, true_and, and_false, false_and, or_self, or_true, true_or, or_false, false_or, bo_T, bo_F, bo_e0, nI10, nI00, nI11, nI01, bo_e1, nem, eqL, af_v, af_0, rf_s, rf_n, nn, ite_self, ly0, p0_0, p0_1, p0_2, p0_3, p0_4, p0_5, p0_6, p0_7, p0_8, p0_9, ly14, p14_0, c_bsize, hn, h_isWithin, inb, inbt hq, h_isSetOf, b255, ixt, h_isOdds, h_isPart, hall, sm_cl]
  · rw [if_neg h0]
    have e0 : (lN (sig (fun k => wt (g k) c o) n) = lN 0) = False := by rw [eqLN (by omega) (by decide)]; exact eq_false h0
    have hl : sm_ex (d + 3) 143 [.long (lN (wt (g q) c o)), .long (lN (sig (fun k => wt (g k) c o) n)), .int (nI p)] 81 I L (pX sw) = _ := h_low (by omega) (by omega) (by omega) hp
    simp (discharger := (first | omega | decide | assumption | exact rg_lt | exact rg_ly | (simp only [ly0, p0_0, p0_1, p0_2, p0_3, p0_4, p0_5, p0_6, p0_7, p0_8, p0_9, ly14, p14_0]; omega))) only [s115_0, s115_1, s115_2, s115_3, s115_6, s115_9, s115_10, s115_11, s115_14, s115_17, s115_20, s115_21, s115_22, s115_24, s115_27, s115_30, s115_31, s115_34, s115_37, s115_39, s115_42, s115_45, s115_48, s115_49, s115_50, s115_53, s115_54, s115_55, s115_58, s115_60, s115_62, s115_63, s115_64, s115_67, s115_70, s115_71, s115_72, s115_75, s115_76, s115_77, s115_78, s115_81, s115_83, s115_85, s115_88, ltI, geL, leL, not_true_eq_false, not_false_eq_true, if_true, if_false, and_self, and_true, true_and, and_false, false_and, or_self, or_true, true_or, or_false, false_or, bo_T, bo_F, bo_e0, nI10, nI00, nI11, nI01, bo_e1, nem, eqL, af_v, af_0, rf_s, rf_n, nn, ite_self, ly0, p0_0, p0_1, p0_2, p0_3, p0_4, p0_5, p0_6, p0_7, p0_8, p0_9, ly14, p14_0, c_bsize, hn, h_isWithin, inb, inbt hq, h_isSetOf, b255, ixt, h_isOdds, h_isPart, c_wall hn h hg hc ho, e0, c_weight hn h hg hc ho hq, hl, sm_cl]
/-- the reference -/
theorem m_likely_loop (hw : w < 256) (hc : c < 256) (ho : o ≤ 9) : ∀ (k i : Nat), i + k = 8 → sm_at (sm_ex d) none 194 15 [some (.int (nI w)), some (.int (nI c)), some (.int (nI o)), some (.long (lN (lkp w c o i))), none, some (.int (nI i))] [] N I L P = some (some (.long (lN (lkp w c o 8))), N, I, L, P) := by
  intro k
  induction k with
  | zero =>
    intro i hi
    obtain rfl : i = 8 := by omega
    rw [s194_15]
    simp only [s194_0, s194_1, s194_2, s194_3, s194_4, s194_5, s194_8, s194_9, s194_10, s194_11, s194_12, s194_13, s194_17, s194_19, s194_22, s194_23, s194_24, s194_26, s194_27, s194_28, s194_29, s194_30, s194_33, s194_35, s194_36, s194_37, s194_38, s194_41, s194_42, s194_44, s194_45, s194_46, s194_47, s194_48, s194_51, s194_52, s194_53, s194_56, s194_59, s194_60, s194_61, s194_64, s194_67, s194_68, ltI, geL, leL, not_true_eq_false, not_false_eq_true, if_true, if_false, and_self, and_true, true_and, and_false, false_and, or_self, or_true, true_or, or_false, false_or, bo_T, bo_F, bo_e0, nI10, nI00, nI11, nI01, bo_e1, nem, eqL, af_v, af_0, rf_s, rf_n, nn, ite_self, Int32.le_refl]
  | succ k ih =>
    intro i hi
    have c1 : ¬ 8 ≤ i := by omega
    have := ih (i + 1) (by omega)
    rw [show lkp w c o (i + 1) = lkp w c o i * (if c.testBit i = true then 10 - o else if w.testBit i = true then o else 10) from rfl] at this
    have b1 : ((nI c >>> (nI i &&& 31)) &&& nI 1 = nI 1) = (c.testBit i = true) := bitT1 (by omega) (by omega)
    have b2 : ((nI w >>> (nI i &&& 31)) &&& nI 1 = nI 1) = (w.testBit i = true) := bitT1 (by omega) (by omega)
    rw [s194_15]
    by_cases h1 : c.testBit i = true
    · rw [if_pos h1] at this
      simp (discharger := (first | omega | decide | assumption | exact rg_lt | exact rg_ly | (simp only [ly0, p0_0, p0_1, p0_2, p0_3, p0_4, p0_5, p0_6, p0_7, p0_8, p0_9]; omega))) only [s194_0, s194_1, s194_2, s194_3, s194_4, s194_5, s194_8, s194_9, s194_10, s194_11, s194_12, s194_13, s194_17, s194_19, s194_22, s194_23, s194_24, s194_26, s194_27, s194_28, s194_29, s194_30, s194_33, s194_35, s194_36, s194_37, s194_38, s194_41, s194_42, s194_44, s194_45, s194_46, s194_47, s194_48, s194_51, s194_52, s194_53, s194_56, s194_59, s194_60, s194_61, s194_64, s194_67, s194_68, ltI, geL, leL, not_true_eq_false, not_false_eq_true, if_true, if_false, and_self, and_true, true_and, and_false, false_and, or_self, or_true, true_or, or_false, false_or, bo_T, bo_F, bo_e0, nI10, nI00, nI11, nI01, bo_e1, nem, eqL, af_v, af_0, rf_s, rf_n, nn, ite_self, leN, c1, b1, h1, subN, lI, mulL, addN, sm_cl]
      exact this
    · rw [if_neg h1] at this
      by_cases h2 : w.testBit i = true
      · rw [if_pos h2] at this
        simp (discharger := (first | omega | decide | assumption | exact rg_lt | exact rg_ly | (simp only [ly0, p0_0, p0_1, p0_2, p0_3, p0_4, p0_5, p0_6, p0_7, p0_8, p0_9]; omega))) only [s194_0, s194_1, s194_2, s194_3, s194_4, s194_5, s194_8, s194_9, s194_10, s194_11, s194_12, s194_13, s194_17, s194_19, s194_22, s194_23, s194_24, s194_26, s194_27, s194_28, s194_29, s194_30, s194_33, s194_35, s194_36, s194_37, s194_38, s194_41, s194_42, s194_44, s194_45, s194_46, s194_47, s194_48, s194_51, s194_52, s194_53, s194_56, s194_59, s194_60, s194_61, s194_64, s194_67, s194_68, ltI, geL, leL, not_true_eq_false, not_false_eq_true, if_true, if_false, and_self, and_true, true_and, and_false, false_and, or_self, or_true, true_or, or_false, false_or, bo_T, bo_F, bo_e0, nI10, nI00, nI11, nI01, bo_e1, nem, eqL, af_v, af_0, rf_s, rf_n, nn, ite_self, leN, c1, b1, b2, h1, h2, lI, mulL, addN, sm_cl]
        exact this
      · rw [if_neg h2] at this
        simp (discharger := (first | omega | decide | assumption | exact rg_lt | exact rg_ly | (simp only [ly0, p0_0, p0_1, p0_2, p0_3, p0_4, p0_5, p0_6, p0_7, p0_8, p0_9]; omega))) only [s194_0, s194_1, s194_2, s194_3, s194_4, s194_5, s194_8, s194_9, s194_10, s194_11, s194_12, s194_13, s194_17, s194_19, s194_22, s194_23, s194_24, s194_26, s194_27, s194_28, s194_29, s194_30, s194_33, s194_35, s194_36, s194_37, s194_38, s194_41, s194_42, s194_44, s194_45, s194_46, s194_47, s194_48, s194_51, s194_52, s194_53, s194_56, s194_59, s194_60, s194_61, s194_64, s194_67, s194_68, ltI, geL, leL, not_true_eq_false, not_false_eq_true, if_true, if_false, and_self, and_true, true_and, and_false, false_and, or_self, or_true, true_or, or_false, false_or, bo_T, bo_F, bo_e0, nI10, nI00, nI11, nI01, bo_e1, nem, eqL, af_v, af_0, rf_s, rf_n, nn, ite_self, leN, c1, b1, b2, h1, h2, lI, mulL, addN, sm_cl]
        exact this
theorem m_likely (hw : w < 256) (hc : c < 256) (ho : o ≤ 9) : sm_ex (d + 1) 194 [.int (nI w), .int (nI c), .int (nI o)] N I L P = some (some (.long (lN (lk w c o))), N, I, L, P) := by
  have a1 : adn c w ≤ c := adn_le
  have e1 : nI c &&& (nI w ^^^ -1) = nI (adn c w) := adnI (by omega) (by omega)
  have e3 : (nI (adn c w) = 0) = (adn c w = 0) := eq00 (by omega)
  rw [e194]
  unfold lk
  by_cases h0 : adn c w = 0
  · rw [if_pos h0]
    simp only [s194_0, s194_1, s194_2, s194_3, s194_4, s194_5, s194_8, s194_9, s194_10, s194_11, s194_12, s194_13, s194_17, s194_19, s194_22, s194_23, s194_24, s194_26, s194_27, s194_28, s194_29, s194_30, s194_33, s194_35, s194_36, s194_37, s194_38, s194_41, s194_42, s194_44, s194_45, s194_46, s194_47, s194_48, s194_51, s194_52, s194_53, s194_56, s194_59, s194_60, s194_61, s194_64, s194_67, s194_68, ltI, geL, leL, not_true_eq_false, not_false_eq_true, if_true, if_false, and_self, and_true, true_and, and_false, false_and, or_self, or_true, true_or, or_false, false_or, bo_T, bo_F, bo_e0, nI10, nI00, nI11, nI01, bo_e1, nem, eqL, af_v, af_0, rf_s, rf_n, nn, ite_self, e1, e3, h0, sm_cl]
    exact m_likely_loop hw hc ho 8 0 rfl
  · rw [if_neg h0]
    simp only [s194_0, s194_1, s194_2, s194_3, s194_4, s194_5, s194_8, s194_9, s194_10, s194_11, s194_12, s194_13, s194_17, s194_19, s194_22, s194_23, s194_24, s194_26, s194_27, s194_28, s194_29, s194_30, s194_33, s194_35, s194_36, s194_37, s194_38, s194_41, s194_42, s194_44, s194_45, s194_46, s194_47, s194_48, s194_51, s194_52, s194_53, s194_56, s194_59, s194_60, s194_61, s194_64, s194_67, s194_68, ltI, geL, leL, not_true_eq_false, not_false_eq_true, if_true, if_false, and_self, and_true, true_and, and_false, false_and, or_self, or_true, true_or, or_false, false_or, bo_T, bo_F, bo_e0, nI10, nI00, nI11, nI01, bo_e1, nem, eqL, af_v, af_0, rf_s, rf_n, nn, ite_self, e1, e3, h0, sm_cl]
theorem m_read_1 (hn : I 63 17 = nI n) (hn2 : n ≤ 4) (h : ¬ (0 ≤ x ∧ ¬ nI n ≤ x)) : sm_ex (d + 4) 195 [.ref 63, .int x, .int y, .int z, .int u] 81 I L (pX sw) = some (some (.long (-101)), 81, I, L, pX sw) := by
  rw [e195]
  simp (discharger := (first | omega | decide | assumption | exact rg_lt | exact rg_ly | (simp only [ly63, p63_0, p63_1, p63_2, p63_7, p63_10, p63_11, p63_13, p63_14, p63_16, p63_18, p63_22, p63_23, p63_24, p63_30, p63_31, p63_32, p63_33]; omega))) only [s195_0, s195_1, s195_2, s195_3, s195_4, s195_7, s195_8, s195_9, s195_10, s195_13, s195_16, s195_19, s195_20, s195_21, s195_22, s195_23, s195_26, s195_29, s195_32, s195_33, s195_34, s195_35, s195_38, s195_41, s195_44, s195_46, s195_49, s195_52, s195_55, s195_56, s195_57, s195_59, s195_60, s195_64, s195_65, s195_68, s195_71, s195_73, s195_74, s195_77, s195_79, s195_80, s195_81, s195_82, s195_85, s195_86, s195_88, s195_91, s195_94, s195_96, s195_97, s195_98, s195_101, s195_104, s195_107, s195_108, s195_111, s195_112, s195_113, s195_114, s195_115, s195_118, s195_120, s195_122, s195_125, ltI, geL, leL, not_true_eq_false, not_false_eq_true, if_true, if_false, and_self, and_true, true_and, and_false, false_and, or_self, or_true, true_or, or_false, false_or, bo_T, bo_F, bo_e0, nI10, nI00, nI11, nI01, bo_e1, nem, eqL, af_v, af_0, rf_s, rf_n, nn, ite_self, ly63, p63_0, p63_1, p63_2, p63_7, p63_10, p63_11, p63_13, p63_14, p63_16, p63_18, p63_22, p63_23, p63_24, p63_30, p63_31, p63_32, p63_33, hn, m_in, wN 0 (by decide), wl, inb, h]
theorem m_read_2 (hn : I 63 17 = nI n) (hn2 : n ≤ 4) (h : (0 ≤ x ∧ ¬ nI n ≤ x)) (h2 : ¬ ((nI 0 ≤ y ∧ y ≤ nI 255) ∧ (nI 0 ≤ z ∧ z ≤ nI 9) ∧ (nI 0 ≤ u ∧ u ≤ nI 1))) : sm_ex (d + 4) 195 [.ref 63, .int x, .int y, .int z, .int u] 81 I L (pX sw) = some (some (.long (-102)), 81, I, L, pX sw) := by
  rw [e195]
  by_cases h3 : (nI 0 ≤ y ∧ y ≤ nI 255)
  · by_cases h4 : (nI 0 ≤ z ∧ z ≤ nI 9)
    · have h5 : ¬ (nI 0 ≤ u ∧ u ≤ nI 1) := fun q => h2 ⟨h3, h4, q⟩
      simp (discharger := (first | omega | decide | assumption | exact rg_lt | exact rg_ly | (simp only [ly63, p63_0, p63_1, p63_2, p63_7, p63_10, p63_11, p63_13, p63_14, p63_16, p63_18, p63_22, p63_23, p63_24, p63_30, p63_31, p63_32, p63_33]; omega))) only [s195_0, s195_1, s195_2, s195_3, s195_4, s195_7, s195_8, s195_9, s195_10, s195_13, s195_16, s195_19, s195_20, s195_21, s195_22, s195_23, s195_26, s195_29, s195_32, s195_33, s195_34, s195_35, s195_38, s195_41, s195_44, s195_46, s195_49, s195_52, s195_55, s195_56, s195_57, s195_59, s195_60, s195_64, s195_65, s195_68, s195_71, s195_73, s195_74, s195_77, s195_79, s195_80, s195_81, s195_82, s195_85, s195_86, s195_88, s195_91, s195_94, s195_96, s195_97, s195_98, s195_101, s195_104, s195_107, s195_108, s195_111, s195_112, s195_113, s195_114, s195_115, s195_118, s195_120, s195_122, s195_125, ltI, geL, leL, not_true_eq_false, not_false_eq_true, if_true, if_false, and_self, and_true, true_and, and_false, false_and, or_self, or_true, true_or, or_false, false_or, bo_T, bo_F, bo_e0, nI10, nI00, nI11, nI01, bo_e1, nem, eqL, af_v, af_0, rf_s, rf_n, nn, ite_self, ly63, p63_0, p63_1, p63_2, p63_7, p63_10, p63_11, p63_13, p63_14, p63_16, p63_18, p63_22, p63_23, p63_24, p63_30, p63_31, p63_32, p63_33, hn, m_in, wN 0 (by decide), wN 255 (by decide), wN 9 (by decide), wl, inb, h, h3, h4, m_isPart, h5]
    · simp (discharger := (first | omega | decide | assumption | exact rg_lt | exact rg_ly | (simp only [ly63, p63_0, p63_1, p63_2, p63_7, p63_10, p63_11, p63_13, p63_14, p63_16, p63_18, p63_22, p63_23, p63_24, p63_30, p63_31, p63_32, p63_33]; omega))) only [s195_0, s195_1, s195_2, s195_3, s195_4, s195_7, s195_8, s195_9, s195_10, s195_13, s195_16, s195_19, s195_20, s195_21, s195_22, s195_23, s195_26, s195_29, s195_32, s195_33, s195_34, s195_35, s195_38, s195_41, s195_44, s195_46, s195_49, s195_52, s195_55, s195_56, s195_57, s195_59, s195_60, s195_64, s195_65, s195_68, s195_71, s195_73, s195_74, s195_77, s195_79, s195_80, s195_81, s195_82, s195_85, s195_86, s195_88, s195_91, s195_94, s195_96, s195_97, s195_98, s195_101, s195_104, s195_107, s195_108, s195_111, s195_112, s195_113, s195_114, s195_115, s195_118, s195_120, s195_122, s195_125, ltI, geL, leL, not_true_eq_false, not_false_eq_true, if_true, if_false, and_self, and_true, true_and, and_false, false_and, or_self, or_true, true_or, or_false, false_or, bo_T, bo_F, bo_e0, nI10, nI00, nI11, nI01, bo_e1, nem, eqL, af_v, af_0, rf_s, rf_n, nn, ite_self, ly63, p63_0, p63_1, p63_2, p63_7, p63_10, p63_11, p63_13, p63_14, p63_16, p63_18, p63_22, p63_23, p63_24, p63_30, p63_31, p63_32, p63_33, hn, m_in, wN 0 (by decide), wN 255 (by decide), wN 9 (by decide), wl, inb, h, h3, h4]
  · simp (discharger := (first | omega | decide | assumption | exact rg_lt | exact rg_ly | (simp only [ly63, p63_0, p63_1, p63_2, p63_7, p63_10, p63_11, p63_13, p63_14, p63_16, p63_18, p63_22, p63_23, p63_24, p63_30, p63_31, p63_32, p63_33]; omega))) only [s195_0, s195_1, s195_2, s195_3, s195_4, s195_7, s195_8, s195_9, s195_10, s195_13, s195_16, s195_19, s195_20, s195_21, s195_22, s195_23, s195_26, s195_29, s195_32, s195_33, s195_34, s195_35, s195_38, s195_41, s195_44, s195_46, s195_49, s195_52, s195_55, s195_56, s195_57, s195_59, s195_60, s195_64, s195_65, s195_68, s195_71, s195_73, s195_74, s195_77, s195_79, s195_80, s195_81, s195_82, s195_85, s195_86, s195_88, s195_91, s195_94, s195_96, s195_97, s195_98, s195_101, s195_104, s195_107, s195_108, s195_111, s195_112, s195_113, s195_114, s195_115, s195_118, s195_120, s195_122, s195_125, ltI, geL, leL, not_true_eq_false, not_false_eq_true, if_true, if_false, and_self, and_true, true_and, and_false, false_and, or_self, or_true, true_or, or_false, false_or, bo_T, bo_F, bo_e0, nI10, nI00, nI11, nI01, bo_e1, nem, eqL, af_v, af_0, rf_s, rf_n, nn, ite_self, ly63, p63_0, p63_1, p63_2, p63_7, p63_10, p63_11, p63_13, p63_14, p63_16, p63_18, p63_22, p63_23, p63_24, p63_30, p63_31, p63_32, p63_33, hn, m_in, wN 0 (by decide), wN 255 (by decide), wl, inb, h, h3]
theorem m_read_loop (hn : I 63 17 = nI n) (h : n ≤ 4) (hg : ∀ k, k < n → I 73 k = nI (g k) ∧ g k < 256) (hc : c < 256) (ho : o ≤ 9) : ∀ (k i : Nat), i + k = n → ∀ (l1 : Option Value) (y4 : Int32) (Z : Option sm_Rs), sm_at (sm_ex (d + 1)) none 195 94 [some (.ref 63), l1, some (.int (nI c)), some (.int (nI o)), some (.int y4), some (.long (lN (sig (fun k => lk (g k) c o) n))), none, some (.int (nI n))] [] 81 I L (pX sw) = Z → sm_at (sm_ex (d + 1)) none 195 62 [some (.ref 63), l1, some (.int (nI c)), some (.int (nI o)), some (.int y4), some (.long (lN (sig (fun k => lk (g k) c o) i))), none, some (.int (nI i))] [] 81 I L (pX sw) = Z := by
  intro k
  induction k with
  | zero =>
    intro i hi l1 y4 Z hZ
    obtain rfl : i = n := by omega
    rw [s195_62]
    simp (discharger := (first | omega | decide | assumption | exact rg_lt | exact rg_ly | (simp only [ly63, p63_0, p63_1, p63_2, p63_7, p63_10, p63_11, p63_13, p63_14, p63_16, p63_18, p63_22, p63_23, p63_24, p63_30, p63_31, p63_32, p63_33]; omega))) only [s195_64, s195_65, s195_68, ltI, geL, leL, not_true_eq_false, not_false_eq_true, if_true, if_false, and_self, and_true, true_and, and_false, false_and, or_self, or_true, true_or, or_false, false_or, bo_T, bo_F, bo_e0, nI10, nI00, nI11, nI01, bo_e1, nem, eqL, af_v, af_0, rf_s, rf_n, nn, ite_self, ly63, p63_0, p63_1, p63_2, p63_7, p63_10, p63_11, p63_13, p63_14, p63_16, p63_18, p63_22, p63_23, p63_24, p63_30, p63_31, p63_32, p63_33, hn, Int32.le_refl]
    exact hZ
  | succ k ih =>
    intro i hi l1 y4 Z hZ
    have c1 : ¬ n ≤ i := by omega
    obtain ⟨g1, g2⟩ := hg i (by omega)
    have := ih (i + 1) (by omega) l1 y4 Z hZ
    rw [sig_s] at this
    rw [s195_62]
    simp (discharger := (first | omega | decide | assumption | exact rg_lt | exact rg_ly | (simp only [ly63, p63_0, p63_1, p63_2, p63_7, p63_10, p63_11, p63_13, p63_14, p63_16, p63_18, p63_22, p63_23, p63_24, p63_30, p63_31, p63_32, p63_33, ly73, al73]; omega))) only [s195_0, s195_1, s195_2, s195_3, s195_4, s195_7, s195_8, s195_9, s195_10, s195_13, s195_16, s195_19, s195_20, s195_21, s195_22, s195_23, s195_26, s195_29, s195_32, s195_33, s195_34, s195_35, s195_38, s195_41, s195_44, s195_46, s195_49, s195_52, s195_55, s195_56, s195_57, s195_59, s195_60, s195_64, s195_65, s195_68, s195_71, s195_73, s195_74, s195_77, s195_79, s195_80, s195_81, s195_82, s195_85, s195_86, s195_88, s195_91, s195_94, s195_96, s195_97, s195_98, s195_101, s195_104, s195_107, s195_108, s195_111, s195_112, s195_113, s195_114, s195_115, s195_118, s195_120, s195_122, s195_125, ltI, geL, leL, not_true_eq_false, not_false_eq_true, if_true, if_false, and_self, and_true, true_and, and_false, false_and, or_self, or_true, true_or, or_false, false_or, bo_T, bo_F, bo_e0, nI10, nI00, nI11, nI01, bo_e1, nem, eqL, af_v, af_0, rf_s, rf_n, nn, ite_self, ly63, p63_0, p63_1, p63_2, p63_7, p63_10, p63_11, p63_13, p63_14, p63_16, p63_18, p63_22, p63_23, p63_24, p63_30, p63_31, p63_32, p63_33, ly73, al73, hn, leN, c1, g1, m_likely g2 hc ho, addL, addN, sm_cl]
    exact this
theorem m_read_3 (hn : I 63 17 = nI n) (h : n ≤ 4) (hg : ∀ k, k < n → I 73 k = nI (g k) ∧ g k < 256) (hc : c < 256) (ho : o ≤ 9) (hq : q < n) (hp : p ≤ 1) : sm_ex (d + 4) 195 [.ref 63, .int (nI q), .int (nI c), .int (nI o), .int (nI p)] 81 I L (pX sw) = some (some (.long (if sig (fun k => wt (g k) c o) n = 0 then -1 else lN (lw (wt (g q) c o) (sig (fun k => wt (g k) c o) n) p))), 81, I, L, pX sw) := by
  have s1 := sig_le (f := fun k => lk (g k) c o) (B := 100000000) n (fun k hk => lk_le ho)
  have s2 : sig (fun k => lk (g k) c o) n ≤ 400000000 := by omega
  have s3 : lk (g q) c o ≤ 100000000 := lk_le ho
  obtain ⟨g1, g2⟩ := hg q hq
  have rs := read_same (p := p) h (fun k hk => (hg k hk).2) hc ho hq
  rw [e195]
  simp (discharger := (first | omega | decide | assumption | exact rg_lt | exact rg_ly | (simp only [ly63, p63_0, p63_1, p63_2, p63_7, p63_10, p63_11, p63_13, p63_14, p63_16, p63_18, p63_22, p63_23, p63_24, p63_30, p63_31, p63_32, p63_33]; omega))) only [s195_0, s195_1, s195_2, s195_3, s195_4, s195_7, s195_8, s195_9, s195_10, s195_13, s195_16, s195_19, s195_20, s195_21, s195_22, s195_23, s195_26, s195_29, s195_32, s195_33, s195_34, s195_35, s195_38, s195_41, s195_44, s195_46, s195_49, s195_52, s195_55, s195_56, s195_57, s195_59, s195_60, s195_64, s195_65, s195_68, s195_71, s195_73, s195_74, s195_77, s195_79, s195_80, s195_81, s195_82, s195_85, s195_86, s195_88, s195_91, s195_94, s195_96, s195_97, s195_98, s195_101, s195_104, s195_107, s195_108, s195_111, s195_112, s195_113, s195_114, s195_115, s195_118, s195_120, s195_122, s195_125, ltI, geL, leL, not_true_eq_false, not_false_eq_true, if_true, if_false, and_self, and_true, true_and, and_false, false_and, or_self, or_true, true_or, or_false, false_or, bo_T, bo_F, bo_e0, nI10, nI00, nI11, nI01, bo_e1, nem, eqL, af_v, af_0, rf_s, rf_n, nn, ite_self, ly63, p63_0, p63_1, p63_2, p63_7, p63_10, p63_11, p63_13, p63_14, p63_16, p63_18, p63_22, p63_23, p63_24, p63_30, p63_31, p63_32, p63_33, hn, m_in, wN 0 (by decide), wN 255 (by decide), wN 9 (by decide), wl, inb, inbt hq, ixt, m_isPart, sm_cl]
  refine m_read_loop (d := d + 2) hn h hg hc ho n 0 (Nat.zero_add _) _ _ _ ?_
  by_cases h0 : sig (fun k => lk (g k) c o) n = 0
  · rw [if_pos (rs.1.mp h0), h0]
    simp only [s195_0, s195_1, s195_2, s195_3, s195_4, s195_7, s195_8, s195_9, s195_10, s195_13, s195_16, s195_19, s195_20, s195_21, s195_22, s195_23, s195_26, s195_29, s195_32, s195_33, s195_34, s195_35, s195_38, s195_41, s195_44, s195_46, s195_49, s195_52, s195_55, s195_56, s195_57, s195_59, s195_60, s195_64, s195_65, s195_68, s195_71, s195_73, s195_74, s195_77, s195_79, s195_80, s195_81, s195_82, s195_85, s195_86, s195_88, s195_91, s195_94, s195_96, s195_97, s195_98, s195_101, s195_104, s195_107, s195_108, s195_111, s195_112, s195_113, s195_114, s195_115, s195_118, s195_120, s195_122, s195_125, ltI, geL, leL, not_true_eq_false, not_false_eq_true, if_true, if_false, and_self, and_true, true_and, and_false, false_and, or_self, or_true, true_or, or_false, false_or, bo_T, bo_F, bo_e0, nI10, nI00, nI11, nI01, bo_e1, nem, eqL, af_v, af_0, rf_s, rf_n, nn, ite_self]
  · rw [if_neg (fun z => h0 (rs.1.mpr z)), ← rs.2]
    have e0 : (lN (sig (fun k => lk (g k) c o) n) = lN 0) = False := by rw [eqLN (by omega) (by decide)]; exact eq_false h0
    have hl : sm_ex (d + 3) 171 [.long (lN (lk (g q) c o)), .long (lN (sig (fun k => lk (g k) c o) n)), .int (nI p)] 81 I L (pX sw) = _ := m_term (by omega) (by omega) (by omega) hp
    simp (discharger := (first | omega | decide | assumption | exact rg_lt | exact rg_ly | (simp only [ly63, p63_0, p63_1, p63_2, p63_7, p63_10, p63_11, p63_13, p63_14, p63_16, p63_18, p63_22, p63_23, p63_24, p63_30, p63_31, p63_32, p63_33, ly73, al73]; omega))) only [s195_0, s195_1, s195_2, s195_3, s195_4, s195_7, s195_8, s195_9, s195_10, s195_13, s195_16, s195_19, s195_20, s195_21, s195_22, s195_23, s195_26, s195_29, s195_32, s195_33, s195_34, s195_35, s195_38, s195_41, s195_44, s195_46, s195_49, s195_52, s195_55, s195_56, s195_57, s195_59, s195_60, s195_64, s195_65, s195_68, s195_71, s195_73, s195_74, s195_77, s195_79, s195_80, s195_81, s195_82, s195_85, s195_86, s195_88, s195_91, s195_94, s195_96, s195_97, s195_98, s195_101, s195_104, s195_107, s195_108, s195_111, s195_112, s195_113, s195_114, s195_115, s195_118, s195_120, s195_122, s195_125, ltI, geL, leL, not_true_eq_false, not_false_eq_true, if_true, if_false, and_self, and_true, true_and, and_false, false_and, or_self, or_true, true_or, or_false, false_or, bo_T, bo_F, bo_e0, nI10, nI00, nI11, nI01, bo_e1, nem, eqL, af_v, af_0, rf_s, rf_n, nn, ite_self, ly63, p63_0, p63_1, p63_2, p63_7, p63_10, p63_11, p63_13, p63_14, p63_16, p63_18, p63_22, p63_23, p63_24, p63_30, p63_31, p63_32, p63_33, ly73, al73, e0, g1, m_likely g2 hc ho, hl]
end RD2
