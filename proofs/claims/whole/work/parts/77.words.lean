section WO
variable {d N : Nat} {I J : sm_Im} {L : sm_Lm} {P : sm_Pm} {sw : Bool} {x y z u v : Int32} {a b m n q k p s : Nat}
/-- how many words with so many pinches at most: sum and ways -/
def wc (m p : Nat) : Nat → Nat × Nat
  | 0 => (0, 1)
  | i + 1 => ((wc m p i).1 + (wc m p i).2, (wc m p i).2 * (m - i) * p / (i + 1))
theorem wc_le : ∀ m, m < 9 → ∀ p, p < 4 → ∀ i, i < 10 → (wc m p i).1 ≤ 1000000 ∧ (wc m p i).2 ≤ 1000000 := by decide +kernel
theorem c_wordsOf_loop (hm : m ≤ 8) (hp : p ≤ 3) (hk : q ≤ 8) : ∀ (k i : Nat), i + k = min q m + 1 → sm_at (sm_ex d) none 141 8 [some (.int (nI m)), some (.int (nI p)), some (.int (nI q)), some (.int (nI (wc m p i).1)), some (.int (nI (wc m p i).2)), some (.int (nI i))] [] N I L P = some (some (.int (nI (wc m p (min q m + 1)).1)), N, I, L, P) := by
  intro k
  induction k with
  | zero =>
    intro i hi
    obtain rfl : i = min q m + 1 := by omega
    rw [s141_8]
    by_cases c : min q m + 1 ≤ q
    · have c2 : ¬ min q m + 1 ≤ m := by omega
      simp (discharger := first | assumption | omega | decide) only [s141_0, s141_1, s141_2, s141_3, s141_5, s141_6, s141_10, s141_11, s141_14, s141_16, s141_17, s141_20, s141_21, s141_23, s141_24, s141_25, s141_27, s141_28, s141_30, s141_31, s141_32, s141_33, s141_34, s141_36, s141_37, s141_38, s141_39, s141_41, s141_44, s141_47, s141_48, ltI, geL, leL, not_true_eq_false, not_false_eq_true, if_true, if_false, and_self, and_true, true_and, and_false, false_and, or_self, or_true, true_or, or_false, false_or, bo_T, bo_F, bo_e0, nI10, nI00, nI11, nI01, bo_e1, nem, eqL, af_v, af_0, rf_s, rf_n, nn, ite_self, leN, c, c2]
    · simp (discharger := first | assumption | omega | decide) only [s141_0, s141_1, s141_2, s141_3, s141_5, s141_6, s141_10, s141_11, s141_14, s141_16, s141_17, s141_20, s141_21, s141_23, s141_24, s141_25, s141_27, s141_28, s141_30, s141_31, s141_32, s141_33, s141_34, s141_36, s141_37, s141_38, s141_39, s141_41, s141_44, s141_47, s141_48, ltI, geL, leL, not_true_eq_false, not_false_eq_true, if_true, if_false, and_self, and_true, true_and, and_false, false_and, or_self, or_true, true_or, or_false, false_or, bo_T, bo_F, bo_e0, nI10, nI00, nI11, nI01, bo_e1, nem, eqL, af_v, af_0, rf_s, rf_n, nn, ite_self, leN, c]
  | succ k ih =>
    intro i hi
    have c1 : i ≤ q := by omega
    have c2 : i ≤ m := by omega
    have hw := wc_le m (by omega) p (by omega) i (by omega)
    have hb : (wc m p i).2 * (m - i) * p ≤ 1000000 * 8 * 3 := Nat.mul_le_mul (Nat.mul_le_mul hw.2 (by omega)) hp
    have z : ¬ nI (i + 1) = 0 := by rw [zI_0, eqN (by omega) (by decide)]; omega
    have := ih (i + 1) (by omega)
    rw [s141_8]
    simp (discharger := first | assumption | omega | decide) only [s141_0, s141_1, s141_2, s141_3, s141_5, s141_6, s141_10, s141_11, s141_14, s141_16, s141_17, s141_20, s141_21, s141_23, s141_24, s141_25, s141_27, s141_28, s141_30, s141_31, s141_32, s141_33, s141_34, s141_36, s141_37, s141_38, s141_39, s141_41, s141_44, s141_47, s141_48, ltI, geL, leL, not_true_eq_false, not_false_eq_true, if_true, if_false, and_self, and_true, true_and, and_false, false_and, or_self, or_true, true_or, or_false, false_or, bo_T, bo_F, bo_e0, nI10, nI00, nI11, nI01, bo_e1, nem, eqL, af_v, af_0, rf_s, rf_n, nn, ite_self, leN, c1, c2, addN, subN, mulN, divN, sm_cl]
    exact this
theorem c_wordsOf (hm : m ≤ 8) (hp : p ≤ 3) (hk : q ≤ 8) : sm_ex (d + 1) 141 [.int (nI m), .int (nI p), .int (nI q)] N I L P = some (some (.int (nI (wc m p (min q m + 1)).1)), N, I, L, P) := by
  rw [e141]
  simp only [s141_0, s141_1, s141_2, s141_3, s141_5, s141_6, s141_10, s141_11, s141_14, s141_16, s141_17, s141_20, s141_21, s141_23, s141_24, s141_25, s141_27, s141_28, s141_30, s141_31, s141_32, s141_33, s141_34, s141_36, s141_37, s141_38, s141_39, s141_41, s141_44, s141_47, s141_48, ltI, geL, leL, not_true_eq_false, not_false_eq_true, if_true, if_false, and_self, and_true, true_and, and_false, false_and, or_self, or_true, true_or, or_false, false_or, bo_T, bo_F, bo_e0, nI10, nI00, nI11, nI01, bo_e1, nem, eqL, af_v, af_0, rf_s, rf_n, nn, ite_self, sm_cl]
  exact c_wordsOf_loop hm hp hk (min q m + 1) 0 (Nat.zero_add _)
/-- the bits of a set of 16 -/
def pop (s : Nat) : Nat → Nat
  | 0 => 0
  | k + 1 => pop s k + s / 2 ^ k % 2
theorem pop_le (s : Nat) : ∀ k, pop s k ≤ k := by
  intro k
  induction k with
  | zero => exact Nat.le_refl _
  | succ k ih => show pop s k + _ ≤ _; omega
theorem sh31 {k : Nat} (h : k < 32) : ((nI k &&& 31).toBitVec.smod 32).toNat = k := by
  have : ∀ k, k < 32 → ((nI k &&& 31).toBitVec.smod 32).toNat = k := by decide +kernel
  exact this k h
theorem shrN {s k : Nat} (hs : s < 2147483648) (hk : k < 32) : nI s >>> (nI k &&& 31) = nI (s / 2 ^ k) := pk_shrN hs _ k (sh31 hk)
theorem shlN {s k : Nat} (hk : k < 32) (h : s * 2 ^ k < 4294967296) : nI s <<< (nI k &&& 31) = nI (s * 2 ^ k) := pk_shlN _ k (sh31 hk) h
theorem and1 (s : Nat) (h : s < 4294967296) : nI s &&& nI 1 = nI (s % 2) := by
  have := pk_andN (n := s) h (m := nI 1) 1 (by decide)
  rw [this]
theorem m_ones_loop (hs : s < 2147483648) : ∀ (k i : Nat), i + k = 16 → sm_at (sm_ex d) none 188 4 [some (.int (nI s)), some (.int (nI (pop s i))), some (.int (nI i))] [] N I L P = some (some (.int (nI (pop s 16))), N, I, L, P) := by
  intro k
  induction k with
  | zero =>
    intro i hi
    obtain rfl : i = 16 := by omega
    rw [s188_4]
    simp only [s188_0, s188_1, s188_2, s188_3, s188_5, s188_7, s188_10, s188_11, s188_12, s188_13, s188_14, s188_15, s188_16, s188_17, s188_18, s188_21, s188_24, s188_25, ltI, geL, leL, not_true_eq_false, not_false_eq_true, if_true, if_false, and_self, and_true, true_and, and_false, false_and, or_self, or_true, true_or, or_false, false_or, bo_T, bo_F, bo_e0, nI10, nI00, nI11, nI01, bo_e1, nem, eqL, af_v, af_0, rf_s, rf_n, nn, ite_self, Int32.le_refl]
  | succ k ih =>
    intro i hi
    have c1 : ¬ 16 ≤ i := by omega
    have := ih (i + 1) (by omega)
    have hd : s / 2 ^ i < 4294967296 := Nat.lt_of_le_of_lt (Nat.div_le_self _ _) (by omega)
    rw [s188_4]
    simp (discharger := first | assumption | omega | decide) only [s188_0, s188_1, s188_2, s188_3, s188_5, s188_7, s188_10, s188_11, s188_12, s188_13, s188_14, s188_15, s188_16, s188_17, s188_18, s188_21, s188_24, s188_25, ltI, geL, leL, not_true_eq_false, not_false_eq_true, if_true, if_false, and_self, and_true, true_and, and_false, false_and, or_self, or_true, true_or, or_false, false_or, bo_T, bo_F, bo_e0, nI10, nI00, nI11, nI01, bo_e1, nem, eqL, af_v, af_0, rf_s, rf_n, nn, ite_self, leN, c1, shrN, and1 _ hd, addN, sm_cl]
    exact this
theorem m_ones (hs : s < 2147483648) : sm_ex (d + 1) 188 [.int (nI s)] N I L P = some (some (.int (nI (pop s 16))), N, I, L, P) := by
  rw [e188]
  simp only [s188_0, s188_1, s188_2, s188_3, s188_5, s188_7, s188_10, s188_11, s188_12, s188_13, s188_14, s188_15, s188_16, s188_17, s188_18, s188_21, s188_24, s188_25, ltI, geL, leL, not_true_eq_false, not_false_eq_true, if_true, if_false, and_self, and_true, true_and, and_false, false_and, or_self, or_true, true_or, or_false, false_or, bo_T, bo_F, bo_e0, nI10, nI00, nI11, nI01, bo_e1, nem, eqL, af_v, af_0, rf_s, rf_n, nn, ite_self, sm_cl]
  exact m_ones_loop hs 16 0 rfl
def mw (p q : Nat) : Nat → Nat
  | 0 => 0
  | r + 1 => mw p q r + (if pop r 16 ≤ q then p ^ pop r 16 else 0)
theorem m_mw_2 (hs : s < 256) : ∀ (k i : Nat), i + k = pop s 16 → ∀ (l0 l2 l3 : Option Value) (Z : Option sm_Rs), sm_at (sm_ex (d + 1)) none 189 41 [l0, some (.int (nI p)), l2, l3, some (.int (nI s)), some (.int (nI (p ^ pop s 16))), some (.int (nI (pop s 16)))] [] N I L P = Z → sm_at (sm_ex (d + 1)) none 189 19 [l0, some (.int (nI p)), l2, l3, some (.int (nI s)), some (.int (nI (p ^ i))), some (.int (nI i))] [] N I L P = Z := by
  have hle := pop_le s 16
  intro k
  induction k with
  | zero =>
    intro i hi l0 l2 l3 Z hZ
    obtain rfl : i = pop s 16 := by omega
    rw [s189_19]
    simp (discharger := first | assumption | omega | decide) only [s189_21, s189_23, s189_26, ltI, geL, leL, not_true_eq_false, not_false_eq_true, if_true, if_false, and_self, and_true, true_and, and_false, false_and, or_self, or_true, true_or, or_false, false_or, bo_T, bo_F, bo_e0, nI10, nI00, nI11, nI01, bo_e1, nem, eqL, af_v, af_0, rf_s, rf_n, nn, ite_self, m_ones, Int32.le_refl]
    exact hZ
  | succ k ih =>
    intro i hi l0 l2 l3 Z hZ
    have c1 : ¬ pop s 16 ≤ i := by omega
    have := ih (i + 1) (by omega) l0 l2 l3 Z hZ
    rw [Nat.pow_succ] at this
    rw [s189_19]
    simp (discharger := first | assumption | omega | decide) only [s189_0, s189_1, s189_2, s189_3, s189_7, s189_8, s189_9, s189_10, s189_13, s189_14, s189_16, s189_17, s189_21, s189_23, s189_26, s189_29, s189_31, s189_32, s189_33, s189_35, s189_38, s189_41, s189_42, s189_44, s189_47, s189_48, s189_51, s189_53, s189_56, s189_57, s189_58, s189_59, s189_62, s189_65, s189_66, ltI, geL, leL, not_true_eq_false, not_false_eq_true, if_true, if_false, and_self, and_true, true_and, and_false, false_and, or_self, or_true, true_or, or_false, false_or, bo_T, bo_F, bo_e0, nI10, nI00, nI11, nI01, bo_e1, nem, eqL, af_v, af_0, rf_s, rf_n, nn, ite_self, leN, c1, m_ones, mulN, addN, sm_cl]
    exact this
theorem m_mw_1 (hm : m ≤ 8) (hq : q ≤ 8) : ∀ (k i : Nat), i + k = 2 ^ m → ∀ (l5 l6 : Option Value), sm_at (sm_ex (d + 1)) none 189 5 [some (.int (nI m)), some (.int (nI p)), some (.int (nI q)), some (.int (nI (mw p q i))), some (.int (nI i)), l5, l6] [] N I L P = some (some (.int (nI (mw p q (2 ^ m)))), N, I, L, P) := by
  have hpm : 2 ^ m ≤ 256 := Nat.le_trans (Nat.pow_le_pow_right (by decide) hm) (by decide)
  have e1 : nI 1 <<< (nI m &&& 31) = nI (2 ^ m) := by rw [shlN (by omega) (by omega), Nat.one_mul]
  intro k
  induction k with
  | zero =>
    intro i hi l5 l6
    obtain rfl : i = 2 ^ m := by omega
    rw [s189_5]
    simp only [s189_0, s189_1, s189_2, s189_3, s189_7, s189_8, s189_9, s189_10, s189_13, s189_14, s189_16, s189_17, s189_21, s189_23, s189_26, s189_29, s189_31, s189_32, s189_33, s189_35, s189_38, s189_41, s189_42, s189_44, s189_47, s189_48, s189_51, s189_53, s189_56, s189_57, s189_58, s189_59, s189_62, s189_65, s189_66, ltI, geL, leL, not_true_eq_false, not_false_eq_true, if_true, if_false, and_self, and_true, true_and, and_false, false_and, or_self, or_true, true_or, or_false, false_or, bo_T, bo_F, bo_e0, nI10, nI00, nI11, nI01, bo_e1, nem, eqL, af_v, af_0, rf_s, rf_n, nn, ite_self, e1, Int32.le_refl]
  | succ k ih =>
    intro i hi l5 l6
    have c1 : ¬ 2 ^ m ≤ i := by omega
    have hle := pop_le i 16
    rw [s189_5]
    simp (discharger := first | assumption | omega | decide) only [s189_0, s189_1, s189_2, s189_3, s189_7, s189_8, s189_9, s189_10, s189_13, s189_14, s189_16, s189_17, s189_21, s189_23, s189_26, s189_29, s189_31, s189_32, s189_33, s189_35, s189_38, s189_41, s189_42, s189_44, s189_47, s189_48, s189_51, s189_53, s189_56, s189_57, s189_58, s189_59, s189_62, s189_65, s189_66, ltI, geL, leL, not_true_eq_false, not_false_eq_true, if_true, if_false, and_self, and_true, true_and, and_false, false_and, or_self, or_true, true_or, or_false, false_or, bo_T, bo_F, bo_e0, nI10, nI00, nI11, nI01, bo_e1, nem, eqL, af_v, af_0, rf_s, rf_n, nn, ite_self, e1, leN, c1, sm_cl]
    refine m_mw_2 (s := i) (by omega) (pop i 16) 0 (Nat.zero_add _) _ _ _ _ ?_
    have := ih (i + 1) (by omega) (some (.int (nI (p ^ pop i 16)))) (some (.int (nI (pop i 16))))
    have e : mw p q (i + 1) = mw p q i + (if pop i 16 ≤ q then p ^ pop i 16 else 0) := rfl
    rw [e] at this
    by_cases c : pop i 16 ≤ q
    · rw [if_pos c] at this
      simp (discharger := first | assumption | omega | decide) only [s189_0, s189_1, s189_2, s189_3, s189_7, s189_8, s189_9, s189_10, s189_13, s189_14, s189_16, s189_17, s189_21, s189_23, s189_26, s189_29, s189_31, s189_32, s189_33, s189_35, s189_38, s189_41, s189_42, s189_44, s189_47, s189_48, s189_51, s189_53, s189_56, s189_57, s189_58, s189_59, s189_62, s189_65, s189_66, ltI, geL, leL, not_true_eq_false, not_false_eq_true, if_true, if_false, and_self, and_true, true_and, and_false, false_and, or_self, or_true, true_or, or_false, false_or, bo_T, bo_F, bo_e0, nI10, nI00, nI11, nI01, bo_e1, nem, eqL, af_v, af_0, rf_s, rf_n, nn, ite_self, m_ones, leN, c, addN, sm_cl]
      exact this
    · rw [if_neg c] at this
      simp (discharger := first | assumption | omega | decide) only [s189_0, s189_1, s189_2, s189_3, s189_7, s189_8, s189_9, s189_10, s189_13, s189_14, s189_16, s189_17, s189_21, s189_23, s189_26, s189_29, s189_31, s189_32, s189_33, s189_35, s189_38, s189_41, s189_42, s189_44, s189_47, s189_48, s189_51, s189_53, s189_56, s189_57, s189_58, s189_59, s189_62, s189_65, s189_66, ltI, geL, leL, not_true_eq_false, not_false_eq_true, if_true, if_false, and_self, and_true, true_and, and_false, false_and, or_self, or_true, true_or, or_false, false_or, bo_T, bo_F, bo_e0, nI10, nI00, nI11, nI01, bo_e1, nem, eqL, af_v, af_0, rf_s, rf_n, nn, ite_self, m_ones, leN, c, addN, sm_cl]
      exact this
theorem m_manyWords (hm : m ≤ 8) (hq : q ≤ 8) : sm_ex (d + 2) 189 [.int (nI m), .int (nI p), .int (nI q)] N I L P = some (some (.int (nI (mw p q (2 ^ m)))), N, I, L, P) := by
  rw [e189]
  simp only [s189_0, s189_1, s189_2, s189_3, s189_7, s189_8, s189_9, s189_10, s189_13, s189_14, s189_16, s189_17, s189_21, s189_23, s189_26, s189_29, s189_31, s189_32, s189_33, s189_35, s189_38, s189_41, s189_42, s189_44, s189_47, s189_48, s189_51, s189_53, s189_56, s189_57, s189_58, s189_59, s189_62, s189_65, s189_66, ltI, geL, leL, not_true_eq_false, not_false_eq_true, if_true, if_false, and_self, and_true, true_and, and_false, false_and, or_self, or_true, true_or, or_false, false_or, bo_T, bo_F, bo_e0, nI10, nI00, nI11, nI01, bo_e1, nem, eqL, af_v, af_0, rf_s, rf_n, nn, ite_self, sm_cl]
  exact m_mw_1 hm hq (2 ^ m) 0 (Nat.zero_add _) _ _
theorem words_same : ∀ m, m < 9 → ∀ p, p < 4 → ∀ q, q < 9 → (wc m p (min q m + 1)).1 = mw p q (2 ^ m) := by decide +kernel
theorem mw_le : ∀ m, m < 9 → ∀ p, p < 4 → ∀ q, q < 9 → mw p q (2 ^ m) ≤ 100000 := by decide +kernel
theorem c_words_1 (h : ¬ ((nI 1 ≤ x ∧ x ≤ nI 8) ∧ (nI 1 ≤ y ∧ y ≤ nI 3) ∧ nI 0 ≤ z ∧ z ≤ nI 8)) : sm_ex (d + 3) 111 [.ref 0, .int x, .int y, .int z] 81 I L (pX sw) = some (some (.int (-102)), 81, I, L, pX sw) := by
  rw [e111]
  by_cases h1 : (nI 1 ≤ x ∧ x ≤ nI 8)
  · have h2 : ¬ ((nI 1 ≤ y ∧ y ≤ nI 3) ∧ nI 0 ≤ z ∧ z ≤ nI 8) := fun q => h ⟨h1, q⟩
    simp only [s111_0, s111_1, s111_2, s111_4, s111_7, s111_10, s111_11, s111_12, s111_15, s111_18, s111_20, s111_21, s111_22, s111_23, s111_24, s111_27, ltI, geL, leL, not_true_eq_false, not_false_eq_true, if_true, if_false, and_self, and_true, true_and, and_false, false_and, or_self, or_true, true_or, or_false, false_or, bo_T, bo_F, bo_e0, nI10, nI00, nI11, nI01, bo_e1, nem, eqL, af_v, af_0, rf_s, rf_n, nn, ite_self, h_isWithin, h_arePinches, h1, h2]
  · simp only [s111_0, s111_1, s111_2, s111_4, s111_7, s111_10, s111_11, s111_12, s111_15, s111_18, s111_20, s111_21, s111_22, s111_23, s111_24, s111_27, ltI, geL, leL, not_true_eq_false, not_false_eq_true, if_true, if_false, and_self, and_true, true_and, and_false, false_and, or_self, or_true, true_or, or_false, false_or, bo_T, bo_F, bo_e0, nI10, nI00, nI11, nI01, bo_e1, nem, eqL, af_v, af_0, rf_s, rf_n, nn, ite_self, h_isWithin, h1]
theorem m_words_1 (h : ¬ ((nI 1 ≤ x ∧ x ≤ nI 8) ∧ (nI 1 ≤ y ∧ y ≤ nI 3) ∧ nI 0 ≤ z ∧ z ≤ nI 8)) : sm_ex (d + 3) 190 [.ref 63, .int x, .int y, .int z] 81 I L (pX sw) = some (some (.int (-102)), 81, I, L, pX sw) := by
  rw [e190]
  by_cases h1 : (nI 1 ≤ x ∧ x ≤ nI 8)
  · have h2 : ¬ ((nI 1 ≤ y ∧ y ≤ nI 3) ∧ nI 0 ≤ z ∧ z ≤ nI 8) := fun q => h ⟨h1, q⟩
    simp only [s190_0, s190_1, s190_2, s190_3, s190_6, s190_9, s190_12, s190_13, s190_14, s190_17, s190_20, s190_21, s190_22, s190_23, s190_26, s190_29, s190_31, ltI, geL, leL, not_true_eq_false, not_false_eq_true, if_true, if_false, and_self, and_true, true_and, and_false, false_and, or_self, or_true, true_or, or_false, false_or, bo_T, bo_F, bo_e0, nI10, nI00, nI11, nI01, bo_e1, nem, eqL, af_v, af_0, rf_s, rf_n, nn, ite_self, m_in, m_areWords, wN 1 (by decide), wN 8 (by decide), wl, h1, h2]
  · simp only [s190_0, s190_1, s190_2, s190_3, s190_6, s190_9, s190_12, s190_13, s190_14, s190_17, s190_20, s190_21, s190_22, s190_23, s190_26, s190_29, s190_31, ltI, geL, leL, not_true_eq_false, not_false_eq_true, if_true, if_false, and_self, and_true, true_and, and_false, false_and, or_self, or_true, true_or, or_false, false_or, bo_T, bo_F, bo_e0, nI10, nI00, nI11, nI01, bo_e1, nem, eqL, af_v, af_0, rf_s, rf_n, nn, ite_self, m_in, wN 1 (by decide), wN 8 (by decide), wl, h1]
theorem c_words_2 (h1 : 1 ≤ m) (h2 : m ≤ 8) (h3 : 1 ≤ p) (h4 : p ≤ 3) (h5 : q ≤ 8) : sm_ex (d + 3) 111 [.ref 0, .int (nI m), .int (nI p), .int (nI q)] 81 I L (pX sw) = some (some (.int (nI (mw p q (2 ^ m)))), 81, I, L, pX sw) := by
  rw [e111]
  simp (discharger := first | assumption | omega | decide) only [s111_0, s111_1, s111_2, s111_4, s111_7, s111_10, s111_11, s111_12, s111_15, s111_18, s111_20, s111_21, s111_22, s111_23, s111_24, s111_27, ltI, geL, leL, not_true_eq_false, not_false_eq_true, if_true, if_false, and_self, and_true, true_and, and_false, false_and, or_self, or_true, true_or, or_false, false_or, bo_T, bo_F, bo_e0, nI10, nI00, nI11, nI01, bo_e1, nem, eqL, af_v, af_0, rf_s, rf_n, nn, ite_self, h_isWithin, h_arePinches, ixt2, ixt, c_wordsOf, words_same m (by omega) p (by omega) q (by omega)]
theorem m_words_2 (h1 : 1 ≤ m) (h2 : m ≤ 8) (h3 : 1 ≤ p) (h4 : p ≤ 3) (h5 : q ≤ 8) : sm_ex (d + 3) 190 [.ref 63, .int (nI m), .int (nI p), .int (nI q)] 81 I L (pX sw) = some (some (.int (nI (mw p q (2 ^ m)))), 81, I, L, pX sw) := by
  rw [e190]
  simp (discharger := first | assumption | omega | decide) only [s190_0, s190_1, s190_2, s190_3, s190_6, s190_9, s190_12, s190_13, s190_14, s190_17, s190_20, s190_21, s190_22, s190_23, s190_26, s190_29, s190_31, ltI, geL, leL, not_true_eq_false, not_false_eq_true, if_true, if_false, and_self, and_true, true_and, and_false, false_and, or_self, or_true, true_or, or_false, false_or, bo_T, bo_F, bo_e0, nI10, nI00, nI11, nI01, bo_e1, nem, eqL, af_v, af_0, rf_s, rf_n, nn, ite_self, m_in, m_areWords, wN 1 (by decide), wN 8 (by decide), wl, ixt2, ixt, m_manyWords]
theorem c_least_1 (h : ¬ ((nI 1 ≤ x ∧ x ≤ nI 99999) ∧ (nI 1 ≤ y ∧ y ≤ nI 3) ∧ nI 0 ≤ z ∧ z ≤ nI 8)) : sm_ex (d + 3) 112 [.ref 0, .int x, .int y, .int z] 81 I L (pX sw) = some (some (.int (-102)), 81, I, L, pX sw) := by
  rw [e112]
  by_cases h1 : (nI 1 ≤ x ∧ x ≤ nI 99999)
  · have h2 : ¬ ((nI 1 ≤ y ∧ y ≤ nI 3) ∧ nI 0 ≤ z ∧ z ≤ nI 8) := fun q => h ⟨h1, q⟩
    simp only [s112_0, s112_1, s112_2, s112_4, s112_7, s112_10, s112_11, s112_12, s112_15, s112_18, s112_20, s112_21, s112_22, s112_26, s112_28, s112_31, s112_33, s112_34, s112_35, s112_38, s112_39, s112_42, s112_44, s112_45, s112_48, s112_51, s112_52, ltI, geL, leL, not_true_eq_false, not_false_eq_true, if_true, if_false, and_self, and_true, true_and, and_false, false_and, or_self, or_true, true_or, or_false, false_or, bo_T, bo_F, bo_e0, nI10, nI00, nI11, nI01, bo_e1, nem, eqL, af_v, af_0, rf_s, rf_n, nn, ite_self, h_isWithin, h_arePinches, h1, h2]
  · simp only [s112_0, s112_1, s112_2, s112_4, s112_7, s112_10, s112_11, s112_12, s112_15, s112_18, s112_20, s112_21, s112_22, s112_26, s112_28, s112_31, s112_33, s112_34, s112_35, s112_38, s112_39, s112_42, s112_44, s112_45, s112_48, s112_51, s112_52, ltI, geL, leL, not_true_eq_false, not_false_eq_true, if_true, if_false, and_self, and_true, true_and, and_false, false_and, or_self, or_true, true_or, or_false, false_or, bo_T, bo_F, bo_e0, nI10, nI00, nI11, nI01, bo_e1, nem, eqL, af_v, af_0, rf_s, rf_n, nn, ite_self, h_isWithin, h1]
theorem m_least_1 (h : ¬ ((nI 1 ≤ x ∧ x ≤ nI 99999) ∧ (nI 1 ≤ y ∧ y ≤ nI 3) ∧ nI 0 ≤ z ∧ z ≤ nI 8)) : sm_ex (d + 3) 191 [.ref 63, .int x, .int y, .int z] 81 I L (pX sw) = some (some (.int (-102)), 81, I, L, pX sw) := by
  rw [e191]
  by_cases h1 : (nI 1 ≤ x ∧ x ≤ nI 99999)
  · have h2 : ¬ ((nI 1 ≤ y ∧ y ≤ nI 3) ∧ nI 0 ≤ z ∧ z ≤ nI 8) := fun q => h ⟨h1, q⟩
    simp only [s191_0, s191_1, s191_2, s191_3, s191_6, s191_9, s191_12, s191_13, s191_14, s191_17, s191_20, s191_22, s191_23, s191_24, s191_28, s191_30, s191_33, s191_35, s191_36, s191_37, s191_40, s191_41, s191_44, s191_46, s191_47, s191_50, s191_53, s191_54, ltI, geL, leL, not_true_eq_false, not_false_eq_true, if_true, if_false, and_self, and_true, true_and, and_false, false_and, or_self, or_true, true_or, or_false, false_or, bo_T, bo_F, bo_e0, nI10, nI00, nI11, nI01, bo_e1, nem, eqL, af_v, af_0, rf_s, rf_n, nn, ite_self, m_in, m_areWords, wN 1 (by decide), wN 99999 (by decide), wl, h1, h2]
  · simp only [s191_0, s191_1, s191_2, s191_3, s191_6, s191_9, s191_12, s191_13, s191_14, s191_17, s191_20, s191_22, s191_23, s191_24, s191_28, s191_30, s191_33, s191_35, s191_36, s191_37, s191_40, s191_41, s191_44, s191_46, s191_47, s191_50, s191_53, s191_54, ltI, geL, leL, not_true_eq_false, not_false_eq_true, if_true, if_false, and_self, and_true, true_and, and_false, false_and, or_self, or_true, true_or, or_false, false_or, bo_T, bo_F, bo_e0, nI10, nI00, nI11, nI01, bo_e1, nem, eqL, af_v, af_0, rf_s, rf_n, nn, ite_self, m_in, wN 1 (by decide), wN 99999 (by decide), wl, h1]
theorem c_least_loop (h3 : 1 ≤ p) (h4 : p ≤ 3) (h5 : q ≤ 8) : ∀ (k i : Nat), i + k = 9 → 1 ≤ i → sm_at (sm_ex (d + 2)) none 112 24 [some (.ref 0), some (.int x), some (.int (nI p)), some (.int (nI q)), some (.int (nI i))] [] 81 I L (pX sw) = some (some (.int (oI (firstF (fun t => decide (x ≤ nI (mw p q (2 ^ t)))) k i))), 81, I, L, pX sw) := by
  intro k
  induction k with
  | zero =>
    intro i hi h1
    have c1 : ¬ i ≤ 8 := by omega
    rw [s112_24]
    simp (discharger := first | assumption | omega | decide) only [s112_0, s112_1, s112_2, s112_4, s112_7, s112_10, s112_11, s112_12, s112_15, s112_18, s112_20, s112_21, s112_22, s112_26, s112_28, s112_31, s112_33, s112_34, s112_35, s112_38, s112_39, s112_42, s112_44, s112_45, s112_48, s112_51, s112_52, ltI, geL, leL, not_true_eq_false, not_false_eq_true, if_true, if_false, and_self, and_true, true_and, and_false, false_and, or_self, or_true, true_or, or_false, false_or, bo_T, bo_F, bo_e0, nI10, nI00, nI11, nI01, bo_e1, nem, eqL, af_v, af_0, rf_s, rf_n, nn, ite_self, leN, c1, firstF, oI]
  | succ k ih =>
    intro i hi h1
    have c1 : i ≤ 8 := by omega
    rw [s112_24]
    by_cases c : x ≤ nI (mw p q (2 ^ i))
    · simp (discharger := first | assumption | omega | decide) only [s112_0, s112_1, s112_2, s112_4, s112_7, s112_10, s112_11, s112_12, s112_15, s112_18, s112_20, s112_21, s112_22, s112_26, s112_28, s112_31, s112_33, s112_34, s112_35, s112_38, s112_39, s112_42, s112_44, s112_45, s112_48, s112_51, s112_52, ltI, geL, leL, not_true_eq_false, not_false_eq_true, if_true, if_false, and_self, and_true, true_and, and_false, false_and, or_self, or_true, true_or, or_false, false_or, bo_T, bo_F, bo_e0, nI10, nI00, nI11, nI01, bo_e1, nem, eqL, af_v, af_0, rf_s, rf_n, nn, ite_self, leN, c1, c_wordsOf, words_same i (by omega) p (by omega) q (by omega), c, firstF, oI, decide_true]
    · simp (discharger := first | assumption | omega | decide) only [s112_0, s112_1, s112_2, s112_4, s112_7, s112_10, s112_11, s112_12, s112_15, s112_18, s112_20, s112_21, s112_22, s112_26, s112_28, s112_31, s112_33, s112_34, s112_35, s112_38, s112_39, s112_42, s112_44, s112_45, s112_48, s112_51, s112_52, ltI, geL, leL, not_true_eq_false, not_false_eq_true, if_true, if_false, and_self, and_true, true_and, and_false, false_and, or_self, or_true, true_or, or_false, false_or, bo_T, bo_F, bo_e0, nI10, nI00, nI11, nI01, bo_e1, nem, eqL, af_v, af_0, rf_s, rf_n, nn, ite_self, leN, c1, c_wordsOf, words_same i (by omega) p (by omega) q (by omega), c, firstF, decide_false, Bool.false_eq_true, addN, sm_cl]
      exact ih (i + 1) (by omega) (by omega)
theorem m_least_loop (h3 : 1 ≤ p) (h4 : p ≤ 3) (h5 : q ≤ 8) : ∀ (k i : Nat), i + k = 9 → 1 ≤ i → sm_at (sm_ex (d + 2)) none 191 26 [some (.ref 63), some (.int x), some (.int (nI p)), some (.int (nI q)), some (.int (nI i))] [] 81 I L (pX sw) = some (some (.int (oI (firstF (fun t => decide (x ≤ nI (mw p q (2 ^ t)))) k i))), 81, I, L, pX sw) := by
  intro k
  induction k with
  | zero =>
    intro i hi h1
    have c1 : 9 ≤ i := by omega
    rw [s191_26]
    simp (discharger := first | assumption | omega | decide) only [s191_0, s191_1, s191_2, s191_3, s191_6, s191_9, s191_12, s191_13, s191_14, s191_17, s191_20, s191_22, s191_23, s191_24, s191_28, s191_30, s191_33, s191_35, s191_36, s191_37, s191_40, s191_41, s191_44, s191_46, s191_47, s191_50, s191_53, s191_54, ltI, geL, leL, not_true_eq_false, not_false_eq_true, if_true, if_false, and_self, and_true, true_and, and_false, false_and, or_self, or_true, true_or, or_false, false_or, bo_T, bo_F, bo_e0, nI10, nI00, nI11, nI01, bo_e1, nem, eqL, af_v, af_0, rf_s, rf_n, nn, ite_self, leN, c1, firstF, oI]
  | succ k ih =>
    intro i hi h1
    have c1 : ¬ 9 ≤ i := by omega
    rw [s191_26]
    by_cases c : x ≤ nI (mw p q (2 ^ i))
    · simp (discharger := first | assumption | omega | decide) only [s191_0, s191_1, s191_2, s191_3, s191_6, s191_9, s191_12, s191_13, s191_14, s191_17, s191_20, s191_22, s191_23, s191_24, s191_28, s191_30, s191_33, s191_35, s191_36, s191_37, s191_40, s191_41, s191_44, s191_46, s191_47, s191_50, s191_53, s191_54, ltI, geL, leL, not_true_eq_false, not_false_eq_true, if_true, if_false, and_self, and_true, true_and, and_false, false_and, or_self, or_true, true_or, or_false, false_or, bo_T, bo_F, bo_e0, nI10, nI00, nI11, nI01, bo_e1, nem, eqL, af_v, af_0, rf_s, rf_n, nn, ite_self, leN, c1, m_manyWords, c, firstF, oI, decide_true]
    · simp (discharger := first | assumption | omega | decide) only [s191_0, s191_1, s191_2, s191_3, s191_6, s191_9, s191_12, s191_13, s191_14, s191_17, s191_20, s191_22, s191_23, s191_24, s191_28, s191_30, s191_33, s191_35, s191_36, s191_37, s191_40, s191_41, s191_44, s191_46, s191_47, s191_50, s191_53, s191_54, ltI, geL, leL, not_true_eq_false, not_false_eq_true, if_true, if_false, and_self, and_true, true_and, and_false, false_and, or_self, or_true, true_or, or_false, false_or, bo_T, bo_F, bo_e0, nI10, nI00, nI11, nI01, bo_e1, nem, eqL, af_v, af_0, rf_s, rf_n, nn, ite_self, leN, c1, m_manyWords, c, firstF, decide_false, Bool.false_eq_true, addN, sm_cl]
      exact ih (i + 1) (by omega) (by omega)
theorem c_least_2 (h0 : (nI 1 ≤ x ∧ x ≤ nI 99999)) (h3 : 1 ≤ p) (h4 : p ≤ 3) (h5 : q ≤ 8) : sm_ex (d + 3) 112 [.ref 0, .int x, .int (nI p), .int (nI q)] 81 I L (pX sw) = some (some (.int (oI (firstF (fun t => decide (x ≤ nI (mw p q (2 ^ t)))) 8 1))), 81, I, L, pX sw) := by
  rw [e112]
  simp (discharger := first | assumption | omega | decide) only [s112_0, s112_1, s112_2, s112_4, s112_7, s112_10, s112_11, s112_12, s112_15, s112_18, s112_20, s112_21, s112_22, s112_26, s112_28, s112_31, s112_33, s112_34, s112_35, s112_38, s112_39, s112_42, s112_44, s112_45, s112_48, s112_51, s112_52, ltI, geL, leL, not_true_eq_false, not_false_eq_true, if_true, if_false, and_self, and_true, true_and, and_false, false_and, or_self, or_true, true_or, or_false, false_or, bo_T, bo_F, bo_e0, nI10, nI00, nI11, nI01, bo_e1, nem, eqL, af_v, af_0, rf_s, rf_n, nn, ite_self, h_isWithin, h_arePinches, h0, ixt2, ixt, sm_cl]
  exact c_least_loop h3 h4 h5 8 1 rfl (by decide)
theorem m_least_2 (h0 : (nI 1 ≤ x ∧ x ≤ nI 99999)) (h3 : 1 ≤ p) (h4 : p ≤ 3) (h5 : q ≤ 8) : sm_ex (d + 3) 191 [.ref 63, .int x, .int (nI p), .int (nI q)] 81 I L (pX sw) = some (some (.int (oI (firstF (fun t => decide (x ≤ nI (mw p q (2 ^ t)))) 8 1))), 81, I, L, pX sw) := by
  rw [e191]
  simp (discharger := first | assumption | omega | decide) only [s191_0, s191_1, s191_2, s191_3, s191_6, s191_9, s191_12, s191_13, s191_14, s191_17, s191_20, s191_22, s191_23, s191_24, s191_28, s191_30, s191_33, s191_35, s191_36, s191_37, s191_40, s191_41, s191_44, s191_46, s191_47, s191_50, s191_53, s191_54, ltI, geL, leL, not_true_eq_false, not_false_eq_true, if_true, if_false, and_self, and_true, true_and, and_false, false_and, or_self, or_true, true_or, or_false, false_or, bo_T, bo_F, bo_e0, nI10, nI00, nI11, nI01, bo_e1, nem, eqL, af_v, af_0, rf_s, rf_n, nn, ite_self, m_in, m_areWords, wN 1 (by decide), wN 99999 (by decide), wl, h0, ixt2, ixt, sm_cl]
  exact m_least_loop h3 h4 h5 8 1 rfl (by decide)
end WO
