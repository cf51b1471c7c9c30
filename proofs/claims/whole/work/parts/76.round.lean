section RO
variable {d N : Nat} {I J : sm_Im} {L : sm_Lm} {P : sm_Pm} {sw : Bool} {x y z u v : Int32} {a b m n q k : Nat}
theorem c_round_1 (h : ¬ ((nI 2 ≤ x ∧ x ≤ nI 9) ∧ (nI 0 ≤ y ∧ y ≤ nI 9) ∧ nI 0 ≤ z ∧ z ≤ nI 1)) : sm_ex (d + 3) 120 [.ref 0, .int x, .int y, .int z] 81 I L (pX sw) = some (some (.long (-102)), 81, I, L, pX sw) := by
  rw [e120]
  by_cases h1 : (nI 2 ≤ x ∧ x ≤ nI 9)
  · by_cases h2 : (nI 0 ≤ y ∧ y ≤ nI 9)
    · have h3 : ¬ (nI 0 ≤ z ∧ z ≤ nI 1) := fun q => h ⟨h1, h2, q⟩
      simp only [s120_0, s120_1, s120_2, s120_4, s120_7, s120_10, s120_11, s120_14, s120_17, s120_18, s120_21, s120_24, s120_27, s120_28, s120_29, s120_30, s120_31, s120_32, s120_33, s120_36, s120_39, s120_40, s120_41, s120_42, s120_45, s120_46, s120_49, ltI, geL, leL, not_true_eq_false, not_false_eq_true, if_true, if_false, and_self, and_true, true_and, and_false, false_and, or_self, or_true, true_or, or_false, false_or, bo_T, bo_F, bo_e0, nI10, nI00, nI11, nI01, bo_e1, nem, eqL, af_v, af_0, rf_s, rf_n, nn, ite_self, h_isWithin, h_isOdds, h_isPart, h1, h2, h3]
    · simp only [s120_0, s120_1, s120_2, s120_4, s120_7, s120_10, s120_11, s120_14, s120_17, s120_18, s120_21, s120_24, s120_27, s120_28, s120_29, s120_30, s120_31, s120_32, s120_33, s120_36, s120_39, s120_40, s120_41, s120_42, s120_45, s120_46, s120_49, ltI, geL, leL, not_true_eq_false, not_false_eq_true, if_true, if_false, and_self, and_true, true_and, and_false, false_and, or_self, or_true, true_or, or_false, false_or, bo_T, bo_F, bo_e0, nI10, nI00, nI11, nI01, bo_e1, nem, eqL, af_v, af_0, rf_s, rf_n, nn, ite_self, h_isWithin, h_isOdds, h1, h2]
  · simp only [s120_0, s120_1, s120_2, s120_4, s120_7, s120_10, s120_11, s120_14, s120_17, s120_18, s120_21, s120_24, s120_27, s120_28, s120_29, s120_30, s120_31, s120_32, s120_33, s120_36, s120_39, s120_40, s120_41, s120_42, s120_45, s120_46, s120_49, ltI, geL, leL, not_true_eq_false, not_false_eq_true, if_true, if_false, and_self, and_true, true_and, and_false, false_and, or_self, or_true, true_or, or_false, false_or, bo_T, bo_F, bo_e0, nI10, nI00, nI11, nI01, bo_e1, nem, eqL, af_v, af_0, rf_s, rf_n, nn, ite_self, h_isWithin, h1]
theorem m_round_1 (h : ¬ ((nI 2 ≤ x ∧ x ≤ nI 9) ∧ (nI 0 ≤ y ∧ y ≤ nI 9) ∧ nI 0 ≤ z ∧ z ≤ nI 1)) : sm_ex (d + 3) 204 [.ref 63, .int x, .int y, .int z] 81 I L (pX sw) = some (some (.long (-102)), 81, I, L, pX sw) := by
  rw [e204]
  by_cases h1 : (nI 2 ≤ x ∧ x ≤ nI 9)
  · by_cases h2 : (nI 0 ≤ y ∧ y ≤ nI 9)
    · have h3 : ¬ (nI 0 ≤ z ∧ z ≤ nI 1) := fun q => h ⟨h1, h2, q⟩
      simp only [s204_0, s204_1, s204_2, s204_5, s204_8, s204_11, s204_14, s204_15, s204_16, s204_17, s204_20, s204_23, s204_26, s204_27, s204_30, s204_33, s204_36, s204_37, s204_38, s204_40, s204_41, s204_43, s204_44, s204_48, s204_49, s204_52, s204_54, s204_55, s204_56, s204_57, s204_59, s204_61, s204_64, s204_65, s204_67, s204_70, s204_73, s204_75, s204_77, s204_78, s204_81, ltI, geL, leL, not_true_eq_false, not_false_eq_true, if_true, if_false, and_self, and_true, true_and, and_false, false_and, or_self, or_true, true_or, or_false, false_or, bo_T, bo_F, bo_e0, nI10, nI00, nI11, nI01, bo_e1, nem, eqL, af_v, af_0, rf_s, rf_n, nn, ite_self, m_in, m_isPart, wN 0 (by decide), wN 2 (by decide), wN 9 (by decide), wl, h1, h2, h3]
    · simp only [s204_0, s204_1, s204_2, s204_5, s204_8, s204_11, s204_14, s204_15, s204_16, s204_17, s204_20, s204_23, s204_26, s204_27, s204_30, s204_33, s204_36, s204_37, s204_38, s204_40, s204_41, s204_43, s204_44, s204_48, s204_49, s204_52, s204_54, s204_55, s204_56, s204_57, s204_59, s204_61, s204_64, s204_65, s204_67, s204_70, s204_73, s204_75, s204_77, s204_78, s204_81, ltI, geL, leL, not_true_eq_false, not_false_eq_true, if_true, if_false, and_self, and_true, true_and, and_false, false_and, or_self, or_true, true_or, or_false, false_or, bo_T, bo_F, bo_e0, nI10, nI00, nI11, nI01, bo_e1, nem, eqL, af_v, af_0, rf_s, rf_n, nn, ite_self, m_in, wN 0 (by decide), wN 2 (by decide), wN 9 (by decide), wl, h1, h2]
  · simp only [s204_0, s204_1, s204_2, s204_5, s204_8, s204_11, s204_14, s204_15, s204_16, s204_17, s204_20, s204_23, s204_26, s204_27, s204_30, s204_33, s204_36, s204_37, s204_38, s204_40, s204_41, s204_43, s204_44, s204_48, s204_49, s204_52, s204_54, s204_55, s204_56, s204_57, s204_59, s204_61, s204_64, s204_65, s204_67, s204_70, s204_73, s204_75, s204_77, s204_78, s204_81, ltI, geL, leL, not_true_eq_false, not_false_eq_true, if_true, if_false, and_self, and_true, true_and, and_false, false_and, or_self, or_true, true_or, or_false, false_or, bo_T, bo_F, bo_e0, nI10, nI00, nI11, nI01, bo_e1, nem, eqL, af_v, af_0, rf_s, rf_n, nn, ite_self, m_in, wN 0 (by decide), wN 2 (by decide), wN 9 (by decide), wl, h1]
theorem ixt2 {i j n : Nat} (h1 : i ≤ j) (h : j ≤ n) (hn : n < 2147483647) : (nI i ≤ nI j ∧ nI j ≤ nI n) = True := by
  rw [leN (by omega) (by omega), leN (by omega) (by omega)]; simp [h, h1]
theorem c_round_2 (h1 : 2 ≤ a) (h2 : a ≤ 9) (h3 : b ≤ 9) (h4 : q ≤ 1) : sm_ex (d + 3) 120 [.ref 0, .int (nI a), .int (nI b), .int (nI q)] 81 I L (pX sw) = some (some (.long (lN (lw (b ^ (a - 1)) (10 ^ (a - 1)) q))), 81, I, L, pX sw) := by
  rw [e120]
  have b1 : 10 ^ (a - 1) ≤ 1000000000000 := pow12 (by decide) (by omega)
  have b2 : b ^ (a - 1) ≤ 1000000000000 := pow12 (by omega) (by omega)
  have b3 : 0 < 10 ^ (a - 1) := Nat.pow_pos (by decide)
  simp (discharger := first | assumption | omega | decide) only [s120_0, s120_1, s120_2, s120_4, s120_7, s120_10, s120_11, s120_14, s120_17, s120_18, s120_21, s120_24, s120_27, s120_28, s120_29, s120_30, s120_31, s120_32, s120_33, s120_36, s120_39, s120_40, s120_41, s120_42, s120_45, s120_46, s120_49, ltI, geL, leL, not_true_eq_false, not_false_eq_true, if_true, if_false, and_self, and_true, true_and, and_false, false_and, or_self, or_true, true_or, or_false, false_or, bo_T, bo_F, bo_e0, nI10, nI00, nI11, nI01, bo_e1, nem, eqL, af_v, af_0, rf_s, rf_n, nn, ite_self, h_isWithin, h_isOdds, h_isPart, ixt2, ixt, lI, subN, h_power, h_low]
theorem m_round_loop (h2 : n ≤ 9) (h4 : q ≤ 1) (h3 : b ≤ 9) : ∀ (k i : Nat), i + 1 + k = n → sm_at (sm_ex (d + 2)) none 204 46 [some (.ref 63), some (.int (nI n)), some (.int (nI b)), some (.int (nI q)), some (.long (lN (b ^ i))), none, some (.long (lN (10 ^ i))), none, some (.int (nI (i + 1)))] [] 81 I L (pX sw) = some (some (.long (lN (lw (b ^ (n - 1)) (10 ^ (n - 1)) q))), 81, I, L, pX sw) := by
  intro k
  induction k with
  | zero =>
    intro i hi
    obtain rfl : n = i + 1 := by omega
    have b1 : 10 ^ i ≤ 1000000000000 := pow12 (by decide) (by omega)
    have b2 : b ^ i ≤ 1000000000000 := pow12 (by omega) (by omega)
    have b3 : 0 < 10 ^ i := Nat.pow_pos (by decide)
    rw [s204_46, Nat.add_sub_cancel]
    simp (discharger := first | assumption | omega | decide) only [s204_0, s204_1, s204_2, s204_5, s204_8, s204_11, s204_14, s204_15, s204_16, s204_17, s204_20, s204_23, s204_26, s204_27, s204_30, s204_33, s204_36, s204_37, s204_38, s204_40, s204_41, s204_43, s204_44, s204_48, s204_49, s204_52, s204_54, s204_55, s204_56, s204_57, s204_59, s204_61, s204_64, s204_65, s204_67, s204_70, s204_73, s204_75, s204_77, s204_78, s204_81, ltI, geL, leL, not_true_eq_false, not_false_eq_true, if_true, if_false, and_self, and_true, true_and, and_false, false_and, or_self, or_true, true_or, or_false, false_or, bo_T, bo_F, bo_e0, nI10, nI00, nI11, nI01, bo_e1, nem, eqL, af_v, af_0, rf_s, rf_n, nn, ite_self, Int32.le_refl, m_term]
  | succ k ih =>
    intro i hi
    have c1 : ¬ n ≤ i + 1 := by omega
    have := ih (i + 1) (by omega)
    rw [Nat.pow_succ, Nat.pow_succ] at this
    rw [s204_46]
    simp (discharger := first | assumption | omega | decide) only [s204_0, s204_1, s204_2, s204_5, s204_8, s204_11, s204_14, s204_15, s204_16, s204_17, s204_20, s204_23, s204_26, s204_27, s204_30, s204_33, s204_36, s204_37, s204_38, s204_40, s204_41, s204_43, s204_44, s204_48, s204_49, s204_52, s204_54, s204_55, s204_56, s204_57, s204_59, s204_61, s204_64, s204_65, s204_67, s204_70, s204_73, s204_75, s204_77, s204_78, s204_81, ltI, geL, leL, not_true_eq_false, not_false_eq_true, if_true, if_false, and_self, and_true, true_and, and_false, false_and, or_self, or_true, true_or, or_false, false_or, bo_T, bo_F, bo_e0, nI10, nI00, nI11, nI01, bo_e1, nem, eqL, af_v, af_0, rf_s, rf_n, nn, ite_self, leN, c1, lI, mulL, addN, sm_cl]
    exact this
theorem m_round_2 (h1 : 2 ≤ a) (h2 : a ≤ 9) (h3 : b ≤ 9) (h4 : q ≤ 1) : sm_ex (d + 3) 204 [.ref 63, .int (nI a), .int (nI b), .int (nI q)] 81 I L (pX sw) = some (some (.long (lN (lw (b ^ (a - 1)) (10 ^ (a - 1)) q))), 81, I, L, pX sw) := by
  rw [e204]
  simp (discharger := first | assumption | omega | decide) only [s204_0, s204_1, s204_2, s204_5, s204_8, s204_11, s204_14, s204_15, s204_16, s204_17, s204_20, s204_23, s204_26, s204_27, s204_30, s204_33, s204_36, s204_37, s204_38, s204_40, s204_41, s204_43, s204_44, s204_48, s204_49, s204_52, s204_54, s204_55, s204_56, s204_57, s204_59, s204_61, s204_64, s204_65, s204_67, s204_70, s204_73, s204_75, s204_77, s204_78, s204_81, ltI, geL, leL, not_true_eq_false, not_false_eq_true, if_true, if_false, and_self, and_true, true_and, and_false, false_and, or_self, or_true, true_or, or_false, false_or, bo_T, bo_F, bo_e0, nI10, nI00, nI11, nI01, bo_e1, nem, eqL, af_v, af_0, rf_s, rf_n, nn, ite_self, m_in, m_isPart, wN 0 (by decide), wN 2 (by decide), wN 9 (by decide), wl, ixt2, ixt, sm_cl]
  exact m_round_loop h2 h4 h3 (a - 1) 0 (by omega)
end RO
