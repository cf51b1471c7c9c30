section RD
variable {d : Nat} {I : sm_Im} {L : sm_Lm} {sw : Bool} {x y z : Int32} {a b m : Nat}
/-- an int out of the first n, or one of them -/
theorem ix (x : Int32) (n : Nat) (hn : n < 2147483647) : (¬ (nI 0 ≤ x ∧ x ≤ nI n)) ∨ ∃ j, j ≤ n ∧ x = nI j := by
  by_cases h : nI 0 ≤ x ∧ x ≤ nI n
  · right
    rcases pk_ix x (show n + 1 < 2 ^ 31 by omega) with q | q | ⟨j, h1, h2⟩
    · exfalso
      have h1 := h.1
      rw [show nI 0 = 0 from rfl, Int32.le_iff_toInt_le] at h1
      rw [Int32.lt_iff_toInt_lt] at q
      omega
    · exfalso
      have h2 := h.2
      rw [Int32.le_iff_toInt_le, nI_toInt (by omega)] at h2 q
      omega
    · exact ⟨j, by omega, h2⟩
  · exact Or.inl h
theorem ixt {j n : Nat} (h : j ≤ n) (hn : n < 2147483647) : (nI 0 ≤ nI j ∧ nI j ≤ nI n) = True := by
  rw [leN (by omega) (by omega), leN (by omega) (by omega)]; simp [h]
theorem mulN (a b : Nat) : nI a * nI b = nI (a * b) := pk_mul a b
theorem addN (a b : Nat) : nI a + nI b = nI (a + b) := nI_add a b
/-- the class -/
theorem c_setRoad (ha : a < 6) (hb : b < 6) : sm_ex (d + 1) 39 [.ref 7, .int (nI a), .int (nI b), .int z] 81 I L (pX sw) = some (some (.int (I 8 (a * 6 + b))), 81, sm_up (sm_up I 8 (a * 6 + b) z) 8 (b * 6 + a) z, L, pX sw) := by
  rw [e39]
  simp (discharger := (first | omega | decide | (simp only [ly7, p7_0, p7_1, p7_2, p7_3, ly8, al8]; omega))) only [s39_0, s39_1, s39_4, s39_5, s39_7, s39_8, s39_9, s39_10, s39_10t0, s39_10t1, s39_11, s39_13, s39_14, s39_17, s39_18, s39_20, s39_21, s39_22, s39_23, s39_24, s39_25, s39_26, s39_29, s39_30, s39_32, s39_33, s39_34, s39_35, s39_36, s39_37, s39_39, ltI, geL, leL, not_true_eq_false, not_false_eq_true, if_true, if_false, and_self, and_true, true_and, and_false, false_and, or_self, or_true, true_or, or_false, false_or, bo_T, bo_F, bo_e0, nI10, nI00, nI11, nI01, bo_e1, nem, eqL, af_v, af_0, rf_s, rf_n, nn, ite_self, ly7, p7_0, p7_1, p7_2, p7_3, ly8, al8, mulN, addN, sm_cl]
theorem c_road_1 (h : ¬ ((nI 0 ≤ x ∧ x ≤ nI 5) ∧ (nI 0 ≤ y ∧ y ≤ nI 5) ∧ ¬ x = y)) : sm_ex (d + 3) 94 [.ref 0, .int x, .int y, .int z] 81 I L (pX sw) = some (some (.int (-101)), 81, I, L, pX sw) := by
  rw [e94]
  by_cases h1 : (nI 0 ≤ x ∧ x ≤ nI 5)
  · by_cases h2 : (nI 0 ≤ y ∧ y ≤ nI 5)
    · by_cases h3 : x = y
      · subst h3
        simp only [s94_0, s94_1, s94_4, s94_7, s94_8, s94_11, s94_14, s94_15, s94_16, s94_19, s94_21, s94_22, s94_23, s94_24, s94_26, s94_29, s94_32, s94_34, s94_35, s94_36, s94_39, s94_40, s94_41, s94_42, s94_45, ltI, geL, leL, not_true_eq_false, not_false_eq_true, if_true, if_false, and_self, and_true, true_and, and_false, false_and, or_self, or_true, true_or, or_false, false_or, bo_T, bo_F, bo_e0, nI10, nI00, nI11, nI01, bo_e1, nem, eqL, af_v, af_0, rf_s, rf_n, nn, ite_self, h_isTown, h1]
      · exact absurd ⟨h1, h2, h3⟩ h
    · simp only [s94_0, s94_1, s94_4, s94_7, s94_8, s94_11, s94_14, s94_15, s94_16, s94_19, s94_21, s94_22, s94_23, s94_24, s94_26, s94_29, s94_32, s94_34, s94_35, s94_36, s94_39, s94_40, s94_41, s94_42, s94_45, ltI, geL, leL, not_true_eq_false, not_false_eq_true, if_true, if_false, and_self, and_true, true_and, and_false, false_and, or_self, or_true, true_or, or_false, false_or, bo_T, bo_F, bo_e0, nI10, nI00, nI11, nI01, bo_e1, nem, eqL, af_v, af_0, rf_s, rf_n, nn, ite_self, h_isTown, h1, h2]
  · simp only [s94_0, s94_1, s94_4, s94_7, s94_8, s94_11, s94_14, s94_15, s94_16, s94_19, s94_21, s94_22, s94_23, s94_24, s94_26, s94_29, s94_32, s94_34, s94_35, s94_36, s94_39, s94_40, s94_41, s94_42, s94_45, ltI, geL, leL, not_true_eq_false, not_false_eq_true, if_true, if_false, and_self, and_true, true_and, and_false, false_and, or_self, or_true, true_or, or_false, false_or, bo_T, bo_F, bo_e0, nI10, nI00, nI11, nI01, bo_e1, nem, eqL, af_v, af_0, rf_s, rf_n, nn, ite_self, h_isTown, h1]
theorem c_road_2 (h1 : (nI 0 ≤ x ∧ x ≤ nI 5)) (h2 : (nI 0 ≤ y ∧ y ≤ nI 5)) (h3 : ¬ x = y) (h : ¬ (nI 0 ≤ z ∧ z ≤ nI 99)) : sm_ex (d + 3) 94 [.ref 0, .int x, .int y, .int z] 81 I L (pX sw) = some (some (.int (-102)), 81, I, L, pX sw) := by
  rw [e94]
  simp only [s94_0, s94_1, s94_4, s94_7, s94_8, s94_11, s94_14, s94_15, s94_16, s94_19, s94_21, s94_22, s94_23, s94_24, s94_26, s94_29, s94_32, s94_34, s94_35, s94_36, s94_39, s94_40, s94_41, s94_42, s94_45, ltI, geL, leL, not_true_eq_false, not_false_eq_true, if_true, if_false, and_self, and_true, true_and, and_false, false_and, or_self, or_true, true_or, or_false, false_or, bo_T, bo_F, bo_e0, nI10, nI00, nI11, nI01, bo_e1, nem, eqL, af_v, af_0, rf_s, rf_n, nn, ite_self, h_isTown, h_isWithin, h1, h2, h3, h]
theorem c_road_3 (ha : a < 6) (hb : b < 6) (hab : ¬ a = b) (hm : m ≤ 99) : sm_ex (d + 3) 94 [.ref 0, .int (nI a), .int (nI b), .int (nI m)] 81 I L (pX sw) = some (some (.int (I 8 (a * 6 + b))), 81, sm_up (sm_up I 8 (a * 6 + b) (nI m)) 8 (b * 6 + a) (nI m), L, pX sw) := by
  rw [e94]
  simp (discharger := (first | omega | decide | (simp only [ly0, p0_0, p0_1, p0_2, p0_3, p0_4, p0_5, p0_6, p0_7, p0_8, p0_9, ly7, p7_0, p7_1, p7_2, p7_3, ly8, al8]; omega))) only [s94_0, s94_1, s94_4, s94_7, s94_8, s94_11, s94_14, s94_15, s94_16, s94_19, s94_21, s94_22, s94_23, s94_24, s94_26, s94_29, s94_32, s94_34, s94_35, s94_36, s94_39, s94_40, s94_41, s94_42, s94_45, ltI, geL, leL, not_true_eq_false, not_false_eq_true, if_true, if_false, and_self, and_true, true_and, and_false, false_and, or_self, or_true, true_or, or_false, false_or, bo_T, bo_F, bo_e0, nI10, nI00, nI11, nI01, bo_e1, nem, eqL, af_v, af_0, rf_s, rf_n, nn, ite_self, ly0, p0_0, p0_1, p0_2, p0_3, p0_4, p0_5, p0_6, p0_7, p0_8, p0_9, ly7, p7_0, p7_1, p7_2, p7_3, ly8, al8, h_isTown, h_isWithin, c_setRoad, ixt, eqN, hab]
theorem m_road_1 (h : ¬ ((nI 0 ≤ x ∧ x ≤ nI 5) ∧ (nI 0 ≤ y ∧ y ≤ nI 5) ∧ ¬ x = y)) : sm_ex (d + 3) 149 [.ref 63, .int x, .int y, .int z] 81 I L (pX sw) = some (some (.int (-101)), 81, I, L, pX sw) := by
  rw [e149]
  by_cases h1 : (nI 0 ≤ x ∧ x ≤ nI 5)
  · by_cases h2 : (nI 0 ≤ y ∧ y ≤ nI 5)
    · by_cases h3 : x = y
      · subst h3
        simp only [s149_0, s149_1, s149_4, s149_7, s149_8, s149_11, s149_14, s149_15, s149_16, s149_19, s149_21, s149_22, s149_23, s149_24, s149_25, s149_28, s149_31, s149_34, s149_36, s149_37, s149_38, s149_41, s149_43, s149_44, s149_45, s149_46, s149_47, s149_48, s149_50, s149_51, s149_54, s149_56, s149_57, s149_58, s149_59, s149_60, s149_61, s149_62, s149_63, s149_66, s149_68, s149_69, s149_70, s149_71, s149_72, s149_73, s149_74, s149_76, ltI, geL, leL, not_true_eq_false, not_false_eq_true, if_true, if_false, and_self, and_true, true_and, and_false, false_and, or_self, or_true, true_or, or_false, false_or, bo_T, bo_F, bo_e0, nI10, nI00, nI11, nI01, bo_e1, nem, eqL, af_v, af_0, rf_s, rf_n, nn, ite_self, m_isTown, h1]
      · exact absurd ⟨h1, h2, h3⟩ h
    · simp only [s149_0, s149_1, s149_4, s149_7, s149_8, s149_11, s149_14, s149_15, s149_16, s149_19, s149_21, s149_22, s149_23, s149_24, s149_25, s149_28, s149_31, s149_34, s149_36, s149_37, s149_38, s149_41, s149_43, s149_44, s149_45, s149_46, s149_47, s149_48, s149_50, s149_51, s149_54, s149_56, s149_57, s149_58, s149_59, s149_60, s149_61, s149_62, s149_63, s149_66, s149_68, s149_69, s149_70, s149_71, s149_72, s149_73, s149_74, s149_76, ltI, geL, leL, not_true_eq_false, not_false_eq_true, if_true, if_false, and_self, and_true, true_and, and_false, false_and, or_self, or_true, true_or, or_false, false_or, bo_T, bo_F, bo_e0, nI10, nI00, nI11, nI01, bo_e1, nem, eqL, af_v, af_0, rf_s, rf_n, nn, ite_self, m_isTown, h1, h2]
  · simp only [s149_0, s149_1, s149_4, s149_7, s149_8, s149_11, s149_14, s149_15, s149_16, s149_19, s149_21, s149_22, s149_23, s149_24, s149_25, s149_28, s149_31, s149_34, s149_36, s149_37, s149_38, s149_41, s149_43, s149_44, s149_45, s149_46, s149_47, s149_48, s149_50, s149_51, s149_54, s149_56, s149_57, s149_58, s149_59, s149_60, s149_61, s149_62, s149_63, s149_66, s149_68, s149_69, s149_70, s149_71, s149_72, s149_73, s149_74, s149_76, ltI, geL, leL, not_true_eq_false, not_false_eq_true, if_true, if_false, and_self, and_true, true_and, and_false, false_and, or_self, or_true, true_or, or_false, false_or, bo_T, bo_F, bo_e0, nI10, nI00, nI11, nI01, bo_e1, nem, eqL, af_v, af_0, rf_s, rf_n, nn, ite_self, m_isTown, h1]
theorem m_road_2 (h1 : (nI 0 ≤ x ∧ x ≤ nI 5)) (h2 : (nI 0 ≤ y ∧ y ≤ nI 5)) (h3 : ¬ x = y) (h : ¬ (nI 0 ≤ z ∧ z ≤ nI 99)) : sm_ex (d + 3) 149 [.ref 63, .int x, .int y, .int z] 81 I L (pX sw) = some (some (.int (-102)), 81, I, L, pX sw) := by
  rw [e149]
  simp only [s149_0, s149_1, s149_4, s149_7, s149_8, s149_11, s149_14, s149_15, s149_16, s149_19, s149_21, s149_22, s149_23, s149_24, s149_25, s149_28, s149_31, s149_34, s149_36, s149_37, s149_38, s149_41, s149_43, s149_44, s149_45, s149_46, s149_47, s149_48, s149_50, s149_51, s149_54, s149_56, s149_57, s149_58, s149_59, s149_60, s149_61, s149_62, s149_63, s149_66, s149_68, s149_69, s149_70, s149_71, s149_72, s149_73, s149_74, s149_76, ltI, geL, leL, not_true_eq_false, not_false_eq_true, if_true, if_false, and_self, and_true, true_and, and_false, false_and, or_self, or_true, true_or, or_false, false_or, bo_T, bo_F, bo_e0, nI10, nI00, nI11, nI01, bo_e1, nem, eqL, af_v, af_0, rf_s, rf_n, nn, ite_self, m_isTown, m_in, wN 0 (by decide), wN 99 (by decide), wl, h1, h2, h3, h]
theorem m_road_3 (ha : a < 6) (hb : b < 6) (hab : ¬ a = b) (hm : m ≤ 99) : sm_ex (d + 3) 149 [.ref 63, .int (nI a), .int (nI b), .int (nI m)] 81 I L (pX sw) = some (some (.int (I 64 (6 * a + b))), 81, sm_up (sm_up I 64 (6 * a + b) (nI m)) 64 (6 * b + a) (nI m), L, pX sw) := by
  rw [e149]
  simp (discharger := (first | omega | decide | (simp only [ly63, p63_0, p63_1, p63_2, p63_7, p63_10, p63_11, p63_13, p63_14, p63_16, p63_18, p63_22, p63_23, p63_24, p63_30, p63_31, p63_32, p63_33, ly64, al64]; omega))) only [s149_0, s149_1, s149_4, s149_7, s149_8, s149_11, s149_14, s149_15, s149_16, s149_19, s149_21, s149_22, s149_23, s149_24, s149_25, s149_28, s149_31, s149_34, s149_36, s149_37, s149_38, s149_41, s149_43, s149_44, s149_45, s149_46, s149_47, s149_48, s149_50, s149_51, s149_54, s149_56, s149_57, s149_58, s149_59, s149_60, s149_61, s149_62, s149_63, s149_66, s149_68, s149_69, s149_70, s149_71, s149_72, s149_73, s149_74, s149_76, ltI, geL, leL, not_true_eq_false, not_false_eq_true, if_true, if_false, and_self, and_true, true_and, and_false, false_and, or_self, or_true, true_or, or_false, false_or, bo_T, bo_F, bo_e0, nI10, nI00, nI11, nI01, bo_e1, nem, eqL, af_v, af_0, rf_s, rf_n, nn, ite_self, ly63, p63_0, p63_1, p63_2, p63_7, p63_10, p63_11, p63_13, p63_14, p63_16, p63_18, p63_22, p63_23, p63_24, p63_30, p63_31, p63_32, p63_33, ly64, al64, m_isTown, m_in, wN 0 (by decide), wN 99 (by decide), wl, ixt, eqN, hab, mulN, addN, sm_cl]
end RD
