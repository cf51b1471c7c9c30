section BI
variable {d : Nat} {I : sm_Im} {L : sm_Lm} {sw : Bool} {x y z : Int32} {a b m n q kd am mn j : Nat} {w : Int64}
/-- a is a birth's cell, a + 1 its row of members -/
def BA (a : Nat) : Prop := a < 81 ∧ sm_lay a = .inl 0 ∧ (∀ sw, pX sw a 0 = some (a + 1)) ∧ a + 1 < 81 ∧ sm_al (a + 1) = 4
theorem BA_r {s : Bool} {k : Nat} (h : k < 5) : BA (rg s + 3 + 2 * k) := by
  have : ∀ s : Bool, ∀ k, k < 5 → (rg s + 3 + 2 * k) < 81 ∧ sm_lay (rg s + 3 + 2 * k) = .inl 0 ∧ (∀ sw, pX sw (rg s + 3 + 2 * k) 0 = some (rg s + 3 + 2 * k + 1)) ∧ rg s + 3 + 2 * k + 1 < 81 ∧ sm_al (rg s + 3 + 2 * k + 1) = 4 := by decide +kernel
  exact this s k h
theorem i_member_1 (A : BA a) (hm : I a 3 = nI mn) (hmn : mn ≤ 4) (hj : j < mn) : sm_ex (d + 1) 11 [.ref a, .int (nI j)] 81 I L (pX sw) = some (some (.int (I (a + 1) j)), 81, I, L, pX sw) := by
  obtain ⟨A1, A2, A3, A4, A5⟩ := A
  have c1 : ¬ mn ≤ j := by omega
  have c2 : ¬ 4 ≤ j := by omega
  rw [e11]
  simp (discharger := first | assumption | omega | decide) only [s11_0, s11_1, s11_4, s11_5, s11_6, s11_9, s11_12, s11_13, s11_14, s11_17, s11_18, s11_21, s11_22, s11_23, s11_26, s11_27, ltI, geL, leL, not_true_eq_false, not_false_eq_true, if_true, if_false, and_self, and_true, true_and, and_false, false_and, or_self, or_true, true_or, or_false, false_or, bo_T, bo_F, bo_e0, nI10, nI00, nI11, nI01, bo_e1, nem, eqL, af_v, af_0, rf_s, rf_n, nn, ite_self, le0, hm, leN, c1, c2, A1, A2, A3, A4, A5]
theorem i_member_2 (A : BA a) (hm : I a 3 = nI mn) (hmn : mn ≤ 4) (hj : mn ≤ j) (hj2 : j < 1000) : sm_ex (d + 1) 11 [.ref a, .int (nI j)] 81 I L (pX sw) = some (some (.int (-1)), 81, I, L, pX sw) := by
  obtain ⟨A1, A2, A3, A4, A5⟩ := A
  rw [e11]
  simp (discharger := first | assumption | omega | decide) only [s11_0, s11_1, s11_4, s11_5, s11_6, s11_9, s11_12, s11_13, s11_14, s11_17, s11_18, s11_21, s11_22, s11_23, s11_26, s11_27, ltI, geL, leL, not_true_eq_false, not_false_eq_true, if_true, if_false, and_self, and_true, true_and, and_false, false_and, or_self, or_true, true_or, or_false, false_or, bo_T, bo_F, bo_e0, nI10, nI00, nI11, nI01, bo_e1, nem, eqL, af_v, af_0, rf_s, rf_n, nn, ite_self, le0, hm, leN, hj, A1, A2]
theorem i_size (A : BA a) : sm_ex (d + 1) 8 [.ref a] 81 I L (pX sw) = some (some (.int (I a 3)), 81, I, L, pX sw) := by
  obtain ⟨A1, A2, A3, A4, A5⟩ := A
  rw [e8]
  simp only [s8_0, s8_1, s8_4, ltI, geL, leL, not_true_eq_false, not_false_eq_true, if_true, if_false, and_self, and_true, true_and, and_false, false_and, or_self, or_true, true_or, or_false, false_or, bo_T, bo_F, bo_e0, nI10, nI00, nI11, nI01, bo_e1, nem, eqL, af_v, af_0, rf_s, rf_n, nn, ite_self, A1, A2]
theorem i_isA (A : BA a) : sm_ex (d + 1) 7 [.ref a, .int x] 81 I L (pX sw) = some (some (.int (bo (x = 0 ∨ x = I a 1))), 81, I, L, pX sw) := by
  obtain ⟨A1, A2, A3, A4, A5⟩ := A
  rw [e7]
  by_cases h1 : x = 0 <;> by_cases h2 : x = I a 1 <;> simp only [s7_0, s7_1, s7_4, s7_5, s7_6, s7_9, s7_12, s7_13, s7_16, s7_17, ltI, geL, leL, not_true_eq_false, not_false_eq_true, if_true, if_false, and_self, and_true, true_and, and_false, false_and, or_self, or_true, true_or, or_false, false_or, bo_T, bo_F, bo_e0, nI10, nI00, nI11, nI01, bo_e1, nem, eqL, af_v, af_0, rf_s, rf_n, nn, ite_self, A1, A2, h1, h2]
theorem i_tenths (A : BA a) : sm_ex (d + 1) 9 [.ref a] 81 I L (pX sw) = some (some (.int (if I a 1 = nI 2 then I a 2 else nI 10)), 81, I, L, pX sw) := by
  obtain ⟨A1, A2, A3, A4, A5⟩ := A
  rw [e9]
  by_cases h1 : I a 1 = nI 2 <;> simp only [s9_0, s9_1, s9_4, s9_5, s9_8, s9_9, s9_12, s9_15, s9_17, ltI, geL, leL, not_true_eq_false, not_false_eq_true, if_true, if_false, and_self, and_true, true_and, and_false, false_and, or_self, or_true, true_or, or_false, false_or, bo_T, bo_F, bo_e0, nI10, nI00, nI11, nI01, bo_e1, nem, eqL, af_v, af_0, rf_s, rf_n, nn, ite_self, A1, A2, h1]
theorem i_isWhole (A : BA a) : sm_ex (d + 1) 6 [.ref a] 81 I L (pX sw) = some (some (.int (bo ((if I a 1 = nI 1 then nI 3 else nI 2) ≤ I a 3))), 81, I, L, pX sw) := by
  obtain ⟨A1, A2, A3, A4, A5⟩ := A
  rw [e6]
  by_cases h1 : I a 1 = nI 1
  · by_cases h2 : nI 3 ≤ I a 3 <;> simp only [s6_0, s6_1, s6_4, s6_5, s6_8, s6_9, s6_12, s6_13, s6_16, s6_17, s6_20, s6_21, s6_24, s6_25, ltI, geL, leL, not_true_eq_false, not_false_eq_true, if_true, if_false, and_self, and_true, true_and, and_false, false_and, or_self, or_true, true_or, or_false, false_or, bo_T, bo_F, bo_e0, nI10, nI00, nI11, nI01, bo_e1, nem, eqL, af_v, af_0, rf_s, rf_n, nn, ite_self, A1, A2, h1, h2]
  · by_cases h2 : nI 2 ≤ I a 3 <;> simp only [s6_0, s6_1, s6_4, s6_5, s6_8, s6_9, s6_12, s6_13, s6_16, s6_17, s6_20, s6_21, s6_24, s6_25, ltI, geL, leL, not_true_eq_false, not_false_eq_true, if_true, if_false, and_self, and_true, true_and, and_false, false_and, or_self, or_true, true_or, or_false, false_or, bo_T, bo_F, bo_e0, nI10, nI00, nI11, nI01, bo_e1, nem, eqL, af_v, af_0, rf_s, rf_n, nn, ite_self, A1, A2, h1, h2]
theorem i_needsAmount (A : BA a) : sm_ex (d + 1) 3 [.ref a] 81 I L (pX sw) = some (some (.int (bo ((I a 1 = nI 2 ∨ I a 1 = nI 3) ∧ I a 2 = 0))), 81, I, L, pX sw) := by
  obtain ⟨A1, A2, A3, A4, A5⟩ := A
  rw [e3]
  by_cases h1 : I a 1 = nI 2 <;> by_cases h2 : I a 1 = nI 3 <;> by_cases h3 : I a 2 = 0 <;> simp only [s3_0, s3_1, s3_4, s3_5, s3_8, s3_9, s3_12, s3_13, s3_16, s3_17, s3_20, s3_23, s3_24, s3_27, s3_28, ltI, geL, leL, not_true_eq_false, not_false_eq_true, if_true, if_false, and_self, and_true, true_and, and_false, false_and, or_self, or_true, true_or, or_false, false_or, bo_T, bo_F, bo_e0, nI10, nI00, nI11, nI01, bo_e1, nem, eqL, af_v, af_0, rf_s, rf_n, nn, ite_self, A1, A2, h1, h2, h3]
theorem i_takeAmount (A : BA a) : sm_ex (d + 1) 4 [.ref a, .int x] 81 I L (pX sw) = some (some (.int (bo (¬ x = 0))), 81, sm_up I a 2 x, L, pX sw) := by
  obtain ⟨A1, A2, A3, A4, A5⟩ := A
  rw [e4]
  by_cases h1 : x = 0 <;> simp only [s4_0, s4_1, s4_2, s4_5, s4_6, s4_9, s4_10, s4_13, s4_14, ltI, geL, leL, not_true_eq_false, not_false_eq_true, if_true, if_false, and_self, and_true, true_and, and_false, false_and, or_self, or_true, true_or, or_false, false_or, bo_T, bo_F, bo_e0, nI10, nI00, nI11, nI01, bo_e1, nem, eqL, af_v, af_0, rf_s, rf_n, nn, ite_self, A1, A2, h1]
theorem i_begin (A : BA a) : sm_ex (d + 1) 1 [.ref a] 81 I L (pX sw) = some (none, 81, sm_up (sm_up (sm_up I a 1 (nI 0)) a 2 (nI 0)) a 3 (nI 0), L, pX sw) := by
  obtain ⟨A1, A2, A3, A4, A5⟩ := A
  rw [e1]
  simp only [s1_0, s1_1, s1_2, s1_5, s1_6, s1_7, s1_10, s1_11, s1_12, s1_15, ltI, geL, leL, not_true_eq_false, not_false_eq_true, if_true, if_false, and_self, and_true, true_and, and_false, false_and, or_self, or_true, true_or, or_false, false_or, bo_T, bo_F, bo_e0, nI10, nI00, nI11, nI01, bo_e1, nem, eqL, af_v, af_0, rf_s, rf_n, nn, ite_self, A1, A2]
theorem i_takeSign (A : BA a) : sm_ex (d + 1) 2 [.ref a, .int x] 81 I L (pX sw) = if I a 1 = 0 ∧ I a 3 = 0 then some (some (.int (nI 1)), 81, sm_up I a 1 x, L, pX sw) else some (some (.int (nI 0)), 81, I, L, pX sw) := by
  obtain ⟨A1, A2, A3, A4, A5⟩ := A
  rw [e2]
  by_cases h1 : I a 1 = 0 <;> by_cases h3 : I a 3 = 0 <;> simp only [s2_0, s2_1, s2_4, s2_7, s2_8, s2_11, s2_14, s2_15, s2_16, s2_17, s2_18, s2_21, s2_22, ltI, geL, leL, not_true_eq_false, not_false_eq_true, if_true, if_false, and_self, and_true, true_and, and_false, false_and, or_self, or_true, true_or, or_false, false_or, bo_T, bo_F, bo_e0, nI10, nI00, nI11, nI01, bo_e1, nem, eqL, af_v, af_0, rf_s, rf_n, nn, ite_self, A1, A2, h1, h3]
theorem i_takePerson (A : BA a) (hm : I a 3 = nI mn) (hmn : mn ≤ 4) : sm_ex (d + 1) 5 [.ref a, .int x] 81 I L (pX sw) = if mn < (if I a 1 = nI 1 then 4 else 2) then some (some (.int (nI 1)), 81, sm_up (sm_up I (a + 1) mn x) a 3 (nI (mn + 1)), L, pX sw) else some (some (.int (nI 0)), 81, I, L, pX sw) := by
  obtain ⟨A1, A2, A3, A4, A5⟩ := A
  rw [e5]
  have e3 : sm_up I (a + 1) mn x a 3 = nI mn := by rw [up_row (by omega)]; exact hm
  by_cases h1 : I a 1 = nI 1
  · by_cases h2 : 4 ≤ mn
    · have c : ¬ mn < 4 := by omega
      simp (discharger := first | assumption | omega | decide) only [s5_0, s5_1, s5_4, s5_5, s5_8, s5_9, s5_12, s5_13, s5_14, s5_15, s5_18, s5_19, s5_22, s5_23, s5_24, s5_25, s5_28, s5_29, s5_32, s5_33, s5_34, s5_35, s5_36, s5_39, s5_40, s5_41, s5_44, s5_45, ltI, geL, leL, not_true_eq_false, not_false_eq_true, if_true, if_false, and_self, and_true, true_and, and_false, false_and, or_self, or_true, true_or, or_false, false_or, bo_T, bo_F, bo_e0, nI10, nI00, nI11, nI01, bo_e1, nem, eqL, af_v, af_0, rf_s, rf_n, nn, ite_self, A1, A2, A3, A4, A5, h1, hm, leN, h2, sm_cl, c]
    · have c : mn < 4 := by omega
      simp (discharger := first | assumption | omega | decide) only [s5_0, s5_1, s5_4, s5_5, s5_8, s5_9, s5_12, s5_13, s5_14, s5_15, s5_18, s5_19, s5_22, s5_23, s5_24, s5_25, s5_28, s5_29, s5_32, s5_33, s5_34, s5_35, s5_36, s5_39, s5_40, s5_41, s5_44, s5_45, ltI, geL, leL, not_true_eq_false, not_false_eq_true, if_true, if_false, and_self, and_true, true_and, and_false, false_and, or_self, or_true, true_or, or_false, false_or, bo_T, bo_F, bo_e0, nI10, nI00, nI11, nI01, bo_e1, nem, eqL, af_v, af_0, rf_s, rf_n, nn, ite_self, A1, A2, A3, A4, A5, h1, hm, leN, h2, sm_cl, addN, e3, c]
  · by_cases h2 : 2 ≤ mn
    · have c : ¬ mn < 2 := by omega
      simp (discharger := first | assumption | omega | decide) only [s5_0, s5_1, s5_4, s5_5, s5_8, s5_9, s5_12, s5_13, s5_14, s5_15, s5_18, s5_19, s5_22, s5_23, s5_24, s5_25, s5_28, s5_29, s5_32, s5_33, s5_34, s5_35, s5_36, s5_39, s5_40, s5_41, s5_44, s5_45, ltI, geL, leL, not_true_eq_false, not_false_eq_true, if_true, if_false, and_self, and_true, true_and, and_false, false_and, or_self, or_true, true_or, or_false, false_or, bo_T, bo_F, bo_e0, nI10, nI00, nI11, nI01, bo_e1, nem, eqL, af_v, af_0, rf_s, rf_n, nn, ite_self, A1, A2, A3, A4, A5, h1, hm, leN, h2, sm_cl, c]
    · have c : mn < 2 := by omega
      simp (discharger := first | assumption | omega | decide) only [s5_0, s5_1, s5_4, s5_5, s5_8, s5_9, s5_12, s5_13, s5_14, s5_15, s5_18, s5_19, s5_22, s5_23, s5_24, s5_25, s5_28, s5_29, s5_32, s5_33, s5_34, s5_35, s5_36, s5_39, s5_40, s5_41, s5_44, s5_45, ltI, geL, leL, not_true_eq_false, not_false_eq_true, if_true, if_false, and_self, and_true, true_and, and_false, false_and, or_self, or_true, true_or, or_false, false_or, bo_T, bo_F, bo_e0, nI10, nI00, nI11, nI01, bo_e1, nem, eqL, af_v, af_0, rf_s, rf_n, nn, ite_self, A1, A2, A3, A4, A5, h1, hm, leN, h2, sm_cl, addN, e3, c]
theorem i_fact (A : BA a) (hm : I a 3 = nI mn) (hmn : mn ≤ 4) (hj : j < 7) : sm_ex (d + 2) 10 [.ref a, .int (nI j)] 81 I L (pX sw) = some (some (.int (if j = 0 then I a 1 else if j = 1 then I a 3 else if j = 2 then I a 2 else if j < 3 + mn then I (a + 1) (j - 3) else -1)), 81, I, L, pX sw) := by
  have A0 := A
  obtain ⟨A1, A2, A3, A4, A5⟩ := A
  rw [e10]
  have e3 : ∀ k, nI (k + 3) - nI 3 = nI k := fun k => by rw [pk_sub (by omega), Nat.add_sub_cancel]
  rcases (show j = 0 ∨ j = 1 ∨ j = 2 ∨ ∃ k, j = k + 3 by rcases j with _ | _ | _ | k; exact Or.inl rfl; exact Or.inr (Or.inl rfl); exact Or.inr (Or.inr (Or.inl rfl)); exact Or.inr (Or.inr (Or.inr ⟨k, rfl⟩))) with rfl | rfl | rfl | ⟨k, rfl⟩
  · simp only [s10_0, s10_1_0, s10_1_1, s10_1_2, s10_1_d, s10_28, s10_29, s10_32, s10_33, s10_34, s10_37, s10_38, s10_39, s10_42, s10_43, s10_44, s10_45, s10_46, s10_47, s10_50, ltI, geL, leL, not_true_eq_false, not_false_eq_true, if_true, if_false, and_self, and_true, true_and, and_false, false_and, or_self, or_true, true_or, or_false, false_or, bo_T, bo_F, bo_e0, nI10, nI00, nI11, nI01, bo_e1, nem, eqL, af_v, af_0, rf_s, rf_n, nn, ite_self, A1, A2]
  · simp (decide := true) only [s10_0, s10_1_0, s10_1_1, s10_1_2, s10_1_d, s10_28, s10_29, s10_32, s10_33, s10_34, s10_37, s10_38, s10_39, s10_42, s10_43, s10_44, s10_45, s10_46, s10_47, s10_50, ltI, geL, leL, not_true_eq_false, not_false_eq_true, if_true, if_false, and_self, and_true, true_and, and_false, false_and, or_self, or_true, true_or, or_false, false_or, bo_T, bo_F, bo_e0, nI10, nI00, nI11, nI01, bo_e1, nem, eqL, af_v, af_0, rf_s, rf_n, nn, ite_self, A1, A2]
  · simp (decide := true) only [s10_0, s10_1_0, s10_1_1, s10_1_2, s10_1_d, s10_28, s10_29, s10_32, s10_33, s10_34, s10_37, s10_38, s10_39, s10_42, s10_43, s10_44, s10_45, s10_46, s10_47, s10_50, ltI, geL, leL, not_true_eq_false, not_false_eq_true, if_true, if_false, and_self, and_true, true_and, and_false, false_and, or_self, or_true, true_or, or_false, false_or, bo_T, bo_F, bo_e0, nI10, nI00, nI11, nI01, bo_e1, nem, eqL, af_v, af_0, rf_s, rf_n, nn, ite_self, A1, A2]
  · have t1 : (nI (k + 3)).toInt < 0 ∨ 2 < (nI (k + 3)).toInt := by rw [nI_toInt (by omega)]; omega
    rw [s10_0, s10_1_d t1]
    have c0 : ¬ k + 3 = 0 := by omega
    have c1 : ¬ k + 3 = 1 := by omega
    have c2 : ¬ k + 3 = 2 := by omega
    by_cases h : k < mn
    · have c3 : k + 3 < 3 + mn := by omega
      simp only [s10_0, s10_1_0, s10_1_1, s10_1_2, s10_1_d, s10_28, s10_29, s10_32, s10_33, s10_34, s10_37, s10_38, s10_39, s10_42, s10_43, s10_44, s10_45, s10_46, s10_47, s10_50, ltI, geL, leL, not_true_eq_false, not_false_eq_true, if_true, if_false, and_self, and_true, true_and, and_false, false_and, or_self, or_true, true_or, or_false, false_or, bo_T, bo_F, bo_e0, nI10, nI00, nI11, nI01, bo_e1, nem, eqL, af_v, af_0, rf_s, rf_n, nn, ite_self, A1, A2, e3, i_member_1 A0 hm hmn h, c0, c1, c2, c3, Nat.add_sub_cancel]
    · have c3 : ¬ k + 3 < 3 + mn := by omega
      simp only [s10_0, s10_1_0, s10_1_1, s10_1_2, s10_1_d, s10_28, s10_29, s10_32, s10_33, s10_34, s10_37, s10_38, s10_39, s10_42, s10_43, s10_44, s10_45, s10_46, s10_47, s10_50, ltI, geL, leL, not_true_eq_false, not_false_eq_true, if_true, if_false, and_self, and_true, true_and, and_false, false_and, or_self, or_true, true_or, or_false, false_or, bo_T, bo_F, bo_e0, nI10, nI00, nI11, nI01, bo_e1, nem, eqL, af_v, af_0, rf_s, rf_n, nn, ite_self, A1, A2, e3, i_member_2 A0 hm hmn (show mn ≤ k by omega) (by omega), c0, c1, c2, c3]
end BI
