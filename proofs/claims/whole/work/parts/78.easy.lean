section EZ
variable {d : Nat} {I : sm_Im} {L : sm_Lm} {sw : Bool} {x y z u v : Int32} {a b m n q kd am mn j p k nb t f : Nat} {w : Int64} {β τ : Nat → Nat → Nat} {r : Nat → Nat}
theorem tabd {n : Nat} (hn : n < 2147483647) (h : ¬ (nI 0 ≤ x ∧ x ≤ nI n)) : x.toInt < 0 ∨ (n : Int) < x.toInt := by
  rw [Int32.le_iff_toInt_le, Int32.le_iff_toInt_le, nI_toInt (by omega), nI_toInt (by omega)] at h
  omega
theorem inb (hn : nb < 2147483647) : (nI 0 ≤ x ∧ x ≤ nI nb - nI 1) = (0 ≤ x ∧ ¬ nI nb ≤ x) := by
  rw [eq_iff_iff, show nI 0 = 0 from rfl]
  refine and_congr_right fun h0 => ?_
  by_cases h : nb = 0
  · subst h
    have e1 : (nI 0 - nI 1 : Int32) = -1 := by decide
    have e : (-1 : Int32).toInt = -1 := by decide
    have e0 : (0 : Int32).toInt = 0 := by decide
    rw [e1, Int32.le_iff_toInt_le, Int32.le_iff_toInt_le, nI_toInt (by omega)]
    rw [Int32.le_iff_toInt_le] at h0
    omega
  · rw [subN (by omega), Int32.le_iff_toInt_le, Int32.le_iff_toInt_le, nI_toInt (by omega), nI_toInt (by omega)]; omega
theorem ixb (x : Int32) (nb : Nat) (hn : nb < 2147483647) : (∃ k, k < nb ∧ x = nI k) ∨ ¬ (0 ≤ x ∧ ¬ nI nb ≤ x) := by
  by_cases h : 0 ≤ x ∧ ¬ nI nb ≤ x
  · left
    rw [← inb hn] at h
    by_cases h0 : nb = 0
    · subst h0
      exfalso
      have h1 := Int32.le_trans h.1 h.2
      revert h1; decide
    · rw [subN (by omega)] at h
      rcases ix x (nb - 1) (by omega) with q | ⟨k, h1, h2⟩
      · exact absurd h q
      · exact ⟨k, by omega, h2⟩
  · exact Or.inr h
theorem inbt (hk : k < nb) (hn : nb < 2147483647) : (0 ≤ nI k ∧ ¬ nI nb ≤ nI k) = True := by
  rw [le0 (by omega), leN (by omega) (by omega)]
  simp; omega
theorem rg_lt : rg sw < 81 := (RA_rg sw).1
theorem rg_ly : sm_lay (rg sw) = .inl 6 := (RA_rg sw).2.1
/-- a fact of a birth -/
def bf (β : Nat → Nat → Nat) (k j : Nat) : Int32 := if j = 0 then nI (β 1 k) else if j = 1 then nI (β 3 k) else if j = 2 then nI (β 2 k) else if j < 3 + β 3 k then nI (β (6 + k) (j - 3)) else -1
theorem bf_m (R : RMB I β) (B : BOk β) (hk : k < β 0 0) (hj : j < 7) : I 68 (7 * k + j) = bf β k j := by
  obtain ⟨R1, R2, R3⟩ := R
  obtain ⟨q1, q2, q3, q4, q5⟩ := R2 k hk
  unfold bf
  rcases (show j = 0 ∨ j = 1 ∨ j = 2 ∨ 3 ≤ j by omega) with rfl | rfl | rfl | h
  · rw [if_pos rfl]; exact q1
  · rw [if_neg (by decide), if_pos rfl]; exact q2
  · rw [if_neg (by decide), if_neg (by decide), if_pos rfl]; exact q3
  · rw [if_neg (by omega), if_neg (by omega), if_neg (by omega)]
    have e : 7 * k + j = 7 * k + 3 + (j - 3) := by omega
    rw [e]
    by_cases c : j < 3 + β 3 k
    · rw [if_pos c]; exact q4 _ (by omega)
    · rw [if_neg c]; exact q5 _ (by omega) (by omega)
theorem c_birth_1 (R : RB (rg sw) I β) (B : BOk β) (h : ¬ (0 ≤ x ∧ ¬ nI (β 0 0) ≤ x)) : sm_ex (d + 4) 100 [.ref 0, .int x, .int y] 81 I L (pX sw) = some (some (.int (-101)), 81, I, L, pX sw) := by
  rw [e100]
  simp (discharger := (first | omega | decide | assumption | exact rg_lt | exact rg_ly | (simp only [ly0, p0_0, p0_1, p0_2, p0_3, p0_4, p0_5, p0_6, p0_7, p0_8, p0_9]; omega))) only [s100_0, s100_1, s100_4, s100_5, s100_8, s100_8n, s100_9, s100_9n, s100_10, s100_10n, s100_13, s100_15, s100_16, s100_17, s100_18, s100_20, s100_23, s100_26, s100_28, s100_29, s100_29n, s100_30, s100_31, s100_34, ltI, geL, leL, not_true_eq_false, not_false_eq_true, if_true, if_false, and_self, and_true, true_and, and_false, false_and, or_self, or_true, true_or, or_false, false_or, bo_T, bo_F, bo_e0, nI10, nI00, nI11, nI01, bo_e1, nem, eqL, af_v, af_0, rf_s, rf_n, nn, ite_self, ly0, p0_0, p0_1, p0_2, p0_3, p0_4, p0_5, p0_6, p0_7, p0_8, p0_9, r_find_2 (RA_rg sw) R.1 B.1 h, sm_cl]
theorem c_birth_2 (R : RB (rg sw) I β) (B : BOk β) (hk : k < β 0 0) (h : ¬ (nI 0 ≤ y ∧ y ≤ nI 6)) : sm_ex (d + 4) 100 [.ref 0, .int (nI k), .int y] 81 I L (pX sw) = some (some (.int (-102)), 81, I, L, pX sw) := by
  rw [e100]
  simp (discharger := (first | omega | decide | assumption | exact rg_lt | exact rg_ly | (simp only [ly0, p0_0, p0_1, p0_2, p0_3, p0_4, p0_5, p0_6, p0_7, p0_8, p0_9]; omega))) only [s100_0, s100_1, s100_4, s100_5, s100_8, s100_8n, s100_9, s100_9n, s100_10, s100_10n, s100_13, s100_15, s100_16, s100_17, s100_18, s100_20, s100_23, s100_26, s100_28, s100_29, s100_29n, s100_30, s100_31, s100_34, ltI, geL, leL, not_true_eq_false, not_false_eq_true, if_true, if_false, and_self, and_true, true_and, and_false, false_and, or_self, or_true, true_or, or_false, false_or, bo_T, bo_F, bo_e0, nI10, nI00, nI11, nI01, bo_e1, nem, eqL, af_v, af_0, rf_s, rf_n, nn, ite_self, ly0, p0_0, p0_1, p0_2, p0_3, p0_4, p0_5, p0_6, p0_7, p0_8, p0_9, r_find_1 (RA_rg sw) R.1 B.1 hk, sm_cl, h_isWithin, h]
theorem c_birth_3 (R : RB (rg sw) I β) (B : BOk β) (hk : k < β 0 0) (hj : j < 7) : sm_ex (d + 4) 100 [.ref 0, .int (nI k), .int (nI j)] 81 I L (pX sw) = some (some (.int (bf β k j)), 81, I, L, pX sw) := by
  have A := RA_rg sw
  obtain ⟨q1, q2, q3, q4⟩ := R.2.1 k hk
  obtain ⟨o1, o2, o3, o4, o5⟩ := B.2.1 k hk
  have B5 := B.1
  have A0 := A.2.2.2.2.2.2.2.2.2 k (by omega)
  have A1 := A0.1
  have A2 := A0.2.1
  have e : (if j = 0 then I (rg sw + 3 + 2 * k) 1 else if j = 1 then I (rg sw + 3 + 2 * k) 3 else if j = 2 then I (rg sw + 3 + 2 * k) 2 else if j < 3 + β 3 k then I (rg sw + 3 + 2 * k + 1) (j - 3) else -1) = bf β k j := by
    unfold bf
    rw [q1, q2, q3]
    by_cases c : j < 3 + β 3 k
    · by_cases c3 : 3 ≤ j
      · rw [q4 (j - 3) (by omega)]
      · rcases (show j = 0 ∨ j = 1 ∨ j = 2 by omega) with rfl | rfl | rfl <;> rfl
    · simp only [if_neg c]
  rw [e100]
  simp (discharger := (first | omega | decide | assumption | exact rg_lt | exact rg_ly | (simp only [ly0, p0_0, p0_1, p0_2, p0_3, p0_4, p0_5, p0_6, p0_7, p0_8, p0_9]; omega))) only [s100_0, s100_1, s100_4, s100_5, s100_8, s100_8n, s100_9, s100_9n, s100_10, s100_10n, s100_13, s100_15, s100_16, s100_17, s100_18, s100_20, s100_23, s100_26, s100_28, s100_29, s100_29n, s100_30, s100_31, s100_34, ltI, geL, leL, not_true_eq_false, not_false_eq_true, if_true, if_false, and_self, and_true, true_and, and_false, false_and, or_self, or_true, true_or, or_false, false_or, bo_T, bo_F, bo_e0, nI10, nI00, nI11, nI01, bo_e1, nem, eqL, af_v, af_0, rf_s, rf_n, nn, ite_self, ly0, p0_0, p0_1, p0_2, p0_3, p0_4, p0_5, p0_6, p0_7, p0_8, p0_9, r_find_1 (RA_rg sw) R.1 B.1 hk, sm_cl, h_isWithin, ixt, i_fact A0 q3 o4 hj, A1, A2, e]
theorem m_birth_1 (R : RMB I β) (B : BOk β) (h : ¬ (0 ≤ x ∧ ¬ nI (β 0 0) ≤ x)) : sm_ex (d + 4) 159 [.ref 63, .int x, .int y] 81 I L (pX sw) = some (some (.int (-101)), 81, I, L, pX sw) := by
  have B5 := B.1
  rw [e159]
  simp (discharger := (first | omega | decide | assumption | exact rg_lt | exact rg_ly | (simp only [ly63, p63_0, p63_1, p63_2, p63_7, p63_10, p63_11, p63_13, p63_14, p63_16, p63_18, p63_22, p63_23, p63_24, p63_30, p63_31, p63_32, p63_33]; omega))) only [s159_0, s159_1, s159_2, s159_3, s159_4, s159_7, s159_8, s159_9, s159_10, s159_13, s159_16, s159_18, s159_19, s159_20, s159_21, s159_22, s159_25, s159_28, s159_31, s159_32, s159_35, s159_37, s159_38, s159_39, s159_40, s159_41, s159_42, s159_45, s159_47, ltI, geL, leL, not_true_eq_false, not_false_eq_true, if_true, if_false, and_self, and_true, true_and, and_false, false_and, or_self, or_true, true_or, or_false, false_or, bo_T, bo_F, bo_e0, nI10, nI00, nI11, nI01, bo_e1, nem, eqL, af_v, af_0, rf_s, rf_n, nn, ite_self, ly63, p63_0, p63_1, p63_2, p63_7, p63_10, p63_11, p63_13, p63_14, p63_16, p63_18, p63_22, p63_23, p63_24, p63_30, p63_31, p63_32, p63_33, R.1, m_in, wN 0 (by decide), wl, inb, h]
theorem m_birth_2 (R : RMB I β) (B : BOk β) (hk : k < β 0 0) (h : ¬ (nI 0 ≤ y ∧ y ≤ nI 6)) : sm_ex (d + 4) 159 [.ref 63, .int (nI k), .int y] 81 I L (pX sw) = some (some (.int (-102)), 81, I, L, pX sw) := by
  have B5 := B.1
  rw [e159]
  simp (discharger := (first | omega | decide | assumption | exact rg_lt | exact rg_ly | (simp only [ly63, p63_0, p63_1, p63_2, p63_7, p63_10, p63_11, p63_13, p63_14, p63_16, p63_18, p63_22, p63_23, p63_24, p63_30, p63_31, p63_32, p63_33]; omega))) only [s159_0, s159_1, s159_2, s159_3, s159_4, s159_7, s159_8, s159_9, s159_10, s159_13, s159_16, s159_18, s159_19, s159_20, s159_21, s159_22, s159_25, s159_28, s159_31, s159_32, s159_35, s159_37, s159_38, s159_39, s159_40, s159_41, s159_42, s159_45, s159_47, ltI, geL, leL, not_true_eq_false, not_false_eq_true, if_true, if_false, and_self, and_true, true_and, and_false, false_and, or_self, or_true, true_or, or_false, false_or, bo_T, bo_F, bo_e0, nI10, nI00, nI11, nI01, bo_e1, nem, eqL, af_v, af_0, rf_s, rf_n, nn, ite_self, ly63, p63_0, p63_1, p63_2, p63_7, p63_10, p63_11, p63_13, p63_14, p63_16, p63_18, p63_22, p63_23, p63_24, p63_30, p63_31, p63_32, p63_33, R.1, m_in, wN 0 (by decide), wN 6 (by decide), wl, inb, inbt hk, h]
theorem m_birth_3 (R : RMB I β) (B : BOk β) (hk : k < β 0 0) (hj : j < 7) : sm_ex (d + 4) 159 [.ref 63, .int (nI k), .int (nI j)] 81 I L (pX sw) = some (some (.int (bf β k j)), 81, I, L, pX sw) := by
  have B5 := B.1
  rw [e159]
  simp (discharger := (first | omega | decide | assumption | exact rg_lt | exact rg_ly | (simp only [ly63, p63_0, p63_1, p63_2, p63_7, p63_10, p63_11, p63_13, p63_14, p63_16, p63_18, p63_22, p63_23, p63_24, p63_30, p63_31, p63_32, p63_33, ly68, al68]; omega))) only [s159_0, s159_1, s159_2, s159_3, s159_4, s159_7, s159_8, s159_9, s159_10, s159_13, s159_16, s159_18, s159_19, s159_20, s159_21, s159_22, s159_25, s159_28, s159_31, s159_32, s159_35, s159_37, s159_38, s159_39, s159_40, s159_41, s159_42, s159_45, s159_47, ltI, geL, leL, not_true_eq_false, not_false_eq_true, if_true, if_false, and_self, and_true, true_and, and_false, false_and, or_self, or_true, true_or, or_false, false_or, bo_T, bo_F, bo_e0, nI10, nI00, nI11, nI01, bo_e1, nem, eqL, af_v, af_0, rf_s, rf_n, nn, ite_self, ly63, p63_0, p63_1, p63_2, p63_7, p63_10, p63_11, p63_13, p63_14, p63_16, p63_18, p63_22, p63_23, p63_24, p63_30, p63_31, p63_32, p63_33, ly68, al68, R.1, m_in, wN 0 (by decide), wN 6 (by decide), wl, inb, inbt hk, ixt, mulN, addN, bf_m R B hk hj]
theorem c_as_1 (R : RB (rg sw) I β) (B : BOk β) (h : ¬ (0 ≤ x ∧ ¬ nI (β 0 0) ≤ x)) : sm_ex (d + 4) 101 [.ref 0, .int x, .int y] 81 I L (pX sw) = some (some (.int (-101)), 81, I, L, pX sw) := by
  rw [e101]
  simp (discharger := (first | omega | decide | assumption | exact rg_lt | exact rg_ly | (simp only [ly0, p0_0, p0_1, p0_2, p0_3, p0_4, p0_5, p0_6, p0_7, p0_8, p0_9]; omega))) only [s101_0, s101_1, s101_4, s101_5, s101_8, s101_8n, s101_9, s101_9n, s101_10, s101_10n, s101_13, s101_15, s101_16, s101_17, s101_18, s101_19, s101_22, s101_25, s101_27, s101_28, s101_28n, s101_29, s101_30, s101_33, s101_36, s101_37, s101_40, s101_41, ltI, geL, leL, not_true_eq_false, not_false_eq_true, if_true, if_false, and_self, and_true, true_and, and_false, false_and, or_self, or_true, true_or, or_false, false_or, bo_T, bo_F, bo_e0, nI10, nI00, nI11, nI01, bo_e1, nem, eqL, af_v, af_0, rf_s, rf_n, nn, ite_self, ly0, p0_0, p0_1, p0_2, p0_3, p0_4, p0_5, p0_6, p0_7, p0_8, p0_9, r_find_2 (RA_rg sw) R.1 B.1 h, sm_cl]
theorem c_as_2 (R : RB (rg sw) I β) (B : BOk β) (hk : k < β 0 0) (h : ¬ (nI 0 ≤ y ∧ y ≤ nI 3)) : sm_ex (d + 4) 101 [.ref 0, .int (nI k), .int y] 81 I L (pX sw) = some (some (.int (-102)), 81, I, L, pX sw) := by
  rw [e101]
  simp (discharger := (first | omega | decide | assumption | exact rg_lt | exact rg_ly | (simp only [ly0, p0_0, p0_1, p0_2, p0_3, p0_4, p0_5, p0_6, p0_7, p0_8, p0_9]; omega))) only [s101_0, s101_1, s101_4, s101_5, s101_8, s101_8n, s101_9, s101_9n, s101_10, s101_10n, s101_13, s101_15, s101_16, s101_17, s101_18, s101_19, s101_22, s101_25, s101_27, s101_28, s101_28n, s101_29, s101_30, s101_33, s101_36, s101_37, s101_40, s101_41, ltI, geL, leL, not_true_eq_false, not_false_eq_true, if_true, if_false, and_self, and_true, true_and, and_false, false_and, or_self, or_true, true_or, or_false, false_or, bo_T, bo_F, bo_e0, nI10, nI00, nI11, nI01, bo_e1, nem, eqL, af_v, af_0, rf_s, rf_n, nn, ite_self, ly0, p0_0, p0_1, p0_2, p0_3, p0_4, p0_5, p0_6, p0_7, p0_8, p0_9, r_find_1 (RA_rg sw) R.1 B.1 hk, sm_cl, h_isWithin, h]
theorem c_as_3 (R : RB (rg sw) I β) (B : BOk β) (hk : k < β 0 0) (h : (nI 0 ≤ y ∧ y ≤ nI 3)) : sm_ex (d + 4) 101 [.ref 0, .int (nI k), .int y] 81 I L (pX sw) = some (some (.int (if y = 0 ∨ y = nI (β 1 k) then nI k else -1)), 81, I, L, pX sw) := by
  have A := RA_rg sw
  obtain ⟨q1, q2, q3, q4⟩ := R.2.1 k hk
  have B5 := B.1
  have A0 := A.2.2.2.2.2.2.2.2.2 k (by omega)
  have A1 := A0.1
  have A2 := A0.2.1
  rw [e101]
  by_cases c : y = 0 ∨ y = nI (β 1 k) <;> simp (discharger := (first | omega | decide | assumption | exact rg_lt | exact rg_ly | (simp only [ly0, p0_0, p0_1, p0_2, p0_3, p0_4, p0_5, p0_6, p0_7, p0_8, p0_9]; omega))) only [s101_0, s101_1, s101_4, s101_5, s101_8, s101_8n, s101_9, s101_9n, s101_10, s101_10n, s101_13, s101_15, s101_16, s101_17, s101_18, s101_19, s101_22, s101_25, s101_27, s101_28, s101_28n, s101_29, s101_30, s101_33, s101_36, s101_37, s101_40, s101_41, ltI, geL, leL, not_true_eq_false, not_false_eq_true, if_true, if_false, and_self, and_true, true_and, and_false, false_and, or_self, or_true, true_or, or_false, false_or, bo_T, bo_F, bo_e0, nI10, nI00, nI11, nI01, bo_e1, nem, eqL, af_v, af_0, rf_s, rf_n, nn, ite_self, ly0, p0_0, p0_1, p0_2, p0_3, p0_4, p0_5, p0_6, p0_7, p0_8, p0_9, r_find_1 (RA_rg sw) R.1 B.1 hk, sm_cl, h_isWithin, h, i_isA A0, A1, A2, q1, c]
theorem m_as_1 (R : RMB I β) (B : BOk β) (h : ¬ (0 ≤ x ∧ ¬ nI (β 0 0) ≤ x)) : sm_ex (d + 4) 160 [.ref 63, .int x, .int y] 81 I L (pX sw) = some (some (.int (-101)), 81, I, L, pX sw) := by
  have B5 := B.1
  rw [e160]
  simp (discharger := (first | omega | decide | assumption | exact rg_lt | exact rg_ly | (simp only [ly63, p63_0, p63_1, p63_2, p63_7, p63_10, p63_11, p63_13, p63_14, p63_16, p63_18, p63_22, p63_23, p63_24, p63_30, p63_31, p63_32, p63_33]; omega))) only [s160_0, s160_1, s160_2, s160_3, s160_4, s160_7, s160_8, s160_9, s160_10, s160_13, s160_16, s160_18, s160_19, s160_20, s160_21, s160_22, s160_25, s160_28, s160_31, s160_33, s160_34, s160_35, s160_38, s160_40, s160_41, s160_42, s160_43, s160_44, s160_45, s160_48, s160_49, s160_50, s160_53, s160_54, s160_57, s160_58, s160_60, s160_62, s160_65, s160_66, s160_69, s160_70, ltI, geL, leL, not_true_eq_false, not_false_eq_true, if_true, if_false, and_self, and_true, true_and, and_false, false_and, or_self, or_true, true_or, or_false, false_or, bo_T, bo_F, bo_e0, nI10, nI00, nI11, nI01, bo_e1, nem, eqL, af_v, af_0, rf_s, rf_n, nn, ite_self, ly63, p63_0, p63_1, p63_2, p63_7, p63_10, p63_11, p63_13, p63_14, p63_16, p63_18, p63_22, p63_23, p63_24, p63_30, p63_31, p63_32, p63_33, R.1, m_in, wN 0 (by decide), wl, inb, h]
theorem m_as_2 (R : RMB I β) (B : BOk β) (hk : k < β 0 0) (h : ¬ (nI 0 ≤ y ∧ y ≤ nI 3)) : sm_ex (d + 4) 160 [.ref 63, .int (nI k), .int y] 81 I L (pX sw) = some (some (.int (-102)), 81, I, L, pX sw) := by
  have B5 := B.1
  rw [e160]
  simp (discharger := (first | omega | decide | assumption | exact rg_lt | exact rg_ly | (simp only [ly63, p63_0, p63_1, p63_2, p63_7, p63_10, p63_11, p63_13, p63_14, p63_16, p63_18, p63_22, p63_23, p63_24, p63_30, p63_31, p63_32, p63_33]; omega))) only [s160_0, s160_1, s160_2, s160_3, s160_4, s160_7, s160_8, s160_9, s160_10, s160_13, s160_16, s160_18, s160_19, s160_20, s160_21, s160_22, s160_25, s160_28, s160_31, s160_33, s160_34, s160_35, s160_38, s160_40, s160_41, s160_42, s160_43, s160_44, s160_45, s160_48, s160_49, s160_50, s160_53, s160_54, s160_57, s160_58, s160_60, s160_62, s160_65, s160_66, s160_69, s160_70, ltI, geL, leL, not_true_eq_false, not_false_eq_true, if_true, if_false, and_self, and_true, true_and, and_false, false_and, or_self, or_true, true_or, or_false, false_or, bo_T, bo_F, bo_e0, nI10, nI00, nI11, nI01, bo_e1, nem, eqL, af_v, af_0, rf_s, rf_n, nn, ite_self, ly63, p63_0, p63_1, p63_2, p63_7, p63_10, p63_11, p63_13, p63_14, p63_16, p63_18, p63_22, p63_23, p63_24, p63_30, p63_31, p63_32, p63_33, R.1, m_in, wN 0 (by decide), wN 3 (by decide), wl, inb, inbt hk, h]
theorem m_as_3 (R : RMB I β) (B : BOk β) (hk : k < β 0 0) (h : (nI 0 ≤ y ∧ y ≤ nI 3)) : sm_ex (d + 4) 160 [.ref 63, .int (nI k), .int y] 81 I L (pX sw) = some (some (.int (if y = 0 ∨ y = nI (β 1 k) then nI k else -1)), 81, I, L, pX sw) := by
  have B5 := B.1
  obtain ⟨q1, q2, q3, q4, q5⟩ := R.2.1 k hk
  rw [e160]
  by_cases c1 : y = 0
  · have c1 := eq_true c1
    simp (discharger := (first | omega | decide | assumption | exact rg_lt | exact rg_ly | (simp only [ly63, p63_0, p63_1, p63_2, p63_7, p63_10, p63_11, p63_13, p63_14, p63_16, p63_18, p63_22, p63_23, p63_24, p63_30, p63_31, p63_32, p63_33, ly68, al68]; omega))) only [s160_0, s160_1, s160_2, s160_3, s160_4, s160_7, s160_8, s160_9, s160_10, s160_13, s160_16, s160_18, s160_19, s160_20, s160_21, s160_22, s160_25, s160_28, s160_31, s160_33, s160_34, s160_35, s160_38, s160_40, s160_41, s160_42, s160_43, s160_44, s160_45, s160_48, s160_49, s160_50, s160_53, s160_54, s160_57, s160_58, s160_60, s160_62, s160_65, s160_66, s160_69, s160_70, ltI, geL, leL, not_true_eq_false, not_false_eq_true, if_true, if_false, and_self, and_true, true_and, and_false, false_and, or_self, or_true, true_or, or_false, false_or, bo_T, bo_F, bo_e0, nI10, nI00, nI11, nI01, bo_e1, nem, eqL, af_v, af_0, rf_s, rf_n, nn, ite_self, ly63, p63_0, p63_1, p63_2, p63_7, p63_10, p63_11, p63_13, p63_14, p63_16, p63_18, p63_22, p63_23, p63_24, p63_30, p63_31, p63_32, p63_33, ly68, al68, R.1, m_in, wN 0 (by decide), wN 3 (by decide), wl, inb, inbt hk, h, mulN, q1, sm_cl, c1]
  · rcases Classical.em (y = nI (β 1 k)) with c2 | c2
    · have c2 := eq_true c2
      simp (discharger := (first | omega | decide | assumption | exact rg_lt | exact rg_ly | (simp only [ly63, p63_0, p63_1, p63_2, p63_7, p63_10, p63_11, p63_13, p63_14, p63_16, p63_18, p63_22, p63_23, p63_24, p63_30, p63_31, p63_32, p63_33, ly68, al68]; omega))) only [s160_0, s160_1, s160_2, s160_3, s160_4, s160_7, s160_8, s160_9, s160_10, s160_13, s160_16, s160_18, s160_19, s160_20, s160_21, s160_22, s160_25, s160_28, s160_31, s160_33, s160_34, s160_35, s160_38, s160_40, s160_41, s160_42, s160_43, s160_44, s160_45, s160_48, s160_49, s160_50, s160_53, s160_54, s160_57, s160_58, s160_60, s160_62, s160_65, s160_66, s160_69, s160_70, ltI, geL, leL, not_true_eq_false, not_false_eq_true, if_true, if_false, and_self, and_true, true_and, and_false, false_and, or_self, or_true, true_or, or_false, false_or, bo_T, bo_F, bo_e0, nI10, nI00, nI11, nI01, bo_e1, nem, eqL, af_v, af_0, rf_s, rf_n, nn, ite_self, ly63, p63_0, p63_1, p63_2, p63_7, p63_10, p63_11, p63_13, p63_14, p63_16, p63_18, p63_22, p63_23, p63_24, p63_30, p63_31, p63_32, p63_33, ly68, al68, R.1, m_in, wN 0 (by decide), wN 3 (by decide), wl, inb, inbt hk, h, mulN, q1, sm_cl, c1, c2]
    · simp (discharger := (first | omega | decide | assumption | exact rg_lt | exact rg_ly | (simp only [ly63, p63_0, p63_1, p63_2, p63_7, p63_10, p63_11, p63_13, p63_14, p63_16, p63_18, p63_22, p63_23, p63_24, p63_30, p63_31, p63_32, p63_33, ly68, al68]; omega))) only [s160_0, s160_1, s160_2, s160_3, s160_4, s160_7, s160_8, s160_9, s160_10, s160_13, s160_16, s160_18, s160_19, s160_20, s160_21, s160_22, s160_25, s160_28, s160_31, s160_33, s160_34, s160_35, s160_38, s160_40, s160_41, s160_42, s160_43, s160_44, s160_45, s160_48, s160_49, s160_50, s160_53, s160_54, s160_57, s160_58, s160_60, s160_62, s160_65, s160_66, s160_69, s160_70, ltI, geL, leL, not_true_eq_false, not_false_eq_true, if_true, if_false, and_self, and_true, true_and, and_false, false_and, or_self, or_true, true_or, or_false, false_or, bo_T, bo_F, bo_e0, nI10, nI00, nI11, nI01, bo_e1, nem, eqL, af_v, af_0, rf_s, rf_n, nn, ite_self, ly63, p63_0, p63_1, p63_2, p63_7, p63_10, p63_11, p63_13, p63_14, p63_16, p63_18, p63_22, p63_23, p63_24, p63_30, p63_31, p63_32, p63_33, ly68, al68, R.1, m_in, wN 0 (by decide), wN 3 (by decide), wl, inb, inbt hk, h, mulN, q1, sm_cl, c1, c2]
/-- what is told of a person -/
def ab (β τ : Nat → Nat → Nat) (t : Int32) (p j : Nat) : Int32 := if j = 0 then t else if j = 1 then (if β 4 p < β 0 0 then nI (β 4 p) else -1) else nI (cn (fun i => decide (τ 1 i = p)) (τ 0 0))
theorem c_about_1 (h : ¬ (nI 0 ≤ x ∧ x ≤ nI 9)) : sm_ex (d + 4) 102 [.ref 0, .int x, .int y] 81 I L (pX sw) = some (some (.int (-101)), 81, I, L, pX sw) := by
  rw [e102]
  simp only [s102_0, s102_1, s102_4, s102_7, s102_9, s102_10, s102_11_0, s102_11_1, s102_11_2, s102_11_d, s102_36, s102_37, s102_40, s102_41, s102_42, s102_43, s102_44, s102_47, s102_48, s102_51, s102_52, s102_53, s102_56, s102_57, s102_60, s102_61, s102_63, ltI, geL, leL, not_true_eq_false, not_false_eq_true, if_true, if_false, and_self, and_true, true_and, and_false, false_and, or_self, or_true, true_or, or_false, false_or, bo_T, bo_F, bo_e0, nI10, nI00, nI11, nI01, bo_e1, nem, eqL, af_v, af_0, rf_s, rf_n, nn, ite_self, h_isPerson, h]
theorem c_about_2 (h : (nI 0 ≤ x ∧ x ≤ nI 9)) (h2 : ¬ (nI 0 ≤ y ∧ y ≤ nI 2)) : sm_ex (d + 4) 102 [.ref 0, .int x, .int y] 81 I L (pX sw) = some (some (.int (-102)), 81, I, L, pX sw) := by
  rw [e102]
  have t1 := tabd (n := 2) (by decide) h2
  have t2 : y.toInt < 0 ∨ 2 < y.toInt := by omega
  simp (discharger := assumption) only [s102_0, s102_1, s102_4, s102_7, s102_9, s102_10, s102_11_0, s102_11_1, s102_11_2, s102_11_d, s102_36, s102_37, s102_40, s102_41, s102_42, s102_43, s102_44, s102_47, s102_48, s102_51, s102_52, s102_53, s102_56, s102_57, s102_60, s102_61, s102_63, ltI, geL, leL, not_true_eq_false, not_false_eq_true, if_true, if_false, and_self, and_true, true_and, and_false, false_and, or_self, or_true, true_or, or_false, false_or, bo_T, bo_F, bo_e0, nI10, nI00, nI11, nI01, bo_e1, nem, eqL, af_v, af_0, rf_s, rf_n, nn, ite_self, h_isPerson, h]
theorem c_about_3 (R : RB (rg sw) I β) (T : RTC I τ) (O : TOk τ) (hp : p < 10) (hj : j < 3) : sm_ex (d + 4) 102 [.ref 0, .int (nI p), .int (nI j)] 81 I L (pX sw) = some (some (.int (ab β τ (I 36 p) p j)), 81, I, L, pX sw) := by
  have A := RA_rg sw
  rw [e102]
  rcases (show j = 0 ∨ j = 1 ∨ j = 2 by omega) with rfl | rfl | rfl
  · simp (discharger := (first | omega | decide | assumption | exact rg_lt | exact rg_ly | (simp only [ly0, p0_0, p0_1, p0_2, p0_3, p0_4, p0_5, p0_6, p0_7, p0_8, p0_9, ly36, al36]; omega))) only [s102_0, s102_1, s102_4, s102_7, s102_9, s102_10, s102_11_0, s102_11_1, s102_11_2, s102_11_d, s102_36, s102_37, s102_40, s102_41, s102_42, s102_43, s102_44, s102_47, s102_48, s102_51, s102_52, s102_53, s102_56, s102_57, s102_60, s102_61, s102_63, ltI, geL, leL, not_true_eq_false, not_false_eq_true, if_true, if_false, and_self, and_true, true_and, and_false, false_and, or_self, or_true, true_or, or_false, false_or, bo_T, bo_F, bo_e0, nI10, nI00, nI11, nI01, bo_e1, nem, eqL, af_v, af_0, rf_s, rf_n, nn, ite_self, ly0, p0_0, p0_1, p0_2, p0_3, p0_4, p0_5, p0_6, p0_7, p0_8, p0_9, ly36, al36, h_isPerson, ixt, ab]
  · simp (decide := true) (discharger := (first | omega | decide | assumption | exact rg_lt | exact rg_ly | (simp only [ly0, p0_0, p0_1, p0_2, p0_3, p0_4, p0_5, p0_6, p0_7, p0_8, p0_9, ly36, al36]; omega))) only [s102_0, s102_1, s102_4, s102_7, s102_9, s102_10, s102_11_0, s102_11_1, s102_11_2, s102_11_d, s102_36, s102_37, s102_40, s102_41, s102_42, s102_43, s102_44, s102_47, s102_48, s102_51, s102_52, s102_53, s102_56, s102_57, s102_60, s102_61, s102_63, ltI, geL, leL, not_true_eq_false, not_false_eq_true, if_true, if_false, and_self, and_true, true_and, and_false, false_and, or_self, or_true, true_or, or_false, false_or, bo_T, bo_F, bo_e0, nI10, nI00, nI11, nI01, bo_e1, nem, eqL, af_v, af_0, rf_s, rf_n, nn, ite_self, ly0, p0_0, p0_1, p0_2, p0_3, p0_4, p0_5, p0_6, p0_7, p0_8, p0_9, ly36, al36, h_isPerson, ixt, ab, r_birthOf A hp, R.2.2 p hp]
  · simp (decide := true) (discharger := (first | omega | decide | assumption | exact rg_lt | exact rg_ly | (simp only [ly0, p0_0, p0_1, p0_2, p0_3, p0_4, p0_5, p0_6, p0_7, p0_8, p0_9, ly3, p3_0, p3_1, p3_2]; omega))) only [s102_0, s102_1, s102_4, s102_7, s102_9, s102_10, s102_11_0, s102_11_1, s102_11_2, s102_11_d, s102_36, s102_37, s102_40, s102_41, s102_42, s102_43, s102_44, s102_47, s102_48, s102_51, s102_52, s102_53, s102_56, s102_57, s102_60, s102_61, s102_63, ltI, geL, leL, not_true_eq_false, not_false_eq_true, if_true, if_false, and_self, and_true, true_and, and_false, false_and, or_self, or_true, true_or, or_false, false_or, bo_T, bo_F, bo_e0, nI10, nI00, nI11, nI01, bo_e1, nem, eqL, af_v, af_0, rf_s, rf_n, nn, ite_self, ly0, p0_0, p0_1, p0_2, p0_3, p0_4, p0_5, p0_6, p0_7, p0_8, p0_9, ly3, p3_0, p3_1, p3_2, h_isPerson, ixt, ab, c_ofPerson T O hp]
theorem m_tell (R : RMB I β) (T : RTM I τ) (O : TOk τ) (hp : p < 10) (hj : j < 3) : sm_ex (d + 3) 162 [.ref 63, .int (nI p), .int (nI j)] 81 I L (pX sw) = some (some (.int (ab β τ (I 65 p) p j)), 81, I, L, pX sw) := by
  rw [e162]
  rcases (show j = 0 ∨ j = 1 ∨ j = 2 by omega) with rfl | rfl | rfl
  · simp (discharger := (first | omega | decide | assumption | exact rg_lt | exact rg_ly | (simp only [ly63, p63_0, p63_1, p63_2, p63_7, p63_10, p63_11, p63_13, p63_14, p63_16, p63_18, p63_22, p63_23, p63_24, p63_30, p63_31, p63_32, p63_33, ly65, al65]; omega))) only [s162_0, s162_1, s162_4, s162_5, s162_8, s162_9, s162_10, s162_13, s162_14, s162_15, s162_18, s162_19, s162_22, s162_23, s162_24, s162_27, s162_28, s162_29, s162_32, s162_33, s162_34, s162_35, s162_38, s162_41, s162_44, s162_46, ltI, geL, leL, not_true_eq_false, not_false_eq_true, if_true, if_false, and_self, and_true, true_and, and_false, false_and, or_self, or_true, true_or, or_false, false_or, bo_T, bo_F, bo_e0, nI10, nI00, nI11, nI01, bo_e1, nem, eqL, af_v, af_0, rf_s, rf_n, nn, ite_self, ly63, p63_0, p63_1, p63_2, p63_7, p63_10, p63_11, p63_13, p63_14, p63_16, p63_18, p63_22, p63_23, p63_24, p63_30, p63_31, p63_32, p63_33, ly65, al65, ab]
  · simp (decide := true) (discharger := (first | omega | decide | assumption | exact rg_lt | exact rg_ly | (simp only [ly63, p63_0, p63_1, p63_2, p63_7, p63_10, p63_11, p63_13, p63_14, p63_16, p63_18, p63_22, p63_23, p63_24, p63_30, p63_31, p63_32, p63_33, ly69, al69]; omega))) only [s162_0, s162_1, s162_4, s162_5, s162_8, s162_9, s162_10, s162_13, s162_14, s162_15, s162_18, s162_19, s162_22, s162_23, s162_24, s162_27, s162_28, s162_29, s162_32, s162_33, s162_34, s162_35, s162_38, s162_41, s162_44, s162_46, ltI, geL, leL, not_true_eq_false, not_false_eq_true, if_true, if_false, and_self, and_true, true_and, and_false, false_and, or_self, or_true, true_or, or_false, false_or, bo_T, bo_F, bo_e0, nI10, nI00, nI11, nI01, bo_e1, nem, eqL, af_v, af_0, rf_s, rf_n, nn, ite_self, ly63, p63_0, p63_1, p63_2, p63_7, p63_10, p63_11, p63_13, p63_14, p63_16, p63_18, p63_22, p63_23, p63_24, p63_30, p63_31, p63_32, p63_33, ly69, al69, ab, R.2.2 p hp]
  · have e2 : (nI 2 = nI 1) = False := by decide
    have e1 : (nI 2 = 0) = False := by decide
    simp (decide := true) (discharger := (first | omega | decide | assumption | exact rg_lt | exact rg_ly | (simp only [ly63, p63_0, p63_1, p63_2, p63_7, p63_10, p63_11, p63_13, p63_14, p63_16, p63_18, p63_22, p63_23, p63_24, p63_30, p63_31, p63_32, p63_33]; omega))) only [s162_0, s162_1, s162_4, s162_5, s162_8, s162_9, s162_10, s162_13, s162_14, s162_15, s162_18, s162_19, s162_22, s162_23, s162_24, s162_27, s162_28, s162_29, s162_32, s162_33, s162_34, s162_35, s162_38, s162_41, s162_44, s162_46, ltI, geL, leL, not_true_eq_false, not_false_eq_true, if_true, if_false, and_self, and_true, true_and, and_false, false_and, or_self, or_true, true_or, or_false, false_or, bo_T, bo_F, bo_e0, nI10, nI00, nI11, nI01, bo_e1, nem, eqL, af_v, af_0, rf_s, rf_n, nn, ite_self, ly63, p63_0, p63_1, p63_2, p63_7, p63_10, p63_11, p63_13, p63_14, p63_16, p63_18, p63_22, p63_23, p63_24, p63_30, p63_31, p63_32, p63_33, ab, T.1, m_touchedBy T O hp (Nat.le_refl _), e1, e2]
theorem m_about_1 (h : ¬ (nI 0 ≤ x ∧ x ≤ nI 9)) : sm_ex (d + 4) 163 [.ref 63, .int x, .int y] 81 I L (pX sw) = some (some (.int (-101)), 81, I, L, pX sw) := by
  rw [e163]
  simp only [s163_0, s163_1, s163_4, s163_7, s163_8, s163_9, s163_10, s163_13, s163_16, s163_18, ltI, geL, leL, not_true_eq_false, not_false_eq_true, if_true, if_false, and_self, and_true, true_and, and_false, false_and, or_self, or_true, true_or, or_false, false_or, bo_T, bo_F, bo_e0, nI10, nI00, nI11, nI01, bo_e1, nem, eqL, af_v, af_0, rf_s, rf_n, nn, ite_self, m_isPerson, h]
theorem m_about_2 (h : (nI 0 ≤ x ∧ x ≤ nI 9)) (h2 : ¬ (nI 0 ≤ y ∧ y ≤ nI 2)) : sm_ex (d + 4) 163 [.ref 63, .int x, .int y] 81 I L (pX sw) = some (some (.int (-102)), 81, I, L, pX sw) := by
  have e0 : ¬ y = 0 := fun e => h2 (by subst e; decide)
  have e1 : ¬ y = nI 1 := fun e => h2 (by subst e; decide)
  have e2 : ¬ y = nI 2 := fun e => h2 (by subst e; decide)
  have key : sm_ex (d + 3) 162 [.ref 63, .int x, .int y] 81 I L (pX sw) = some (some (.int (-102)), 81, I, L, pX sw) := by
    rw [e162]
    simp only [s162_0, s162_1, s162_4, s162_5, s162_8, s162_9, s162_10, s162_13, s162_14, s162_15, s162_18, s162_19, s162_22, s162_23, s162_24, s162_27, s162_28, s162_29, s162_32, s162_33, s162_34, s162_35, s162_38, s162_41, s162_44, s162_46, ltI, geL, leL, not_true_eq_false, not_false_eq_true, if_true, if_false, and_self, and_true, true_and, and_false, false_and, or_self, or_true, true_or, or_false, false_or, bo_T, bo_F, bo_e0, nI10, nI00, nI11, nI01, bo_e1, nem, eqL, af_v, af_0, rf_s, rf_n, nn, ite_self, e0, e1, e2]
  rw [e163]
  simp (discharger := (first | omega | decide | assumption | exact rg_lt | exact rg_ly | (simp only [ly63, p63_0, p63_1, p63_2, p63_7, p63_10, p63_11, p63_13, p63_14, p63_16, p63_18, p63_22, p63_23, p63_24, p63_30, p63_31, p63_32, p63_33]; omega))) only [s163_0, s163_1, s163_4, s163_7, s163_8, s163_9, s163_10, s163_13, s163_16, s163_18, ltI, geL, leL, not_true_eq_false, not_false_eq_true, if_true, if_false, and_self, and_true, true_and, and_false, false_and, or_self, or_true, true_or, or_false, false_or, bo_T, bo_F, bo_e0, nI10, nI00, nI11, nI01, bo_e1, nem, eqL, af_v, af_0, rf_s, rf_n, nn, ite_self, ly63, p63_0, p63_1, p63_2, p63_7, p63_10, p63_11, p63_13, p63_14, p63_16, p63_18, p63_22, p63_23, p63_24, p63_30, p63_31, p63_32, p63_33, m_isPerson, h, key]
theorem m_about_3 (R : RMB I β) (T : RTM I τ) (O : TOk τ) (hp : p < 10) (hj : j < 3) : sm_ex (d + 4) 163 [.ref 63, .int (nI p), .int (nI j)] 81 I L (pX sw) = some (some (.int (ab β τ (I 65 p) p j)), 81, I, L, pX sw) := by
  rw [e163]
  simp (discharger := (first | omega | decide | assumption | exact rg_lt | exact rg_ly | (simp only [ly63, p63_0, p63_1, p63_2, p63_7, p63_10, p63_11, p63_13, p63_14, p63_16, p63_18, p63_22, p63_23, p63_24, p63_30, p63_31, p63_32, p63_33]; omega))) only [s163_0, s163_1, s163_4, s163_7, s163_8, s163_9, s163_10, s163_13, s163_16, s163_18, ltI, geL, leL, not_true_eq_false, not_false_eq_true, if_true, if_false, and_self, and_true, true_and, and_false, false_and, or_self, or_true, true_or, or_false, false_or, bo_T, bo_F, bo_e0, nI10, nI00, nI11, nI01, bo_e1, nem, eqL, af_v, af_0, rf_s, rf_n, nn, ite_self, m_isPerson, ixt, m_tell R T O hp hj]
/-- roads that are -/
def rcA (r : Nat → Nat) : Nat → Nat
  | 0 => 0
  | n + 1 => rcA r n + (if r n = 0 then 0 else 1)
def rcB (r : Nat → Nat) : Nat → Nat
  | 0 => 0
  | n + 1 => rcB r n + (if n / 6 < n % 6 then (if r n = 0 then 0 else 1) else 0)
theorem rcA_le (r : Nat → Nat) : ∀ n, rcA r n ≤ n := by
  intro n
  induction n with
  | zero => exact Nat.le_refl _
  | succ n ih => show rcA r n + _ ≤ _; split <;> omega
theorem rcB_le (r : Nat → Nat) : ∀ n, rcB r n ≤ n := by
  intro n
  induction n with
  | zero => exact Nat.le_refl _
  | succ n ih => show rcB r n + _ ≤ _; split <;> (try split) <;> omega
theorem rc_same (h2 : ∀ a b, a < 6 → b < 6 → r (6 * a + b) = r (6 * b + a)) (h3 : ∀ a, a < 6 → r (7 * a) = 0) : rcA r 36 / 2 = rcB r 36 := by
  have e : rcA r 36 = 2 * rcB r 36 := by
    simp (decide := true) only [rcA, rcB, if_true, if_false]
    have s : ∀ a b, a < 6 → b < 6 → (if r (6 * a + b) = 0 then 0 else 1) = (if r (6 * b + a) = 0 then 0 else 1) := fun a b ha hb => by rw [h2 a b ha hb]
    have z : ∀ a, a < 6 → (if r (7 * a) = 0 then 0 else 1) = 0 := fun a ha => by rw [h3 a ha]; rfl
    have s01 := s 0 1 (by decide) (by decide)
    have s02 := s 0 2 (by decide) (by decide)
    have s03 := s 0 3 (by decide) (by decide)
    have s04 := s 0 4 (by decide) (by decide)
    have s05 := s 0 5 (by decide) (by decide)
    have s12 := s 1 2 (by decide) (by decide)
    have s13 := s 1 3 (by decide) (by decide)
    have s14 := s 1 4 (by decide) (by decide)
    have s15 := s 1 5 (by decide) (by decide)
    have s23 := s 2 3 (by decide) (by decide)
    have s24 := s 2 4 (by decide) (by decide)
    have s25 := s 2 5 (by decide) (by decide)
    have s34 := s 3 4 (by decide) (by decide)
    have s35 := s 3 5 (by decide) (by decide)
    have s45 := s 4 5 (by decide) (by decide)
    have z0 := z 0 (by decide)
    have z1 := z 1 (by decide)
    have z2 := z 2 (by decide)
    have z3 := z 3 (by decide)
    have z4 := z 4 (by decide)
    have z5 := z 5 (by decide)
    simp only [Nat.reduceMul, Nat.reduceAdd] at s01 s02 s03 s04 s05 s12 s13 s14 s15 s23 s24 s25 s34 s35 s45 z0 z1 z2 z3 z4 z5
    rw [← s01, ← s02, ← s03, ← s04, ← s05, ← s12, ← s13, ← s14, ← s15, ← s23, ← s24, ← s25, ← s34, ← s35, ← s45, z0, z1, z2, z3, z4, z5]
    omega
  rw [e]; omega
theorem c_roads_loop (h1 : ∀ k, k < 36 → I 8 k = nI (r k) ∧ r k ≤ 99) : ∀ (k i : Nat), i + k = 36 → sm_at (sm_ex d) none 40 4 [some (.ref 7), some (.int (nI (rcA r i))), some (.int (nI i))] [] 81 I L (pX sw) = some (some (.int (nI (rcA r 36 / 2))), 81, I, L, pX sw) := by
  intro k
  induction k with
  | zero =>
    intro i hi
    obtain rfl : i = 36 := by omega
    have hle := rcA_le r 36
    have z : ¬ nI 2 = 0 := by decide
    rw [s40_4]
    simp (discharger := (first | omega | decide | assumption | exact rg_lt | exact rg_ly | (simp only [ly7, p7_0, p7_1, p7_2, p7_3, ly8, al8]; omega))) only [s40_0, s40_1, s40_2, s40_3, s40_5, s40_6, s40_10, s40_13, s40_14, s40_17, s40_18, s40_18t0, s40_18t1, s40_19, s40_22, s40_25, s40_28, s40_31, s40_32, s40_33, s40_34, s40_9a, ltI, geL, leL, not_true_eq_false, not_false_eq_true, if_true, if_false, and_self, and_true, true_and, and_false, false_and, or_self, or_true, true_or, or_false, false_or, bo_T, bo_F, bo_e0, nI10, nI00, nI11, nI01, bo_e1, nem, eqL, af_v, af_0, rf_s, rf_n, nn, ite_self, ly7, p7_0, p7_1, p7_2, p7_3, ly8, al8, leN, Nat.le_refl, divN]
  | succ k ih =>
    intro i hi
    have c1 : ¬ 36 ≤ i := by omega
    have hle := rcA_le r i
    have o := h1 i (by omega)
    have := ih (i + 1) (by omega)
    rw [show rcA r (i + 1) = rcA r i + (if r i = 0 then 0 else 1) from rfl] at this
    rw [s40_4]
    by_cases c : r i = 0
    · rw [if_pos c, Nat.add_zero] at this
      simp (discharger := (first | omega | decide | assumption | exact rg_lt | exact rg_ly | (simp only [ly7, p7_0, p7_1, p7_2, p7_3, ly8, al8]; omega))) only [s40_0, s40_1, s40_2, s40_3, s40_5, s40_6, s40_10, s40_13, s40_14, s40_17, s40_18, s40_18t0, s40_18t1, s40_19, s40_22, s40_25, s40_28, s40_31, s40_32, s40_33, s40_34, s40_9a, ltI, geL, leL, not_true_eq_false, not_false_eq_true, if_true, if_false, and_self, and_true, true_and, and_false, false_and, or_self, or_true, true_or, or_false, false_or, bo_T, bo_F, bo_e0, nI10, nI00, nI11, nI01, bo_e1, nem, eqL, af_v, af_0, rf_s, rf_n, nn, ite_self, ly7, p7_0, p7_1, p7_2, p7_3, ly8, al8, leN, c1, o.1, eq00, c, addN, sm_cl]
      exact this
    · rw [if_neg c] at this
      simp (discharger := (first | omega | decide | assumption | exact rg_lt | exact rg_ly | (simp only [ly7, p7_0, p7_1, p7_2, p7_3, ly8, al8]; omega))) only [s40_0, s40_1, s40_2, s40_3, s40_5, s40_6, s40_10, s40_13, s40_14, s40_17, s40_18, s40_18t0, s40_18t1, s40_19, s40_22, s40_25, s40_28, s40_31, s40_32, s40_33, s40_34, s40_9a, ltI, geL, leL, not_true_eq_false, not_false_eq_true, if_true, if_false, and_self, and_true, true_and, and_false, false_and, or_self, or_true, true_or, or_false, false_or, bo_T, bo_F, bo_e0, nI10, nI00, nI11, nI01, bo_e1, nem, eqL, af_v, af_0, rf_s, rf_n, nn, ite_self, ly7, p7_0, p7_1, p7_2, p7_3, ly8, al8, leN, c1, o.1, eq00, c, addN, sm_cl]
      exact this
theorem c_roads (h1 : ∀ k, k < 36 → I 8 k = nI (r k) ∧ r k ≤ 99) : sm_ex (d + 1) 40 [.ref 7] 81 I L (pX sw) = some (some (.int (nI (rcA r 36 / 2))), 81, I, L, pX sw) := by
  rw [e40]
  simp only [s40_0, s40_1, s40_2, s40_3, s40_5, s40_6, s40_10, s40_13, s40_14, s40_17, s40_18, s40_18t0, s40_18t1, s40_19, s40_22, s40_25, s40_28, s40_31, s40_32, s40_33, s40_34, s40_9a, ltI, geL, leL, not_true_eq_false, not_false_eq_true, if_true, if_false, and_self, and_true, true_and, and_false, false_and, or_self, or_true, true_or, or_false, false_or, bo_T, bo_F, bo_e0, nI10, nI00, nI11, nI01, bo_e1, nem, eqL, af_v, af_0, rf_s, rf_n, nn, ite_self, sm_cl]
  exact c_roads_loop h1 36 0 rfl
theorem remN {a b : Nat} (ha : a < 2147483648) (h0 : 0 < b) (hb : b < 2147483648) : nI a - nI a / nI b * nI b = nI (a % b) := pk_rem ha h0 hb
theorem m_roadMany_loop (h1 : ∀ k, k < 36 → I 64 k = nI (r k) ∧ r k ≤ 99) : ∀ (k i : Nat), i + k = 36 → sm_at (sm_ex d) none 207 4 [some (.ref 63), some (.int (nI (rcB r i))), some (.int (nI i))] [] 81 I L (pX sw) = some (some (.int (nI (rcB r 36))), 81, I, L, pX sw) := by
  intro k
  induction k with
  | zero =>
    intro i hi
    obtain rfl : i = 36 := by omega
    rw [s207_4]
    simp (discharger := (first | omega | decide | assumption | exact rg_lt | exact rg_ly | (simp only [ly63, p63_0, p63_1, p63_2, p63_7, p63_10, p63_11, p63_13, p63_14, p63_16, p63_18, p63_22, p63_23, p63_24, p63_30, p63_31, p63_32, p63_33, ly64, al64]; omega))) only [s207_0, s207_1, s207_2, s207_3, s207_5, s207_7, s207_10, s207_11, s207_12, s207_14, s207_15, s207_16, s207_18, s207_19, s207_22, s207_23, s207_26, s207_27, s207_28, s207_31, s207_32, s207_35, s207_36, s207_37, s207_38, s207_41, s207_44, s207_45, ltI, geL, leL, not_true_eq_false, not_false_eq_true, if_true, if_false, and_self, and_true, true_and, and_false, false_and, or_self, or_true, true_or, or_false, false_or, bo_T, bo_F, bo_e0, nI10, nI00, nI11, nI01, bo_e1, nem, eqL, af_v, af_0, rf_s, rf_n, nn, ite_self, ly63, p63_0, p63_1, p63_2, p63_7, p63_10, p63_11, p63_13, p63_14, p63_16, p63_18, p63_22, p63_23, p63_24, p63_30, p63_31, p63_32, p63_33, ly64, al64, leN, Nat.le_refl]
  | succ k ih =>
    intro i hi
    have c1 : ¬ 36 ≤ i := by omega
    have hle := rcB_le r i
    have o := h1 i (by omega)
    have := ih (i + 1) (by omega)
    have z : ¬ nI 6 = 0 := by decide
    have e1 : nI i - nI i / nI 6 * nI 6 = nI (i % 6) := remN (by omega) (by decide) (by decide)
    have e2 : nI i / nI 6 = nI (i / 6) := divN (by omega) (by decide) (by decide)
    have e3 : (nI (i % 6) ≤ nI (i / 6)) = ¬ (i / 6 < i % 6) := by rw [leN (by omega) (by omega), eq_iff_iff]; omega
    rw [e2] at e1
    rw [show rcB r (i + 1) = rcB r i + (if i / 6 < i % 6 then (if r i = 0 then 0 else 1) else 0) from rfl] at this
    rw [s207_4]
    by_cases cc : i / 6 < i % 6
    · by_cases c : r i = 0
      · rw [if_pos cc, if_pos c, Nat.add_zero] at this
        simp (discharger := (first | omega | decide | assumption | exact rg_lt | exact rg_ly | (simp only [ly63, p63_0, p63_1, p63_2, p63_7, p63_10, p63_11, p63_13, p63_14, p63_16, p63_18, p63_22, p63_23, p63_24, p63_30, p63_31, p63_32, p63_33, ly64, al64]; omega))) only [s207_0, s207_1, s207_2, s207_3, s207_5, s207_7, s207_10, s207_11, s207_12, s207_14, s207_15, s207_16, s207_18, s207_19, s207_22, s207_23, s207_26, s207_27, s207_28, s207_31, s207_32, s207_35, s207_36, s207_37, s207_38, s207_41, s207_44, s207_45, ltI, geL, leL, not_true_eq_false, not_false_eq_true, if_true, if_false, and_self, and_true, true_and, and_false, false_and, or_self, or_true, true_or, or_false, false_or, bo_T, bo_F, bo_e0, nI10, nI00, nI11, nI01, bo_e1, nem, eqL, af_v, af_0, rf_s, rf_n, nn, ite_self, ly63, p63_0, p63_1, p63_2, p63_7, p63_10, p63_11, p63_13, p63_14, p63_16, p63_18, p63_22, p63_23, p63_24, p63_30, p63_31, p63_32, p63_33, ly64, al64, leN, c1, e1, e2, e3, cc, o.1, le00, c, addN, sm_cl, Nat.add_zero, z]
        exact this
      · rw [if_pos cc, if_neg c] at this
        simp (discharger := (first | omega | decide | assumption | exact rg_lt | exact rg_ly | (simp only [ly63, p63_0, p63_1, p63_2, p63_7, p63_10, p63_11, p63_13, p63_14, p63_16, p63_18, p63_22, p63_23, p63_24, p63_30, p63_31, p63_32, p63_33, ly64, al64]; omega))) only [s207_0, s207_1, s207_2, s207_3, s207_5, s207_7, s207_10, s207_11, s207_12, s207_14, s207_15, s207_16, s207_18, s207_19, s207_22, s207_23, s207_26, s207_27, s207_28, s207_31, s207_32, s207_35, s207_36, s207_37, s207_38, s207_41, s207_44, s207_45, ltI, geL, leL, not_true_eq_false, not_false_eq_true, if_true, if_false, and_self, and_true, true_and, and_false, false_and, or_self, or_true, true_or, or_false, false_or, bo_T, bo_F, bo_e0, nI10, nI00, nI11, nI01, bo_e1, nem, eqL, af_v, af_0, rf_s, rf_n, nn, ite_self, ly63, p63_0, p63_1, p63_2, p63_7, p63_10, p63_11, p63_13, p63_14, p63_16, p63_18, p63_22, p63_23, p63_24, p63_30, p63_31, p63_32, p63_33, ly64, al64, leN, c1, e1, e2, e3, cc, o.1, le00, c, addN, sm_cl, Nat.add_zero, z]
        exact this
    · rw [if_neg cc, Nat.add_zero] at this
      simp (discharger := (first | omega | decide | assumption | exact rg_lt | exact rg_ly | (simp only [ly63, p63_0, p63_1, p63_2, p63_7, p63_10, p63_11, p63_13, p63_14, p63_16, p63_18, p63_22, p63_23, p63_24, p63_30, p63_31, p63_32, p63_33, ly64, al64]; omega))) only [s207_0, s207_1, s207_2, s207_3, s207_5, s207_7, s207_10, s207_11, s207_12, s207_14, s207_15, s207_16, s207_18, s207_19, s207_22, s207_23, s207_26, s207_27, s207_28, s207_31, s207_32, s207_35, s207_36, s207_37, s207_38, s207_41, s207_44, s207_45, ltI, geL, leL, not_true_eq_false, not_false_eq_true, if_true, if_false, and_self, and_true, true_and, and_false, false_and, or_self, or_true, true_or, or_false, false_or, bo_T, bo_F, bo_e0, nI10, nI00, nI11, nI01, bo_e1, nem, eqL, af_v, af_0, rf_s, rf_n, nn, ite_self, ly63, p63_0, p63_1, p63_2, p63_7, p63_10, p63_11, p63_13, p63_14, p63_16, p63_18, p63_22, p63_23, p63_24, p63_30, p63_31, p63_32, p63_33, ly64, al64, leN, c1, e1, e2, e3, cc, o.1, le00, addN, sm_cl, Nat.add_zero, z]
      exact this
theorem m_roadMany (h1 : ∀ k, k < 36 → I 64 k = nI (r k) ∧ r k ≤ 99) : sm_ex (d + 1) 207 [.ref 63] 81 I L (pX sw) = some (some (.int (nI (rcB r 36))), 81, I, L, pX sw) := by
  rw [e207]
  simp only [s207_0, s207_1, s207_2, s207_3, s207_5, s207_7, s207_10, s207_11, s207_12, s207_14, s207_15, s207_16, s207_18, s207_19, s207_22, s207_23, s207_26, s207_27, s207_28, s207_31, s207_32, s207_35, s207_36, s207_37, s207_38, s207_41, s207_44, s207_45, ltI, geL, leL, not_true_eq_false, not_false_eq_true, if_true, if_false, and_self, and_true, true_and, and_false, false_and, or_self, or_true, true_or, or_false, false_or, bo_T, bo_F, bo_e0, nI10, nI00, nI11, nI01, bo_e1, nem, eqL, af_v, af_0, rf_s, rf_n, nn, ite_self, sm_cl]
  exact m_roadMany_loop h1 36 0 rfl
end EZ
