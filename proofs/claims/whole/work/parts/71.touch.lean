section TO
variable {d : Nat} {I : sm_Im} {L : sm_Lm} {sw : Bool} {x y z u v : Int32} {a b m n q kd am mn j p r k nb t f : Nat} {w : Int64} {β τ : Nat → Nat → Nat}
/-- the touches: how many, who, when -/
def RTC (I : sm_Im) (τ : Nat → Nat → Nat) : Prop := I 3 3 = nI (τ 0 0) ∧ ∀ k, k < τ 0 0 → I 4 k = nI (τ 1 k) ∧ I 5 k = nI (τ 2 k)
def RTM (I : sm_Im) (τ : Nat → Nat → Nat) : Prop := I 63 12 = nI (τ 0 0) ∧ ∀ k, k < τ 0 0 → I 70 (2 * k) = nI (τ 1 k) ∧ I 70 (2 * k + 1) = nI (τ 2 k)
def TOk (τ : Nat → Nat → Nat) : Prop := τ 0 0 ≤ 12 ∧ ∀ k, k < τ 0 0 → τ 1 k < 10 ∧ τ 2 k ≤ 999
def cn (f : Nat → Bool) : Nat → Nat
  | 0 => 0
  | n + 1 => cn f n + (if f n = true then 1 else 0)
theorem cn_le (f : Nat → Bool) : ∀ n, cn f n ≤ n := by
  intro n
  induction n with
  | zero => exact Nat.le_refl _
  | succ n ih => show cn f n + _ ≤ _; split <;> omega
theorem c_tsize : sm_ex (d + 1) 74 [.ref 3] 81 I L (pX sw) = some (some (.int (I 3 3)), 81, I, L, pX sw) := by
  rw [e74]
  simp (discharger := (first | omega | decide | (simp only [ly3, p3_0, p3_1, p3_2]; omega))) only [s74_0, s74_1, s74_4, ltI, geL, leL, not_true_eq_false, not_false_eq_true, if_true, if_false, and_self, and_true, true_and, and_false, false_and, or_self, or_true, true_or, or_false, false_or, bo_T, bo_F, bo_e0, nI10, nI00, nI11, nI01, bo_e1, nem, eqL, af_v, af_0, rf_s, rf_n, nn, ite_self, ly3, p3_0, p3_1, p3_2]
theorem c_tclear : sm_ex (d + 1) 75 [.ref 3] 81 I L (pX sw) = some (none, 81, sm_up I 3 3 (nI 0), L, pX sw) := by
  rw [e75]
  simp (discharger := (first | omega | decide | (simp only [ly3, p3_0, p3_1, p3_2]; omega))) only [s75_0, s75_1, s75_2, s75_5, ltI, geL, leL, not_true_eq_false, not_false_eq_true, if_true, if_false, and_self, and_true, true_and, and_false, false_and, or_self, or_true, true_or, or_false, false_or, bo_T, bo_F, bo_e0, nI10, nI00, nI11, nI01, bo_e1, nem, eqL, af_v, af_0, rf_s, rf_n, nn, ite_self, ly3, p3_0, p3_1, p3_2]
theorem c_tadd (hn : I 3 3 = nI n) (h : n ≤ 12) : sm_ex (d + 1) 76 [.ref 3, .int x, .int y] 81 I L (pX sw) = if n < 12 then some (some (.int (nI (n + 1))), 81, sm_up (sm_up (sm_up I 4 n x) 5 n y) 3 3 (nI (n + 1)), L, pX sw) else some (some (.int (-104)), 81, I, L, pX sw) := by
  rw [e76]
  by_cases c : n < 12
  · have c1 : ¬ 12 ≤ n := by omega
    have e1 : sm_up I 4 n x 3 3 = nI n := by rw [up_row (by decide)]; exact hn
    have e2 : sm_up (sm_up I 4 n x) 5 n y 3 3 = nI n := by rw [up_row (by decide)]; exact e1
    simp (discharger := (first | omega | decide | (simp only [ly3, p3_0, p3_1, p3_2, ly4, al4, ly5, al5]; omega))) only [s76_0, s76_1, s76_4, s76_6, s76_9, s76_11, s76_12, s76_13, s76_16, s76_17, s76_20, s76_21, s76_22, s76_23, s76_26, s76_27, s76_30, s76_31, s76_32, s76_33, s76_34, s76_37, s76_38, s76_39, s76_42, s76_43, s76_46, ltI, geL, leL, not_true_eq_false, not_false_eq_true, if_true, if_false, and_self, and_true, true_and, and_false, false_and, or_self, or_true, true_or, or_false, false_or, bo_T, bo_F, bo_e0, nI10, nI00, nI11, nI01, bo_e1, nem, eqL, af_v, af_0, rf_s, rf_n, nn, ite_self, ly3, p3_0, p3_1, p3_2, ly4, al4, ly5, al5, hn, leN, c, c1, e1, e2, addN, up_same]
  · have c1 : 12 ≤ n := by omega
    simp (discharger := (first | omega | decide | (simp only [ly3, p3_0, p3_1, p3_2, ly4, al4, ly5, al5]; omega))) only [s76_0, s76_1, s76_4, s76_6, s76_9, s76_11, s76_12, s76_13, s76_16, s76_17, s76_20, s76_21, s76_22, s76_23, s76_26, s76_27, s76_30, s76_31, s76_32, s76_33, s76_34, s76_37, s76_38, s76_39, s76_42, s76_43, s76_46, ltI, geL, leL, not_true_eq_false, not_false_eq_true, if_true, if_false, and_self, and_true, true_and, and_false, false_and, or_self, or_true, true_or, or_false, false_or, bo_T, bo_F, bo_e0, nI10, nI00, nI11, nI01, bo_e1, nem, eqL, af_v, af_0, rf_s, rf_n, nn, ite_self, ly3, p3_0, p3_1, p3_2, ly4, al4, ly5, al5, hn, leN, c, c1]
theorem c_touch_1 (h : ¬ (nI 0 ≤ x ∧ x ≤ nI 9)) : sm_ex (d + 2) 103 [.ref 0, .int x, .int y] 81 I L (pX sw) = some (some (.int (-101)), 81, I, L, pX sw) := by
  rw [e103]
  simp only [s103_0, s103_1, s103_4, s103_7, s103_9, s103_10, s103_11, s103_12, s103_15, s103_18, s103_21, s103_23, s103_24, s103_25, s103_28, s103_29, s103_30, s103_33, ltI, geL, leL, not_true_eq_false, not_false_eq_true, if_true, if_false, and_self, and_true, true_and, and_false, false_and, or_self, or_true, true_or, or_false, false_or, bo_T, bo_F, bo_e0, nI10, nI00, nI11, nI01, bo_e1, nem, eqL, af_v, af_0, rf_s, rf_n, nn, ite_self, h_isPerson, h]
theorem c_touch_2 (h : (nI 0 ≤ x ∧ x ≤ nI 9)) (h2 : ¬ (nI 0 ≤ y ∧ y ≤ nI 999)) : sm_ex (d + 2) 103 [.ref 0, .int x, .int y] 81 I L (pX sw) = some (some (.int (-102)), 81, I, L, pX sw) := by
  rw [e103]
  simp only [s103_0, s103_1, s103_4, s103_7, s103_9, s103_10, s103_11, s103_12, s103_15, s103_18, s103_21, s103_23, s103_24, s103_25, s103_28, s103_29, s103_30, s103_33, ltI, geL, leL, not_true_eq_false, not_false_eq_true, if_true, if_false, and_self, and_true, true_and, and_false, false_and, or_self, or_true, true_or, or_false, false_or, bo_T, bo_F, bo_e0, nI10, nI00, nI11, nI01, bo_e1, nem, eqL, af_v, af_0, rf_s, rf_n, nn, ite_self, h_isPerson, h_isWithin, h, h2]
theorem c_touch_3 (hn : I 3 3 = nI n) (hn2 : n ≤ 12) (h : (nI 0 ≤ x ∧ x ≤ nI 9)) (h2 : (nI 0 ≤ y ∧ y ≤ nI 999)) : sm_ex (d + 2) 103 [.ref 0, .int x, .int y] 81 I L (pX sw) = if n < 12 then some (some (.int (nI (n + 1))), 81, sm_up (sm_up (sm_up I 4 n x) 5 n y) 3 3 (nI (n + 1)), L, pX sw) else some (some (.int (-104)), 81, I, L, pX sw) := by
  rw [e103]
  by_cases c : n < 12 <;> simp (discharger := (first | omega | decide | (simp only [ly0, p0_0, p0_1, p0_2, p0_3, p0_4, p0_5, p0_6, p0_7, p0_8, p0_9, ly3, p3_0, p3_1, p3_2]; omega))) only [s103_0, s103_1, s103_4, s103_7, s103_9, s103_10, s103_11, s103_12, s103_15, s103_18, s103_21, s103_23, s103_24, s103_25, s103_28, s103_29, s103_30, s103_33, ltI, geL, leL, not_true_eq_false, not_false_eq_true, if_true, if_false, and_self, and_true, true_and, and_false, false_and, or_self, or_true, true_or, or_false, false_or, bo_T, bo_F, bo_e0, nI10, nI00, nI11, nI01, bo_e1, nem, eqL, af_v, af_0, rf_s, rf_n, nn, ite_self, ly0, p0_0, p0_1, p0_2, p0_3, p0_4, p0_5, p0_6, p0_7, p0_8, p0_9, ly3, p3_0, p3_1, p3_2, h_isPerson, h_isWithin, h, h2, c_tadd hn hn2, c]
theorem m_touch_1 (h : ¬ (nI 0 ≤ x ∧ x ≤ nI 9)) : sm_ex (d + 3) 164 [.ref 63, .int x, .int y] 81 I L (pX sw) = some (some (.int (-101)), 81, I, L, pX sw) := by
  rw [e164]
  simp only [s164_0, s164_1, s164_4, s164_7, s164_9, s164_10, s164_11, s164_12, s164_13, s164_16, s164_19, s164_22, s164_24, s164_25, s164_26, s164_29, s164_31, s164_34, s164_36, s164_37, s164_38, s164_41, s164_42, s164_43, s164_46, s164_47, s164_48, s164_49, s164_50, s164_53, s164_54, s164_55, s164_58, s164_59, s164_60, s164_61, s164_62, s164_63, s164_64, s164_65, s164_68, s164_69, s164_70, s164_73, s164_74, s164_77, ltI, geL, leL, not_true_eq_false, not_false_eq_true, if_true, if_false, and_self, and_true, true_and, and_false, false_and, or_self, or_true, true_or, or_false, false_or, bo_T, bo_F, bo_e0, nI10, nI00, nI11, nI01, bo_e1, nem, eqL, af_v, af_0, rf_s, rf_n, nn, ite_self, m_isPerson, h]
theorem m_touch_2 (h : (nI 0 ≤ x ∧ x ≤ nI 9)) (h2 : ¬ (nI 0 ≤ y ∧ y ≤ nI 999)) : sm_ex (d + 3) 164 [.ref 63, .int x, .int y] 81 I L (pX sw) = some (some (.int (-102)), 81, I, L, pX sw) := by
  rw [e164]
  simp only [s164_0, s164_1, s164_4, s164_7, s164_9, s164_10, s164_11, s164_12, s164_13, s164_16, s164_19, s164_22, s164_24, s164_25, s164_26, s164_29, s164_31, s164_34, s164_36, s164_37, s164_38, s164_41, s164_42, s164_43, s164_46, s164_47, s164_48, s164_49, s164_50, s164_53, s164_54, s164_55, s164_58, s164_59, s164_60, s164_61, s164_62, s164_63, s164_64, s164_65, s164_68, s164_69, s164_70, s164_73, s164_74, s164_77, ltI, geL, leL, not_true_eq_false, not_false_eq_true, if_true, if_false, and_self, and_true, true_and, and_false, false_and, or_self, or_true, true_or, or_false, false_or, bo_T, bo_F, bo_e0, nI10, nI00, nI11, nI01, bo_e1, nem, eqL, af_v, af_0, rf_s, rf_n, nn, ite_self, m_isPerson, m_in, wN 0 (by decide), wN 999 (by decide), wl, h, h2]
theorem m_touch_3 (hn : I 63 12 = nI n) (hn2 : n ≤ 12) (h : (nI 0 ≤ x ∧ x ≤ nI 9)) (h2 : (nI 0 ≤ y ∧ y ≤ nI 999)) : sm_ex (d + 3) 164 [.ref 63, .int x, .int y] 81 I L (pX sw) = if n < 12 then some (some (.int (nI (n + 1))), 81, sm_up (sm_up (sm_up I 70 (2 * n) x) 70 (2 * n + 1) y) 63 12 (nI (n + 1)), L, pX sw) else some (some (.int (-104)), 81, I, L, pX sw) := by
  rw [e164]
  by_cases c : n < 12
  · have c1 : ¬ n = 12 := by omega
    have e1 : ∀ v, sm_up I 70 (2 * n) v 63 12 = nI n := fun v => by rw [up_row (by decide)]; exact hn
    have e2 : ∀ v v2, sm_up (sm_up I 70 (2 * n) v) 70 (2 * n + 1) v2 63 12 = nI n := fun v v2 => by rw [up_row (by decide)]; exact e1 v
    simp (discharger := (first | omega | decide | (simp only [ly63, p63_0, p63_1, p63_2, p63_7, p63_10, p63_11, p63_13, p63_14, p63_16, p63_18, p63_22, p63_23, p63_24, p63_30, p63_31, p63_32, p63_33, ly70, al70]; omega))) only [s164_0, s164_1, s164_4, s164_7, s164_9, s164_10, s164_11, s164_12, s164_13, s164_16, s164_19, s164_22, s164_24, s164_25, s164_26, s164_29, s164_31, s164_34, s164_36, s164_37, s164_38, s164_41, s164_42, s164_43, s164_46, s164_47, s164_48, s164_49, s164_50, s164_53, s164_54, s164_55, s164_58, s164_59, s164_60, s164_61, s164_62, s164_63, s164_64, s164_65, s164_68, s164_69, s164_70, s164_73, s164_74, s164_77, ltI, geL, leL, not_true_eq_false, not_false_eq_true, if_true, if_false, and_self, and_true, true_and, and_false, false_and, or_self, or_true, true_or, or_false, false_or, bo_T, bo_F, bo_e0, nI10, nI00, nI11, nI01, bo_e1, nem, eqL, af_v, af_0, rf_s, rf_n, nn, ite_self, ly63, p63_0, p63_1, p63_2, p63_7, p63_10, p63_11, p63_13, p63_14, p63_16, p63_18, p63_22, p63_23, p63_24, p63_30, p63_31, p63_32, p63_33, ly70, al70, m_isPerson, m_in, wN 0 (by decide), wN 999 (by decide), wl, h, h2, hn, eqN, c1, c, e1, e2, mulN, addN, up_same]
  · have c1 : n = 12 := by omega
    simp (discharger := (first | omega | decide | (simp only [ly63, p63_0, p63_1, p63_2, p63_7, p63_10, p63_11, p63_13, p63_14, p63_16, p63_18, p63_22, p63_23, p63_24, p63_30, p63_31, p63_32, p63_33, ly70, al70]; omega))) only [s164_0, s164_1, s164_4, s164_7, s164_9, s164_10, s164_11, s164_12, s164_13, s164_16, s164_19, s164_22, s164_24, s164_25, s164_26, s164_29, s164_31, s164_34, s164_36, s164_37, s164_38, s164_41, s164_42, s164_43, s164_46, s164_47, s164_48, s164_49, s164_50, s164_53, s164_54, s164_55, s164_58, s164_59, s164_60, s164_61, s164_62, s164_63, s164_64, s164_65, s164_68, s164_69, s164_70, s164_73, s164_74, s164_77, ltI, geL, leL, not_true_eq_false, not_false_eq_true, if_true, if_false, and_self, and_true, true_and, and_false, false_and, or_self, or_true, true_or, or_false, false_or, bo_T, bo_F, bo_e0, nI10, nI00, nI11, nI01, bo_e1, nem, eqL, af_v, af_0, rf_s, rf_n, nn, ite_self, ly63, p63_0, p63_1, p63_2, p63_7, p63_10, p63_11, p63_13, p63_14, p63_16, p63_18, p63_22, p63_23, p63_24, p63_30, p63_31, p63_32, p63_33, ly70, al70, m_isPerson, m_in, wN 0 (by decide), wN 999 (by decide), wl, h, h2, hn, eqN, c1, c, Nat.lt_irrefl]
theorem c_forget : sm_ex (d + 2) 104 [.ref 0] 81 I L (pX sw) = some (some (.int (I 3 3)), 81, sm_up I 3 3 (nI 0), L, pX sw) := by
  rw [e104]
  simp (discharger := (first | omega | decide | (simp only [ly0, p0_0, p0_1, p0_2, p0_3, p0_4, p0_5, p0_6, p0_7, p0_8, p0_9, ly3, p3_0, p3_1, p3_2]; omega))) only [s104_0, s104_1, s104_4, s104_7, s104_8, s104_9, s104_12, s104_15, s104_16, ltI, geL, leL, not_true_eq_false, not_false_eq_true, if_true, if_false, and_self, and_true, true_and, and_false, false_and, or_self, or_true, true_or, or_false, false_or, bo_T, bo_F, bo_e0, nI10, nI00, nI11, nI01, bo_e1, nem, eqL, af_v, af_0, rf_s, rf_n, nn, ite_self, ly0, p0_0, p0_1, p0_2, p0_3, p0_4, p0_5, p0_6, p0_7, p0_8, p0_9, ly3, p3_0, p3_1, p3_2, c_tsize, c_tclear, sm_cl]
theorem m_forget : sm_ex (d + 1) 165 [.ref 63] 81 I L (pX sw) = some (some (.int (I 63 12)), 81, sm_up I 63 12 (nI 0), L, pX sw) := by
  rw [e165]
  simp (discharger := (first | omega | decide | (simp only [ly63, p63_0, p63_1, p63_2, p63_7, p63_10, p63_11, p63_13, p63_14, p63_16, p63_18, p63_22, p63_23, p63_24, p63_30, p63_31, p63_32, p63_33]; omega))) only [s165_0, s165_1, s165_4, s165_5, s165_6, s165_7, s165_10, s165_11, ltI, geL, leL, not_true_eq_false, not_false_eq_true, if_true, if_false, and_self, and_true, true_and, and_false, false_and, or_self, or_true, true_or, or_false, false_or, bo_T, bo_F, bo_e0, nI10, nI00, nI11, nI01, bo_e1, nem, eqL, af_v, af_0, rf_s, rf_n, nn, ite_self, ly63, p63_0, p63_1, p63_2, p63_7, p63_10, p63_11, p63_13, p63_14, p63_16, p63_18, p63_22, p63_23, p63_24, p63_30, p63_31, p63_32, p63_33, sm_cl]
theorem c_ofPerson_loop (T : RTC I τ) (O : TOk τ) (hp : p < 10) : ∀ (k i : Nat), i + k = τ 0 0 → sm_at (sm_ex d) none 78 4 [some (.ref 3), some (.int (nI p)), some (.int (nI (cn (fun j => decide (τ 1 j = p)) i))), some (.int (nI i))] [] 81 I L (pX sw) = some (some (.int (nI (cn (fun j => decide (τ 1 j = p)) (τ 0 0)))), 81, I, L, pX sw) := by
  obtain ⟨T1, T2⟩ := T
  obtain ⟨O1, O2⟩ := O
  intro k
  induction k with
  | zero =>
    intro i hi
    obtain rfl : i = τ 0 0 := by omega
    rw [s78_4]
    simp (discharger := (first | omega | decide | (simp only [ly3, p3_0, p3_1, p3_2, ly4, al4]; omega))) only [s78_0, s78_1, s78_2, s78_3, s78_5, s78_6, s78_9, s78_12, s78_13, s78_15, s78_18, s78_19, s78_22, s78_23, s78_24, s78_25, s78_28, s78_31, s78_34, s78_37, s78_38, ltI, geL, leL, not_true_eq_false, not_false_eq_true, if_true, if_false, and_self, and_true, true_and, and_false, false_and, or_self, or_true, true_or, or_false, false_or, bo_T, bo_F, bo_e0, nI10, nI00, nI11, nI01, bo_e1, nem, eqL, af_v, af_0, rf_s, rf_n, nn, ite_self, ly3, p3_0, p3_1, p3_2, ly4, al4, T1, leN, Nat.le_refl]
  | succ k ih =>
    intro i hi
    have c1 : ¬ τ 0 0 ≤ i := by omega
    have c2 : ¬ 12 ≤ i := by omega
    have o := O2 i (by omega)
    have := ih (i + 1) (by omega)
    rw [s78_4]
    by_cases c : τ 1 i = p
    · have e : cn (fun j => decide (τ 1 j = p)) (i + 1) = cn (fun j => decide (τ 1 j = p)) i + 1 := by show _ + (if decide (τ 1 i = p) = true then 1 else 0) = _; simp [c]
      rw [e] at this
      simp (discharger := (first | omega | decide | (simp only [ly3, p3_0, p3_1, p3_2, ly4, al4]; omega))) only [s78_0, s78_1, s78_2, s78_3, s78_5, s78_6, s78_9, s78_12, s78_13, s78_15, s78_18, s78_19, s78_22, s78_23, s78_24, s78_25, s78_28, s78_31, s78_34, s78_37, s78_38, ltI, geL, leL, not_true_eq_false, not_false_eq_true, if_true, if_false, and_self, and_true, true_and, and_false, false_and, or_self, or_true, true_or, or_false, false_or, bo_T, bo_F, bo_e0, nI10, nI00, nI11, nI01, bo_e1, nem, eqL, af_v, af_0, rf_s, rf_n, nn, ite_self, ly3, p3_0, p3_1, p3_2, ly4, al4, T1, leN, c1, c2, (T2 i (show i < τ 0 0 by omega)).1, eqN, c, addN, sm_cl]
      exact this
    · have e : cn (fun j => decide (τ 1 j = p)) (i + 1) = cn (fun j => decide (τ 1 j = p)) i := by show _ + (if decide (τ 1 i = p) = true then 1 else 0) = _; simp [c]
      rw [e] at this
      simp (discharger := (first | omega | decide | (simp only [ly3, p3_0, p3_1, p3_2, ly4, al4]; omega))) only [s78_0, s78_1, s78_2, s78_3, s78_5, s78_6, s78_9, s78_12, s78_13, s78_15, s78_18, s78_19, s78_22, s78_23, s78_24, s78_25, s78_28, s78_31, s78_34, s78_37, s78_38, ltI, geL, leL, not_true_eq_false, not_false_eq_true, if_true, if_false, and_self, and_true, true_and, and_false, false_and, or_self, or_true, true_or, or_false, false_or, bo_T, bo_F, bo_e0, nI10, nI00, nI11, nI01, bo_e1, nem, eqL, af_v, af_0, rf_s, rf_n, nn, ite_self, ly3, p3_0, p3_1, p3_2, ly4, al4, T1, leN, c1, c2, (T2 i (show i < τ 0 0 by omega)).1, eqN, c, addN, sm_cl]
      exact this
theorem c_ofPerson (T : RTC I τ) (O : TOk τ) (hp : p < 10) : sm_ex (d + 1) 78 [.ref 3, .int (nI p)] 81 I L (pX sw) = some (some (.int (nI (cn (fun j => decide (τ 1 j = p)) (τ 0 0)))), 81, I, L, pX sw) := by
  rw [e78]
  simp only [s78_0, s78_1, s78_2, s78_3, s78_5, s78_6, s78_9, s78_12, s78_13, s78_15, s78_18, s78_19, s78_22, s78_23, s78_24, s78_25, s78_28, s78_31, s78_34, s78_37, s78_38, ltI, geL, leL, not_true_eq_false, not_false_eq_true, if_true, if_false, and_self, and_true, true_and, and_false, false_and, or_self, or_true, true_or, or_false, false_or, bo_T, bo_F, bo_e0, nI10, nI00, nI11, nI01, bo_e1, nem, eqL, af_v, af_0, rf_s, rf_n, nn, ite_self, sm_cl]
  exact c_ofPerson_loop T O hp (τ 0 0) 0 (Nat.zero_add _)
theorem m_touchedBy_loop (T : RTM I τ) (O : TOk τ) (hp : p < 10) (hn : n ≤ τ 0 0) : ∀ (k i : Nat), i + k = n → sm_at (sm_ex d) none 161 5 [some (.ref 63), some (.int (nI p)), some (.int (nI n)), some (.int (nI (cn (fun j => decide (τ 1 j = p)) i))), some (.int (nI i))] [] 81 I L (pX sw) = some (some (.int (nI (cn (fun j => decide (τ 1 j = p)) n))), 81, I, L, pX sw) := by
  obtain ⟨T1, T2⟩ := T
  obtain ⟨O1, O2⟩ := O
  intro k
  induction k with
  | zero =>
    intro i hi
    obtain rfl : i = n := by omega
    rw [s161_5]
    simp (discharger := (first | omega | decide | (simp only [ly63, p63_0, p63_1, p63_2, p63_7, p63_10, p63_11, p63_13, p63_14, p63_16, p63_18, p63_22, p63_23, p63_24, p63_30, p63_31, p63_32, p63_33, ly70, al70]; omega))) only [s161_0, s161_1, s161_2, s161_3, s161_7, s161_8, s161_11, s161_12, s161_13, s161_16, s161_17, s161_19, s161_20, s161_21, s161_22, s161_25, s161_26, s161_29, s161_30, s161_31, s161_32, s161_35, s161_38, s161_39, ltI, geL, leL, not_true_eq_false, not_false_eq_true, if_true, if_false, and_self, and_true, true_and, and_false, false_and, or_self, or_true, true_or, or_false, false_or, bo_T, bo_F, bo_e0, nI10, nI00, nI11, nI01, bo_e1, nem, eqL, af_v, af_0, rf_s, rf_n, nn, ite_self, ly63, p63_0, p63_1, p63_2, p63_7, p63_10, p63_11, p63_13, p63_14, p63_16, p63_18, p63_22, p63_23, p63_24, p63_30, p63_31, p63_32, p63_33, ly70, al70, leN, Nat.le_refl]
  | succ k ih =>
    intro i hi
    have c1 : ¬ n ≤ i := by omega
    have o := O2 i (by omega)
    have := ih (i + 1) (by omega)
    rw [s161_5]
    by_cases c : τ 1 i = p
    · have e : cn (fun j => decide (τ 1 j = p)) (i + 1) = cn (fun j => decide (τ 1 j = p)) i + 1 := by show _ + (if decide (τ 1 i = p) = true then 1 else 0) = _; simp [c]
      rw [e] at this
      simp (discharger := (first | omega | decide | (simp only [ly63, p63_0, p63_1, p63_2, p63_7, p63_10, p63_11, p63_13, p63_14, p63_16, p63_18, p63_22, p63_23, p63_24, p63_30, p63_31, p63_32, p63_33, ly70, al70]; omega))) only [s161_0, s161_1, s161_2, s161_3, s161_7, s161_8, s161_11, s161_12, s161_13, s161_16, s161_17, s161_19, s161_20, s161_21, s161_22, s161_25, s161_26, s161_29, s161_30, s161_31, s161_32, s161_35, s161_38, s161_39, ltI, geL, leL, not_true_eq_false, not_false_eq_true, if_true, if_false, and_self, and_true, true_and, and_false, false_and, or_self, or_true, true_or, or_false, false_or, bo_T, bo_F, bo_e0, nI10, nI00, nI11, nI01, bo_e1, nem, eqL, af_v, af_0, rf_s, rf_n, nn, ite_self, ly63, p63_0, p63_1, p63_2, p63_7, p63_10, p63_11, p63_13, p63_14, p63_16, p63_18, p63_22, p63_23, p63_24, p63_30, p63_31, p63_32, p63_33, ly70, al70, leN, c1, mulN, addN, (T2 i (show i < τ 0 0 by omega)).1, eqN, c, sm_cl]
      exact this
    · have e : cn (fun j => decide (τ 1 j = p)) (i + 1) = cn (fun j => decide (τ 1 j = p)) i := by show _ + (if decide (τ 1 i = p) = true then 1 else 0) = _; simp [c]
      rw [e] at this
      simp (discharger := (first | omega | decide | (simp only [ly63, p63_0, p63_1, p63_2, p63_7, p63_10, p63_11, p63_13, p63_14, p63_16, p63_18, p63_22, p63_23, p63_24, p63_30, p63_31, p63_32, p63_33, ly70, al70]; omega))) only [s161_0, s161_1, s161_2, s161_3, s161_7, s161_8, s161_11, s161_12, s161_13, s161_16, s161_17, s161_19, s161_20, s161_21, s161_22, s161_25, s161_26, s161_29, s161_30, s161_31, s161_32, s161_35, s161_38, s161_39, ltI, geL, leL, not_true_eq_false, not_false_eq_true, if_true, if_false, and_self, and_true, true_and, and_false, false_and, or_self, or_true, true_or, or_false, false_or, bo_T, bo_F, bo_e0, nI10, nI00, nI11, nI01, bo_e1, nem, eqL, af_v, af_0, rf_s, rf_n, nn, ite_self, ly63, p63_0, p63_1, p63_2, p63_7, p63_10, p63_11, p63_13, p63_14, p63_16, p63_18, p63_22, p63_23, p63_24, p63_30, p63_31, p63_32, p63_33, ly70, al70, leN, c1, mulN, addN, (T2 i (show i < τ 0 0 by omega)).1, eqN, c, sm_cl, Nat.add_zero]
      exact this
theorem m_touchedBy (T : RTM I τ) (O : TOk τ) (hp : p < 10) (hn : n ≤ τ 0 0) : sm_ex (d + 1) 161 [.ref 63, .int (nI p), .int (nI n)] 81 I L (pX sw) = some (some (.int (nI (cn (fun j => decide (τ 1 j = p)) n))), 81, I, L, pX sw) := by
  rw [e161]
  simp only [s161_0, s161_1, s161_2, s161_3, s161_7, s161_8, s161_11, s161_12, s161_13, s161_16, s161_17, s161_19, s161_20, s161_21, s161_22, s161_25, s161_26, s161_29, s161_30, s161_31, s161_32, s161_35, s161_38, s161_39, ltI, geL, leL, not_true_eq_false, not_false_eq_true, if_true, if_false, and_self, and_true, true_and, and_false, false_and, or_self, or_true, true_or, or_false, false_or, bo_T, bo_F, bo_e0, nI10, nI00, nI11, nI01, bo_e1, nem, eqL, af_v, af_0, rf_s, rf_n, nn, ite_self, sm_cl]
  exact m_touchedBy_loop T O hp hn n 0 (Nat.zero_add _)
end TO
