section FE
variable {d : Nat} {I : sm_Im} {L : sm_Lm} {sw : Bool} {x y z u v : Int32} {a b m n q kd am mn j p r k nb t f : Nat} {w : Int64} {β τ : Nat → Nat → Nat}
theorem dly_le {s : Nat} (h1 : am ≤ 9) (h2 : mn ≤ 4) (h3 : j < mn) (h4 : k < mn) : dly kd am mn j k ≤ 9 := by
  unfold dly
  split
  · split <;> omega
  · split <;> omega
theorem dl_le {s : Nat} (O : BOk β) (ht : t < 10) (hf : f < 10) (h : dl β t f = some s) : s ≤ 9 := by
  unfold dl at h
  obtain ⟨h1, h2⟩ := sm_if h
  obtain rfl := Option.some.inj h2
  obtain ⟨O1, O2, O3⟩ := O
  obtain ⟨o1, o2, o3, o4, o5⟩ := O2 _ h1.1
  have a1 := (O3 t ht h1.1).1
  have a2 := (O3 f hf (by omega)).1
  rw [h1.2.1] at a2
  exact dly_le (s := 0) o2 o4 a1 a2
theorem dl_self : dl β t t = none := by unfold dl; rw [if_neg (fun q => q.2.2 rfl)]
/-- is the k-th touch felt by p between u and v -/
def fl (β τ : Nat → Nat → Nat) (p : Nat) (u v : Int32) (k : Nat) : Bool := match dl β (τ 1 k) p with
  | some s => decide (u ≤ nI (τ 2 k + s) ∧ nI (τ 2 k + s) ≤ v)
  | none => false
theorem cn_s (f : Nat → Bool) (n : Nat) : cn f (n + 1) = cn f n + (if f n = true then 1 else 0) := rfl
theorem c_timesFelt_loop (A : RA r) (R : RB r I β) (B : BOk β) (T : RTC I τ) (O : TOk τ) (hp : p < 10) : ∀ (k i : Nat), i + k = τ 0 0 → ∀ l7 : Option Value, sm_at (sm_ex (d + 3)) none 79 6 [some (.ref 3), some (.ref r), some (.int (nI p)), some (.int u), some (.int v), some (.int (nI (cn (fl β τ p u v) i))), some (.int (nI i)), l7] [] 81 I L (pX sw) = some (some (.int (nI (cn (fl β τ p u v) (τ 0 0)))), 81, I, L, pX sw) := by
  have A1 := A.1
  have A2 := A.2.1
  obtain ⟨T1, T2⟩ := T
  obtain ⟨O1, O2⟩ := O
  intro k
  induction k with
  | zero =>
    intro i hi l7
    obtain rfl : i = τ 0 0 := by omega
    rw [s79_6]
    simp (discharger := (first | omega | decide | (simp only [ly3, p3_0, p3_1, p3_2, ly4, al4]; omega))) only [s79_0, s79_1, s79_3, s79_4, s79_8, s79_9, s79_12, s79_15, s79_17, s79_19, s79_22, s79_22n, s79_23, s79_24, s79_27, s79_29, s79_30, s79_31, s79_34, s79_36, s79_38, s79_39, s79_42, s79_43, s79_46, s79_48, s79_49, s79_51, s79_52, s79_53, s79_55, s79_58, s79_61, s79_64, s79_67, s79_70, s79_72, ltI, geL, leL, not_true_eq_false, not_false_eq_true, if_true, if_false, and_self, and_true, true_and, and_false, false_and, or_self, or_true, true_or, or_false, false_or, bo_T, bo_F, bo_e0, nI10, nI00, nI11, nI01, bo_e1, nem, eqL, af_v, af_0, rf_s, rf_n, nn, ite_self, ly3, p3_0, p3_1, p3_2, ly4, al4, T1, leN, Nat.le_refl]
  | succ k ih =>
    intro i hi l7
    have c1 : ¬ τ 0 0 ≤ i := by omega
    have c2 : ¬ 12 ≤ i := by omega
    have o := O2 i (by omega)
    have t2 := T2 i (by omega)
    have := ih (i + 1) (by omega)
    rw [s79_6]
    cases hd : dl β (τ 1 i) p with
    | none =>
      have e : fl β τ p u v i = false := by unfold fl; rw [hd]
      rw [cn_s, e, if_neg (by decide), Nat.add_zero] at this
      simp (discharger := first | assumption | omega | decide | (simp only [ly3, p3_0, p3_1, p3_2, ly4, al4, ly5, al5]; omega)) only [s79_0, s79_1, s79_3, s79_4, s79_8, s79_9, s79_12, s79_15, s79_17, s79_19, s79_22, s79_22n, s79_23, s79_24, s79_27, s79_29, s79_30, s79_31, s79_34, s79_36, s79_38, s79_39, s79_42, s79_43, s79_46, s79_48, s79_49, s79_51, s79_52, s79_53, s79_55, s79_58, s79_61, s79_64, s79_67, s79_70, s79_72, ltI, geL, leL, not_true_eq_false, not_false_eq_true, if_true, if_false, and_self, and_true, true_and, and_false, false_and, or_self, or_true, true_or, or_false, false_or, bo_T, bo_F, bo_e0, nI10, nI00, nI11, nI01, bo_e1, nem, eqL, af_v, af_0, rf_s, rf_n, nn, ite_self, ly3, p3_0, p3_1, p3_2, ly4, al4, ly5, al5, T1, leN, c1, c2, t2.1, t2.2, r_delay A R B o.1 hp, hd, oI, addN, sm_cl]
      exact this _
    | some s =>
      have hs := dl_le B o.1 hp hd
      by_cases c : u ≤ nI (τ 2 i + s) ∧ nI (τ 2 i + s) ≤ v
      · have e : fl β τ p u v i = true := by unfold fl; rw [hd]; exact decide_eq_true c
        rw [cn_s, e, if_pos rfl] at this
        simp (discharger := first | assumption | omega | decide | (simp only [ly3, p3_0, p3_1, p3_2, ly4, al4, ly5, al5]; omega)) only [s79_0, s79_1, s79_3, s79_4, s79_8, s79_9, s79_12, s79_15, s79_17, s79_19, s79_22, s79_22n, s79_23, s79_24, s79_27, s79_29, s79_30, s79_31, s79_34, s79_36, s79_38, s79_39, s79_42, s79_43, s79_46, s79_48, s79_49, s79_51, s79_52, s79_53, s79_55, s79_58, s79_61, s79_64, s79_67, s79_70, s79_72, ltI, geL, leL, not_true_eq_false, not_false_eq_true, if_true, if_false, and_self, and_true, true_and, and_false, false_and, or_self, or_true, true_or, or_false, false_or, bo_T, bo_F, bo_e0, nI10, nI00, nI11, nI01, bo_e1, nem, eqL, af_v, af_0, rf_s, rf_n, nn, ite_self, ly3, p3_0, p3_1, p3_2, ly4, al4, ly5, al5, T1, leN, c1, c2, t2.1, t2.2, r_delay A R B o.1 hp, hd, oI, addN, sm_cl, neN1, h_isWithin, c]
        exact this _
      · have e : fl β τ p u v i = false := by unfold fl; rw [hd]; exact decide_eq_false c
        rw [cn_s, e, if_neg (by decide), Nat.add_zero] at this
        simp (discharger := first | assumption | omega | decide | (simp only [ly3, p3_0, p3_1, p3_2, ly4, al4, ly5, al5]; omega)) only [s79_0, s79_1, s79_3, s79_4, s79_8, s79_9, s79_12, s79_15, s79_17, s79_19, s79_22, s79_22n, s79_23, s79_24, s79_27, s79_29, s79_30, s79_31, s79_34, s79_36, s79_38, s79_39, s79_42, s79_43, s79_46, s79_48, s79_49, s79_51, s79_52, s79_53, s79_55, s79_58, s79_61, s79_64, s79_67, s79_70, s79_72, ltI, geL, leL, not_true_eq_false, not_false_eq_true, if_true, if_false, and_self, and_true, true_and, and_false, false_and, or_self, or_true, true_or, or_false, false_or, bo_T, bo_F, bo_e0, nI10, nI00, nI11, nI01, bo_e1, nem, eqL, af_v, af_0, rf_s, rf_n, nn, ite_self, ly3, p3_0, p3_1, p3_2, ly4, al4, ly5, al5, T1, leN, c1, c2, t2.1, t2.2, r_delay A R B o.1 hp, hd, oI, addN, sm_cl, neN1, h_isWithin, c]
        exact this _
theorem c_timesFelt (A : RA r) (R : RB r I β) (B : BOk β) (T : RTC I τ) (O : TOk τ) (hp : p < 10) : sm_ex (d + 4) 79 [.ref 3, .ref r, .int (nI p), .int u, .int v] 81 I L (pX sw) = some (some (.int (nI (cn (fl β τ p u v) (τ 0 0)))), 81, I, L, pX sw) := by
  rw [e79]
  simp only [s79_0, s79_1, s79_3, s79_4, s79_8, s79_9, s79_12, s79_15, s79_17, s79_19, s79_22, s79_22n, s79_23, s79_24, s79_27, s79_29, s79_30, s79_31, s79_34, s79_36, s79_38, s79_39, s79_42, s79_43, s79_46, s79_48, s79_49, s79_51, s79_52, s79_53, s79_55, s79_58, s79_61, s79_64, s79_67, s79_70, s79_72, ltI, geL, leL, not_true_eq_false, not_false_eq_true, if_true, if_false, and_self, and_true, true_and, and_false, false_and, or_self, or_true, true_or, or_false, false_or, bo_T, bo_F, bo_e0, nI10, nI00, nI11, nI01, bo_e1, nem, eqL, af_v, af_0, rf_s, rf_n, nn, ite_self, sm_cl]
  exact c_timesFelt_loop A R B T O hp (τ 0 0) 0 (Nat.zero_add _) none
theorem m_feltOf_loop (R : RMB I β) (B : BOk β) (T : RTM I τ) (O : TOk τ) (hp : p < 10) (hn : n ≤ τ 0 0) : ∀ (k i : Nat), i + k = n → ∀ l7 : Option Value, sm_at (sm_ex (d + 2)) none 168 6 [some (.ref 63), some (.int (nI p)), some (.int u), some (.int v), some (.int (nI n)), some (.int (nI (cn (fl β τ p u v) i))), some (.int (nI i)), l7] [] 81 I L (pX sw) = some (some (.int (nI (cn (fl β τ p u v) n))), 81, I, L, pX sw) := by
  obtain ⟨T1, T2⟩ := T
  obtain ⟨O1, O2⟩ := O
  intro k
  induction k with
  | zero =>
    intro i hi l7
    obtain rfl : i = n := by omega
    rw [s168_6]
    simp (discharger := (first | omega | decide | (simp only [ly63, p63_0, p63_1, p63_2, p63_7, p63_10, p63_11, p63_13, p63_14, p63_16, p63_18, p63_22, p63_23, p63_24, p63_30, p63_31, p63_32, p63_33, ly70, al70]; omega))) only [s168_0, s168_1, s168_3, s168_4, s168_8, s168_10, s168_13, s168_14, s168_15, s168_18, s168_19, s168_21, s168_22, s168_23, s168_24, s168_27, s168_29, s168_31, s168_33, s168_34, s168_37, s168_38, s168_41, s168_42, s168_44, s168_45, s168_46, s168_47, s168_48, s168_50, s168_51, s168_52, s168_53, s168_54, s168_55, s168_56, s168_59, s168_62, s168_63, s168_66, s168_67, s168_68, s168_70, s168_73, s168_76, s168_78, ltI, geL, leL, not_true_eq_false, not_false_eq_true, if_true, if_false, and_self, and_true, true_and, and_false, false_and, or_self, or_true, true_or, or_false, false_or, bo_T, bo_F, bo_e0, nI10, nI00, nI11, nI01, bo_e1, nem, eqL, af_v, af_0, rf_s, rf_n, nn, ite_self, ly63, p63_0, p63_1, p63_2, p63_7, p63_10, p63_11, p63_13, p63_14, p63_16, p63_18, p63_22, p63_23, p63_24, p63_30, p63_31, p63_32, p63_33, ly70, al70, leN, Nat.le_refl]
  | succ k ih =>
    intro i hi l7
    have c1 : ¬ n ≤ i := by omega
    have o := O2 i (by omega)
    have t2 := T2 i (by omega)
    have := ih (i + 1) (by omega)
    rw [s168_6]
    cases hd : dl β (τ 1 i) p with
    | none =>
      have e : fl β τ p u v i = false := by unfold fl; rw [hd]
      rw [cn_s, e, if_neg (by decide), Nat.add_zero] at this
      simp (discharger := (first | omega | decide | (simp only [ly63, p63_0, p63_1, p63_2, p63_7, p63_10, p63_11, p63_13, p63_14, p63_16, p63_18, p63_22, p63_23, p63_24, p63_30, p63_31, p63_32, p63_33, ly70, al70]; omega))) only [s168_0, s168_1, s168_3, s168_4, s168_8, s168_10, s168_13, s168_14, s168_15, s168_18, s168_19, s168_21, s168_22, s168_23, s168_24, s168_27, s168_29, s168_31, s168_33, s168_34, s168_37, s168_38, s168_41, s168_42, s168_44, s168_45, s168_46, s168_47, s168_48, s168_50, s168_51, s168_52, s168_53, s168_54, s168_55, s168_56, s168_59, s168_62, s168_63, s168_66, s168_67, s168_68, s168_70, s168_73, s168_76, s168_78, ltI, geL, leL, not_true_eq_false, not_false_eq_true, if_true, if_false, and_self, and_true, true_and, and_false, false_and, or_self, or_true, true_or, or_false, false_or, bo_T, bo_F, bo_e0, nI10, nI00, nI11, nI01, bo_e1, nem, eqL, af_v, af_0, rf_s, rf_n, nn, ite_self, ly63, p63_0, p63_1, p63_2, p63_7, p63_10, p63_11, p63_13, p63_14, p63_16, p63_18, p63_22, p63_23, p63_24, p63_30, p63_31, p63_32, p63_33, ly70, al70, leN, c1, mulN, t2.1, t2.2, m_lateBy R B o.1 hp, hd, oI, addN, sm_cl, Nat.add_zero]
      exact this _
    | some s =>
      have hs := dl_le B o.1 hp hd
      by_cases c : u ≤ nI (τ 2 i + s) ∧ nI (τ 2 i + s) ≤ v
      · have e : fl β τ p u v i = true := by unfold fl; rw [hd]; exact decide_eq_true c
        rw [cn_s, e, if_pos rfl] at this
        simp (discharger := (first | omega | decide | (simp only [ly63, p63_0, p63_1, p63_2, p63_7, p63_10, p63_11, p63_13, p63_14, p63_16, p63_18, p63_22, p63_23, p63_24, p63_30, p63_31, p63_32, p63_33, ly70, al70]; omega))) only [s168_0, s168_1, s168_3, s168_4, s168_8, s168_10, s168_13, s168_14, s168_15, s168_18, s168_19, s168_21, s168_22, s168_23, s168_24, s168_27, s168_29, s168_31, s168_33, s168_34, s168_37, s168_38, s168_41, s168_42, s168_44, s168_45, s168_46, s168_47, s168_48, s168_50, s168_51, s168_52, s168_53, s168_54, s168_55, s168_56, s168_59, s168_62, s168_63, s168_66, s168_67, s168_68, s168_70, s168_73, s168_76, s168_78, ltI, geL, leL, not_true_eq_false, not_false_eq_true, if_true, if_false, and_self, and_true, true_and, and_false, false_and, or_self, or_true, true_or, or_false, false_or, bo_T, bo_F, bo_e0, nI10, nI00, nI11, nI01, bo_e1, nem, eqL, af_v, af_0, rf_s, rf_n, nn, ite_self, ly63, p63_0, p63_1, p63_2, p63_7, p63_10, p63_11, p63_13, p63_14, p63_16, p63_18, p63_22, p63_23, p63_24, p63_30, p63_31, p63_32, p63_33, ly70, al70, leN, c1, mulN, t2.1, t2.2, m_lateBy R B o.1 hp, hd, oI, addN, sm_cl, neN1, m_in, wl, c]
        exact this _
      · have e : fl β τ p u v i = false := by unfold fl; rw [hd]; exact decide_eq_false c
        rw [cn_s, e, if_neg (by decide), Nat.add_zero] at this
        simp (discharger := (first | omega | decide | (simp only [ly63, p63_0, p63_1, p63_2, p63_7, p63_10, p63_11, p63_13, p63_14, p63_16, p63_18, p63_22, p63_23, p63_24, p63_30, p63_31, p63_32, p63_33, ly70, al70]; omega))) only [s168_0, s168_1, s168_3, s168_4, s168_8, s168_10, s168_13, s168_14, s168_15, s168_18, s168_19, s168_21, s168_22, s168_23, s168_24, s168_27, s168_29, s168_31, s168_33, s168_34, s168_37, s168_38, s168_41, s168_42, s168_44, s168_45, s168_46, s168_47, s168_48, s168_50, s168_51, s168_52, s168_53, s168_54, s168_55, s168_56, s168_59, s168_62, s168_63, s168_66, s168_67, s168_68, s168_70, s168_73, s168_76, s168_78, ltI, geL, leL, not_true_eq_false, not_false_eq_true, if_true, if_false, and_self, and_true, true_and, and_false, false_and, or_self, or_true, true_or, or_false, false_or, bo_T, bo_F, bo_e0, nI10, nI00, nI11, nI01, bo_e1, nem, eqL, af_v, af_0, rf_s, rf_n, nn, ite_self, ly63, p63_0, p63_1, p63_2, p63_7, p63_10, p63_11, p63_13, p63_14, p63_16, p63_18, p63_22, p63_23, p63_24, p63_30, p63_31, p63_32, p63_33, ly70, al70, leN, c1, mulN, t2.1, t2.2, m_lateBy R B o.1 hp, hd, oI, addN, sm_cl, neN1, m_in, wl, c, Nat.add_zero]
        exact this _
theorem m_feltOf (R : RMB I β) (B : BOk β) (T : RTM I τ) (O : TOk τ) (hp : p < 10) (hn : n ≤ τ 0 0) : sm_ex (d + 3) 168 [.ref 63, .int (nI p), .int u, .int v, .int (nI n)] 81 I L (pX sw) = some (some (.int (nI (cn (fl β τ p u v) n))), 81, I, L, pX sw) := by
  rw [e168]
  simp only [s168_0, s168_1, s168_3, s168_4, s168_8, s168_10, s168_13, s168_14, s168_15, s168_18, s168_19, s168_21, s168_22, s168_23, s168_24, s168_27, s168_29, s168_31, s168_33, s168_34, s168_37, s168_38, s168_41, s168_42, s168_44, s168_45, s168_46, s168_47, s168_48, s168_50, s168_51, s168_52, s168_53, s168_54, s168_55, s168_56, s168_59, s168_62, s168_63, s168_66, s168_67, s168_68, s168_70, s168_73, s168_76, s168_78, ltI, geL, leL, not_true_eq_false, not_false_eq_true, if_true, if_false, and_self, and_true, true_and, and_false, false_and, or_self, or_true, true_or, or_false, false_or, bo_T, bo_F, bo_e0, nI10, nI00, nI11, nI01, bo_e1, nem, eqL, af_v, af_0, rf_s, rf_n, nn, ite_self, sm_cl]
  exact m_feltOf_loop R B T O hp hn n 0 (Nat.zero_add _) none
theorem c_felt_1 (h : ¬ (nI 0 ≤ x ∧ x ≤ nI 9)) : sm_ex (d + 5) 105 [.ref 0, .int x, .int u, .int v] 81 I L (pX sw) = some (some (.int (-101)), 81, I, L, pX sw) := by
  rw [e105]
  simp only [s105_0, s105_1, s105_4, s105_7, s105_9, s105_10, s105_11, s105_12, s105_15, s105_18, s105_20, s105_21, s105_22, s105_25, s105_26, s105_29, s105_30, s105_31, s105_32, s105_35, ltI, geL, leL, not_true_eq_false, not_false_eq_true, if_true, if_false, and_self, and_true, true_and, and_false, false_and, or_self, or_true, true_or, or_false, false_or, bo_T, bo_F, bo_e0, nI10, nI00, nI11, nI01, bo_e1, nem, eqL, af_v, af_0, rf_s, rf_n, nn, ite_self, h_isPerson, h]
theorem c_felt_2 (h : (nI 0 ≤ x ∧ x ≤ nI 9)) (h2 : ¬ ((nI 0 ≤ u ∧ u ≤ nI 1999) ∧ u ≤ v ∧ v ≤ nI 1999)) : sm_ex (d + 5) 105 [.ref 0, .int x, .int u, .int v] 81 I L (pX sw) = some (some (.int (-102)), 81, I, L, pX sw) := by
  rw [e105]
  simp only [s105_0, s105_1, s105_4, s105_7, s105_9, s105_10, s105_11, s105_12, s105_15, s105_18, s105_20, s105_21, s105_22, s105_25, s105_26, s105_29, s105_30, s105_31, s105_32, s105_35, ltI, geL, leL, not_true_eq_false, not_false_eq_true, if_true, if_false, and_self, and_true, true_and, and_false, false_and, or_self, or_true, true_or, or_false, false_or, bo_T, bo_F, bo_e0, nI10, nI00, nI11, nI01, bo_e1, nem, eqL, af_v, af_0, rf_s, rf_n, nn, ite_self, h_isPerson, h_isSpan, h, h2]
theorem c_felt_3 (R : RB (rg sw) I β) (B : BOk β) (T : RTC I τ) (O : TOk τ) (hp : p < 10) (h2 : ((nI 0 ≤ u ∧ u ≤ nI 1999) ∧ u ≤ v ∧ v ≤ nI 1999)) : sm_ex (d + 5) 105 [.ref 0, .int (nI p), .int u, .int v] 81 I L (pX sw) = some (some (.int (nI (cn (fl β τ p u v) (τ 0 0)))), 81, I, L, pX sw) := by
  rw [e105]
  simp (discharger := (first | omega | decide | (simp only [ly0, p0_0, p0_1, p0_2, p0_3, p0_4, p0_5, p0_6, p0_7, p0_8, p0_9, ly3, p3_0, p3_1, p3_2]; omega))) only [s105_0, s105_1, s105_4, s105_7, s105_9, s105_10, s105_11, s105_12, s105_15, s105_18, s105_20, s105_21, s105_22, s105_25, s105_26, s105_29, s105_30, s105_31, s105_32, s105_35, ltI, geL, leL, not_true_eq_false, not_false_eq_true, if_true, if_false, and_self, and_true, true_and, and_false, false_and, or_self, or_true, true_or, or_false, false_or, bo_T, bo_F, bo_e0, nI10, nI00, nI11, nI01, bo_e1, nem, eqL, af_v, af_0, rf_s, rf_n, nn, ite_self, ly0, p0_0, p0_1, p0_2, p0_3, p0_4, p0_5, p0_6, p0_7, p0_8, p0_9, ly3, p3_0, p3_1, p3_2, h_isPerson, h_isSpan, ixt, h2, c_timesFelt (RA_rg sw) R B T O hp]
theorem m_felt_1 (h : ¬ (nI 0 ≤ x ∧ x ≤ nI 9)) : sm_ex (d + 4) 170 [.ref 63, .int x, .int u, .int v] 81 I L (pX sw) = some (some (.int (-101)), 81, I, L, pX sw) := by
  rw [e170]
  simp only [s170_0, s170_1, s170_4, s170_7, s170_9, s170_10, s170_11, s170_12, s170_15, s170_18, s170_19, s170_20, s170_21, s170_22, s170_23, s170_26, s170_29, s170_32, s170_34, ltI, geL, leL, not_true_eq_false, not_false_eq_true, if_true, if_false, and_self, and_true, true_and, and_false, false_and, or_self, or_true, true_or, or_false, false_or, bo_T, bo_F, bo_e0, nI10, nI00, nI11, nI01, bo_e1, nem, eqL, af_v, af_0, rf_s, rf_n, nn, ite_self, m_isPerson, h]
theorem m_felt_2 (h : (nI 0 ≤ x ∧ x ≤ nI 9)) (h2 : ¬ ((nI 0 ≤ u ∧ u ≤ nI 1999) ∧ u ≤ v ∧ v ≤ nI 1999)) : sm_ex (d + 4) 170 [.ref 63, .int x, .int u, .int v] 81 I L (pX sw) = some (some (.int (-102)), 81, I, L, pX sw) := by
  rw [e170]
  simp only [s170_0, s170_1, s170_4, s170_7, s170_9, s170_10, s170_11, s170_12, s170_15, s170_18, s170_19, s170_20, s170_21, s170_22, s170_23, s170_26, s170_29, s170_32, s170_34, ltI, geL, leL, not_true_eq_false, not_false_eq_true, if_true, if_false, and_self, and_true, true_and, and_false, false_and, or_self, or_true, true_or, or_false, false_or, bo_T, bo_F, bo_e0, nI10, nI00, nI11, nI01, bo_e1, nem, eqL, af_v, af_0, rf_s, rf_n, nn, ite_self, m_isPerson, m_areMinutes, h, h2]
theorem m_felt_3 (R : RMB I β) (B : BOk β) (T : RTM I τ) (O : TOk τ) (hp : p < 10) (h2 : ((nI 0 ≤ u ∧ u ≤ nI 1999) ∧ u ≤ v ∧ v ≤ nI 1999)) : sm_ex (d + 4) 170 [.ref 63, .int (nI p), .int u, .int v] 81 I L (pX sw) = some (some (.int (nI (cn (fl β τ p u v) (τ 0 0)))), 81, I, L, pX sw) := by
  rw [e170]
  simp (discharger := (first | omega | decide | (simp only [ly63, p63_0, p63_1, p63_2, p63_7, p63_10, p63_11, p63_13, p63_14, p63_16, p63_18, p63_22, p63_23, p63_24, p63_30, p63_31, p63_32, p63_33]; omega))) only [s170_0, s170_1, s170_4, s170_7, s170_9, s170_10, s170_11, s170_12, s170_15, s170_18, s170_19, s170_20, s170_21, s170_22, s170_23, s170_26, s170_29, s170_32, s170_34, ltI, geL, leL, not_true_eq_false, not_false_eq_true, if_true, if_false, and_self, and_true, true_and, and_false, false_and, or_self, or_true, true_or, or_false, false_or, bo_T, bo_F, bo_e0, nI10, nI00, nI11, nI01, bo_e1, nem, eqL, af_v, af_0, rf_s, rf_n, nn, ite_self, ly63, p63_0, p63_1, p63_2, p63_7, p63_10, p63_11, p63_13, p63_14, p63_16, p63_18, p63_22, p63_23, p63_24, p63_30, p63_31, p63_32, p63_33, m_isPerson, m_areMinutes, ixt, h2, T.1, m_feltOf R B T O hp (Nat.le_refl _)]
end FE
