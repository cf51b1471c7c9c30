section MB
variable {d : Nat} {I : sm_Im} {L : sm_Lm} {sw : Bool} {x y z : Int32} {a b m n q kd am mn j p r k nb t f : Nat} {w : Int64} {β τ : Nat → Nat → Nat}
def RMB (I : sm_Im) (β : Nat → Nat → Nat) : Prop := I 63 8 = nI (β 0 0) ∧ (∀ k, k < β 0 0 → I 68 (7 * k) = nI (β 1 k) ∧ I 68 (7 * k + 1) = nI (β 3 k) ∧ I 68 (7 * k + 2) = nI (β 2 k) ∧ (∀ j, j < β 3 k → I 68 (7 * k + 3 + j) = nI (β (6 + k) j)) ∧ ∀ j, β 3 k ≤ j → j < 4 → I 68 (7 * k + 3 + j) = -1) ∧ (∀ p, p < 10 → I 69 p = if β 4 p < β 0 0 then nI (β 4 p) else -1)
theorem m_placeIn_loop (R : RMB I β) (O : BOk β) (hp : p < 10) (hb : β 4 p = b) (hb2 : b < β 0 0) : ∀ (k i : Nat), i + k = β 3 b → sm_at (sm_ex d) none 166 5 [some (.ref 63), some (.int (nI b)), some (.int (nI p)), some (.int (if β 5 p < i then nI (β 5 p) else -1)), some (.int (nI i))] [] 81 I L (pX sw) = some (some (.int (nI (β 5 p))), 81, I, L, pX sw) := by
  obtain ⟨R1, R2, R3⟩ := R
  obtain ⟨O1, O2, O3⟩ := O
  obtain ⟨q1, q2, q3, q4, q5⟩ := R2 b hb2
  obtain ⟨o1, o2, o3, o4, o5⟩ := O2 b hb2
  have pp := O3 p hp (by omega)
  rw [hb] at pp
  intro k
  induction k with
  | zero =>
    intro i hi
    obtain rfl : i = β 3 b := by omega
    rw [s166_5]
    simp (discharger := (first | omega | decide | (simp only [ly63, p63_0, p63_1, p63_2, p63_7, p63_10, p63_11, p63_13, p63_14, p63_16, p63_18, p63_22, p63_23, p63_24, p63_30, p63_31, p63_32, p63_33, ly68, al68]; omega))) only [s166_0, s166_1, s166_2, s166_3, s166_7, s166_8, s166_11, s166_13, s166_14, s166_15, s166_16, s166_17, s166_18, s166_21, s166_22, s166_25, s166_27, s166_28, s166_29, s166_30, s166_31, s166_33, s166_34, s166_35, s166_36, s166_39, s166_41, s166_44, s166_45, s166_46, s166_49, s166_52, s166_53, ltI, geL, leL, not_true_eq_false, not_false_eq_true, if_true, if_false, and_self, and_true, true_and, and_false, false_and, or_self, or_true, true_or, or_false, false_or, bo_T, bo_F, bo_e0, nI10, nI00, nI11, nI01, bo_e1, nem, eqL, af_v, af_0, rf_s, rf_n, nn, ite_self, ly63, p63_0, p63_1, p63_2, p63_7, p63_10, p63_11, p63_13, p63_14, p63_16, p63_18, p63_22, p63_23, p63_24, p63_30, p63_31, p63_32, p63_33, ly68, al68, mulN, addN, q2, leN, Nat.le_refl, pp.1]
  | succ k ih =>
    intro i hi
    have c1 : ¬ β 3 b ≤ i := by omega
    have o6 := o5 i (by omega)
    rw [s166_5]
    by_cases c2 : β (6 + b) i = p
    · have e5 : β 5 p = i := by rw [← c2]; exact o6.2.2
      have := ih (i + 1) (by omega)
      rw [e5, if_pos (by omega)] at this
      rw [e5]
      simp (discharger := (first | omega | decide | (simp only [ly63, p63_0, p63_1, p63_2, p63_7, p63_10, p63_11, p63_13, p63_14, p63_16, p63_18, p63_22, p63_23, p63_24, p63_30, p63_31, p63_32, p63_33, ly68, al68]; omega))) only [s166_0, s166_1, s166_2, s166_3, s166_7, s166_8, s166_11, s166_13, s166_14, s166_15, s166_16, s166_17, s166_18, s166_21, s166_22, s166_25, s166_27, s166_28, s166_29, s166_30, s166_31, s166_33, s166_34, s166_35, s166_36, s166_39, s166_41, s166_44, s166_45, s166_46, s166_49, s166_52, s166_53, ltI, geL, leL, not_true_eq_false, not_false_eq_true, if_true, if_false, and_self, and_true, true_and, and_false, false_and, or_self, or_true, true_or, or_false, false_or, bo_T, bo_F, bo_e0, nI10, nI00, nI11, nI01, bo_e1, nem, eqL, af_v, af_0, rf_s, rf_n, nn, ite_self, ly63, p63_0, p63_1, p63_2, p63_7, p63_10, p63_11, p63_13, p63_14, p63_16, p63_18, p63_22, p63_23, p63_24, p63_30, p63_31, p63_32, p63_33, ly68, al68, mulN, addN, q2, leN, c1, q4 i (by omega), c2, eqN, sm_cl]
      exact this
    · have e5 : ¬ β 5 p = i := fun q => c2 (by rw [← q]; exact pp.2)
      have := ih (i + 1) (by omega)
      have e6 : (if β 5 p < i + 1 then nI (β 5 p) else -1) = (if β 5 p < i then nI (β 5 p) else -1) := by by_cases h : β 5 p < i; rw [if_pos h, if_pos (by omega)]; rw [if_neg h, if_neg (by omega)]
      rw [e6] at this
      simp (discharger := (first | omega | decide | (simp only [ly63, p63_0, p63_1, p63_2, p63_7, p63_10, p63_11, p63_13, p63_14, p63_16, p63_18, p63_22, p63_23, p63_24, p63_30, p63_31, p63_32, p63_33, ly68, al68]; omega))) only [s166_0, s166_1, s166_2, s166_3, s166_7, s166_8, s166_11, s166_13, s166_14, s166_15, s166_16, s166_17, s166_18, s166_21, s166_22, s166_25, s166_27, s166_28, s166_29, s166_30, s166_31, s166_33, s166_34, s166_35, s166_36, s166_39, s166_41, s166_44, s166_45, s166_46, s166_49, s166_52, s166_53, ltI, geL, leL, not_true_eq_false, not_false_eq_true, if_true, if_false, and_self, and_true, true_and, and_false, false_and, or_self, or_true, true_or, or_false, false_or, bo_T, bo_F, bo_e0, nI10, nI00, nI11, nI01, bo_e1, nem, eqL, af_v, af_0, rf_s, rf_n, nn, ite_self, ly63, p63_0, p63_1, p63_2, p63_7, p63_10, p63_11, p63_13, p63_14, p63_16, p63_18, p63_22, p63_23, p63_24, p63_30, p63_31, p63_32, p63_33, ly68, al68, mulN, addN, q2, leN, c1, q4 i (by omega), c2, eqN, sm_cl]
      exact this
theorem m_placeIn (R : RMB I β) (O : BOk β) (hp : p < 10) (hb : β 4 p = b) (hb2 : b < β 0 0) : sm_ex (d + 1) 166 [.ref 63, .int (nI b), .int (nI p)] 81 I L (pX sw) = some (some (.int (nI (β 5 p))), 81, I, L, pX sw) := by
  rw [e166]
  simp only [s166_0, s166_1, s166_2, s166_3, s166_7, s166_8, s166_11, s166_13, s166_14, s166_15, s166_16, s166_17, s166_18, s166_21, s166_22, s166_25, s166_27, s166_28, s166_29, s166_30, s166_31, s166_33, s166_34, s166_35, s166_36, s166_39, s166_41, s166_44, s166_45, s166_46, s166_49, s166_52, s166_53, ltI, geL, leL, not_true_eq_false, not_false_eq_true, if_true, if_false, and_self, and_true, true_and, and_false, false_and, or_self, or_true, true_or, or_false, false_or, bo_T, bo_F, bo_e0, nI10, nI00, nI11, nI01, bo_e1, nem, eqL, af_v, af_0, rf_s, rf_n, nn, ite_self, sm_cl]
  have := m_placeIn_loop (d := d) (L := L) (sw := sw) R O hp hb hb2 (β 3 b) 0 (Nat.zero_add _)
  rw [if_neg (Nat.not_lt_zero _)] at this
  exact this
theorem m_lateBy (R : RMB I β) (O : BOk β) (ht : t < 10) (hf : f < 10) : sm_ex (d + 2) 167 [.ref 63, .int (nI t), .int (nI f)] 81 I L (pX sw) = some (some (.int (oI (dl β t f))), 81, I, L, pX sw) := by
  have R0 := R
  have O0 := O
  obtain ⟨R1, R2, R3⟩ := R
  obtain ⟨O1, O2, O3⟩ := O
  rw [e167]
  unfold dl
  by_cases h : β 4 f < β 0 0
  · obtain ⟨q1, q2, q3, q4, q5⟩ := R2 _ h
    obtain ⟨o1, o2, o3, o4, o5⟩ := O2 _ h
    have n1 : (nI (β 4 f) = -1) = False := neN1 (by omega)
    by_cases h2 : β 4 t = β 4 f
    · have hb : β 4 t < β 0 0 := by omega
      have pt := O3 t ht hb
      have pf := O3 f hf h
      rw [h2] at pt
      have h2' : β 4 f = β 4 t := h2.symm
      by_cases h3 : t = f
      · subst h3
        simp (discharger := (first | omega | decide | (simp only [ly63, p63_0, p63_1, p63_2, p63_7, p63_10, p63_11, p63_13, p63_14, p63_16, p63_18, p63_22, p63_23, p63_24, p63_30, p63_31, p63_32, p63_33, ly68, al68, ly69, al69]; omega))) only [s167_0, s167_1, s167_4, s167_5, s167_6, s167_7, s167_8, s167_9, s167_12, s167_13, s167_16, s167_17, s167_18, s167_19, s167_22, s167_23, s167_24, s167_27, s167_28, s167_29, s167_30, s167_33, s167_35, s167_36, s167_37, s167_38, s167_39, s167_40, s167_42, s167_43, s167_46, s167_48, s167_49, s167_50, s167_51, s167_53, s167_54, s167_55, s167_56, s167_59, s167_60, s167_61, s167_62, s167_65, s167_66, s167_68, s167_69, s167_71, s167_72, s167_74, s167_76, s167_77, s167_80, s167_82, s167_85, s167_87, s167_88, s167_91, s167_92, s167_95, s167_97, s167_98, s167_99, s167_100, s167_101, s167_102, s167_105, s167_106, ltI, geL, leL, not_true_eq_false, not_false_eq_true, if_true, if_false, and_self, and_true, true_and, and_false, false_and, or_self, or_true, true_or, or_false, false_or, bo_T, bo_F, bo_e0, nI10, nI00, nI11, nI01, bo_e1, nem, eqL, af_v, af_0, rf_s, rf_n, nn, ite_self, ly63, p63_0, p63_1, p63_2, p63_7, p63_10, p63_11, p63_13, p63_14, p63_16, p63_18, p63_22, p63_23, p63_24, p63_30, p63_31, p63_32, p63_33, ly68, al68, ly69, al69, R3 t ht, h, n1, eqN, oI, sm_cl]
      · have e : nI (β 5 f) - nI (β 5 t) + nI (β 3 (β 4 f)) = nI (β 5 f + β 3 (β 4 f) - β 5 t) := by
          have h1 : nI (β 5 f + β 3 (β 4 f) - β 5 t) + nI (β 5 t) = nI (β 5 f) + nI (β 3 (β 4 f)) := by rw [addN, addN]; congr 1; omega
          have : nI (β 5 f + β 3 (β 4 f) - β 5 t) = nI (β 5 f) + nI (β 3 (β 4 f)) - nI (β 5 t) := by rw [← h1]; exact (Int32.add_sub_cancel _ _).symm
          rw [this, Int32.sub_eq_add_neg, Int32.sub_eq_add_neg, Int32.add_assoc, Int32.add_assoc, Int32.add_comm (-nI (β 5 t))]
        have e2 : nI (β 5 f + β 3 (β 4 f) - β 5 t) - nI (β 5 f + β 3 (β 4 f) - β 5 t) / nI (β 3 (β 4 f)) * nI (β 3 (β 4 f)) = nI ((β 5 f + β 3 (β 4 f) - β 5 t) % β 3 (β 4 f)) := pk_rem (by omega) (by omega) (by omega)
        have e3 : (β 5 f + β 3 (β 4 f) - β 5 t) % β 3 (β 4 f) = if β 5 t ≤ β 5 f then β 5 f - β 5 t else β 5 f + β 3 (β 4 f) - β 5 t := by
          by_cases hc : β 5 t ≤ β 5 f
          · rw [if_pos hc, show β 5 f + β 3 (β 4 f) - β 5 t = (β 5 f - β 5 t) + β 3 (β 4 f) by omega, Nat.add_mod_right, Nat.mod_eq_of_lt (by omega)]
          · rw [if_neg hc, Nat.mod_eq_of_lt (by omega)]
        have z0 : ¬ nI (β 3 (β 4 f)) = 0 := by rw [zI_0, eqN (by omega) (by decide)]; omega
        rcases (show β 1 (β 4 f) = 0 ∨ β 1 (β 4 f) = 1 ∨ β 1 (β 4 f) = 2 ∨ β 1 (β 4 f) = 3 by omega) with k0 | k0 | k0 | k0 <;>
          simp (discharger := first | assumption | omega | decide | (simp only [ly63, p63_0, p63_1, p63_2, p63_7, p63_10, p63_11, p63_13, p63_14, p63_16, p63_18, p63_22, p63_23, p63_24, p63_30, p63_31, p63_32, p63_33, ly68, al68, ly69, al69]; omega)) only [s167_0, s167_1, s167_4, s167_5, s167_6, s167_7, s167_8, s167_9, s167_12, s167_13, s167_16, s167_17, s167_18, s167_19, s167_22, s167_23, s167_24, s167_27, s167_28, s167_29, s167_30, s167_33, s167_35, s167_36, s167_37, s167_38, s167_39, s167_40, s167_42, s167_43, s167_46, s167_48, s167_49, s167_50, s167_51, s167_53, s167_54, s167_55, s167_56, s167_59, s167_60, s167_61, s167_62, s167_65, s167_66, s167_68, s167_69, s167_71, s167_72, s167_74, s167_76, s167_77, s167_80, s167_82, s167_85, s167_87, s167_88, s167_91, s167_92, s167_95, s167_97, s167_98, s167_99, s167_100, s167_101, s167_102, s167_105, s167_106, ltI, geL, leL, not_true_eq_false, not_false_eq_true, if_true, if_false, and_self, and_true, true_and, and_false, false_and, or_self, or_true, true_or, or_false, false_or, bo_T, bo_F, bo_e0, nI10, nI00, nI11, nI01, bo_e1, nem, eqL, af_v, af_0, rf_s, rf_n, nn, ite_self, ly63, p63_0, p63_1, p63_2, p63_7, p63_10, p63_11, p63_13, p63_14, p63_16, p63_18, p63_22, p63_23, p63_24, p63_30, p63_31, p63_32, p63_33, ly68, al68, ly69, al69, R3 t ht, R3 f hf, h, hb, h2, h3, n1, eqN, sm_cl, mulN, addN, q1, q2, q3, k0, m_placeIn R0 O0 hf rfl h, m_placeIn R0 O0 ht h2 h, e, e2, e3, oI, dly] <;> rfl
    · have hne : ¬ β 4 f = β 4 t := fun q => h2 q.symm
      have c2 : ((if β 4 t < β 0 0 then nI (β 4 t) else -1) = nI (β 4 f)) = False := by
        apply eq_false
        intro e
        by_cases hb : β 4 t < β 0 0
        · rw [if_pos hb, eqN (by omega) (by omega)] at e; exact h2 e
        · rw [if_neg hb, neN2 (by omega)] at e; exact e
      simp (discharger := (first | omega | decide | (simp only [ly63, p63_0, p63_1, p63_2, p63_7, p63_10, p63_11, p63_13, p63_14, p63_16, p63_18, p63_22, p63_23, p63_24, p63_30, p63_31, p63_32, p63_33, ly68, al68, ly69, al69]; omega))) only [s167_0, s167_1, s167_4, s167_5, s167_6, s167_7, s167_8, s167_9, s167_12, s167_13, s167_16, s167_17, s167_18, s167_19, s167_22, s167_23, s167_24, s167_27, s167_28, s167_29, s167_30, s167_33, s167_35, s167_36, s167_37, s167_38, s167_39, s167_40, s167_42, s167_43, s167_46, s167_48, s167_49, s167_50, s167_51, s167_53, s167_54, s167_55, s167_56, s167_59, s167_60, s167_61, s167_62, s167_65, s167_66, s167_68, s167_69, s167_71, s167_72, s167_74, s167_76, s167_77, s167_80, s167_82, s167_85, s167_87, s167_88, s167_91, s167_92, s167_95, s167_97, s167_98, s167_99, s167_100, s167_101, s167_102, s167_105, s167_106, ltI, geL, leL, not_true_eq_false, not_false_eq_true, if_true, if_false, and_self, and_true, true_and, and_false, false_and, or_self, or_true, true_or, or_false, false_or, bo_T, bo_F, bo_e0, nI10, nI00, nI11, nI01, bo_e1, nem, eqL, af_v, af_0, rf_s, rf_n, nn, ite_self, ly63, p63_0, p63_1, p63_2, p63_7, p63_10, p63_11, p63_13, p63_14, p63_16, p63_18, p63_22, p63_23, p63_24, p63_30, p63_31, p63_32, p63_33, ly68, al68, ly69, al69, R3 t ht, R3 f hf, h, hne, n1, c2, oI, sm_cl]
  · have hne : ¬ (β 4 t < β 0 0 ∧ β 4 f = β 4 t ∧ ¬ t = f) := fun q => by omega
    simp (discharger := (first | omega | decide | (simp only [ly63, p63_0, p63_1, p63_2, p63_7, p63_10, p63_11, p63_13, p63_14, p63_16, p63_18, p63_22, p63_23, p63_24, p63_30, p63_31, p63_32, p63_33, ly68, al68, ly69, al69]; omega))) only [s167_0, s167_1, s167_4, s167_5, s167_6, s167_7, s167_8, s167_9, s167_12, s167_13, s167_16, s167_17, s167_18, s167_19, s167_22, s167_23, s167_24, s167_27, s167_28, s167_29, s167_30, s167_33, s167_35, s167_36, s167_37, s167_38, s167_39, s167_40, s167_42, s167_43, s167_46, s167_48, s167_49, s167_50, s167_51, s167_53, s167_54, s167_55, s167_56, s167_59, s167_60, s167_61, s167_62, s167_65, s167_66, s167_68, s167_69, s167_71, s167_72, s167_74, s167_76, s167_77, s167_80, s167_82, s167_85, s167_87, s167_88, s167_91, s167_92, s167_95, s167_97, s167_98, s167_99, s167_100, s167_101, s167_102, s167_105, s167_106, ltI, geL, leL, not_true_eq_false, not_false_eq_true, if_true, if_false, and_self, and_true, true_and, and_false, false_and, or_self, or_true, true_or, or_false, false_or, bo_T, bo_F, bo_e0, nI10, nI00, nI11, nI01, bo_e1, nem, eqL, af_v, af_0, rf_s, rf_n, nn, ite_self, ly63, p63_0, p63_1, p63_2, p63_7, p63_10, p63_11, p63_13, p63_14, p63_16, p63_18, p63_22, p63_23, p63_24, p63_30, p63_31, p63_32, p63_33, ly68, al68, ly69, al69, R3 f hf, h, hne, oI, sm_cl]
end MB
