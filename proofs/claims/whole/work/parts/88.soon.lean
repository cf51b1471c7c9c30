section SN
variable {d N : Nat} {I J : sm_Im} {L : sm_Lm} {P : sm_Pm} {sw : Bool} {x y z u v : Int32} {a b m n q i j p k c s w o R : Nat} {f : Nat → Int32} {D W V : Mx} {β : Nat → Nat → Nat} {r t : Nat → Nat} {C C' : Nat → Nat → Prop}
theorem PW_fin (O : BOk β) (h : PW V 1000000 r t β C) (hr : ∀ k, k < 36 → r k ≤ 99) (ha : a < 6) (hb : b < 6) : V a b ≤ 99 ∨ 1000000 ≤ V a b := by
  rcases Nat.lt_or_ge (V a b) 100 with h1 | h1
  · exact Or.inl (by omega)
  · rcases Nat.lt_or_ge (V a b) 1000000 with h2 | h2
    · exfalso
      have i1 := (h.2 a b ha hb _).mp (Nat.le_refl _)
      have : V a b + 1 ≤ V a b := (h.2 a b ha hb _).mpr ⟨by
        have := i1.1
        have h99 := hr (6 * a + b) (by omega)
        unfold bs at this ⊢
        split
        · rename_i e; rw [if_pos e] at this; omega
        · rename_i e
          rw [if_neg e] at this
          split
          · omega
          · rename_i e2; rw [if_neg e2] at this; omega, fun p q s hp hq hC h1' h2' h3' => by
        have := i1.2 p q s hp hq hC h1' h2' h3'
        have := dl_le O hp hq h3'
        omega⟩
      omega
    · exact Or.inr h2
theorem fw_fin (h : ∀ a b, a < 6 → b < 6 → V a b ≤ 99 ∨ 1000000 ≤ V a b) : ∀ k, k ≤ 6 → ∀ a b, a < 6 → b < 6 → fw V k a b ≤ 99 * 2 ^ k ∨ 1000000 ≤ fw V k a b := by
  intro k
  induction k with
  | zero => intro _ a b ha hb; rw [Nat.pow_zero, Nat.mul_one]; exact h a b ha hb
  | succ k ih =>
    intro hk a b ha hb
    have i1 := ih (by omega) a b ha hb
    have i2 := ih (by omega) a k ha (by omega)
    have i3 := ih (by omega) k b (by omega) hb
    rw [Nat.pow_succ]
    show min (fw V k a b) (fw V k a k + fw V k k b) ≤ _ ∨ 1000000 ≤ min (fw V k a b) (fw V k a k + fw V k k b)
    omega
theorem fw_cap (hW : PW W 100000 r t β C) (hV : PW V 1000000 r t β C) (hr : ∀ k, k < 36 → r k ≤ 99) (ha : a < 6) (hb : b < 6) : fw W 6 a b = min 100000 (fw V 6 a b) :=
  IsC_eq (fw_C (PW_d hW)) (IsC_cap 100000 (fw_C (PW_d hV))) (PW_fun hW hV (by decide) hr (by decide)) a b ha hb
def sC (n : Nat) : Int32 := if n < 100000 then nI n else -1
def sM (n : Nat) : Int32 := if 1000000 ≤ n then -1 else nI n
theorem soon_same (O : BOk β) (hW : PW W 100000 r t β C) (hV : PW V 1000000 r t β C) (hr : ∀ k, k < 36 → r k ≤ 99) (ha : a < 6) (hb : b < 6) : sC (fw W 6 a b) = sM (fw V 6 a b) := by
  have e := fw_cap hW hV hr ha hb
  have fi := fw_fin (V := V) (fun a b ha hb => PW_fin O hV hr ha hb) 6 (Nat.le_refl _) a b ha hb
  unfold sC sM
  rcases fi with h | h
  · rw [e, if_pos (by omega), if_neg (by omega), Nat.min_eq_right (by omega)]
  · rw [e, if_neg (by omega), if_pos h]
theorem c_minutesBetween (hR : RW (I 10) D) (hD : D a b ≤ 100000) (ha : a < 6) (hb : b < 6) : sm_ex (d + 3) 43 [.ref 7, .int (nI a), .int (nI b)] 81 I L (pX sw) = some (some (.int (sC (D a b))), 81, I, L, pX sw) := by
  have h := hR a b ha hb
  have hbw : sm_ex (d + 2) 84 [.ref 9, .int (nI a), .int (nI b)] 81 I L (pX sw) = _ := c_between (d := d) WA9 ha hb
  rw [show I (9 + 1) (6 * a + b) = I 10 (6 * a + b) from rfl, h] at hbw
  rw [e43]
  unfold sC
  by_cases c : D a b < 100000
  · have c1 : ¬ 100000 ≤ D a b := by omega
    simp (discharger := (first | omega | decide | assumption | exact rg_lt | exact rg_ly | (simp only [ly7, p7_0, p7_1, p7_2, p7_3, ly9, p9_0]; omega))) only [s43_0, s43_1, s43_4, s43_5, s43_6, s43_9, s43_10, s43_11, s43_13, s43_16, s43_17, s43_20, s43_21, ltI, geL, leL, not_true_eq_false, not_false_eq_true, if_true, if_false, and_self, and_true, true_and, and_false, false_and, or_self, or_true, true_or, or_false, false_or, bo_T, bo_F, bo_e0, nI10, nI00, nI11, nI01, bo_e1, nem, eqL, af_v, af_0, rf_s, rf_n, nn, ite_self, ly7, p7_0, p7_1, p7_2, p7_3, ly9, p9_0, hbw, leN, c, c1, sm_cl]
  · have c1 : 100000 ≤ D a b := by omega
    simp (discharger := (first | omega | decide | assumption | exact rg_lt | exact rg_ly | (simp only [ly7, p7_0, p7_1, p7_2, p7_3, ly9, p9_0]; omega))) only [s43_0, s43_1, s43_4, s43_5, s43_6, s43_9, s43_10, s43_11, s43_13, s43_16, s43_17, s43_20, s43_21, ltI, geL, leL, not_true_eq_false, not_false_eq_true, if_true, if_false, and_self, and_true, true_and, and_false, false_and, or_self, or_true, true_or, or_false, false_or, bo_T, bo_F, bo_e0, nI10, nI00, nI11, nI01, bo_e1, nem, eqL, af_v, af_0, rf_s, rf_n, nn, ite_self, ly7, p7_0, p7_1, p7_2, p7_3, ly9, p9_0, hbw, leN, c, c1, sm_cl]
theorem m_soonestNow (hR : RW (I 71) D) (hD : D a b ≤ 1000000) (ha : a < 6) (hb : b < 6) : sm_ex (d + 1) 181 [.ref 63, .int (nI a), .int (nI b)] 81 I L (pX sw) = some (some (.int (sM (D a b))), 81, I, L, pX sw) := by
  have h := hR a b ha hb
  rw [e181]
  unfold sM
  by_cases c : 1000000 ≤ D a b <;> simp (discharger := (first | omega | decide | assumption | exact rg_lt | exact rg_ly | (simp only [ly63, p63_0, p63_1, p63_2, p63_7, p63_10, p63_11, p63_13, p63_14, p63_16, p63_18, p63_22, p63_23, p63_24, p63_30, p63_31, p63_32, p63_33, ly71, al71]; omega))) only [s181_0, s181_1, s181_4, s181_6, s181_7, s181_8, s181_9, s181_10, s181_11, s181_12, s181_13, s181_15, s181_18, s181_19, s181_22, s181_23, ltI, geL, leL, not_true_eq_false, not_false_eq_true, if_true, if_false, and_self, and_true, true_and, and_false, false_and, or_self, or_true, true_or, or_false, false_or, bo_T, bo_F, bo_e0, nI10, nI00, nI11, nI01, bo_e1, nem, eqL, af_v, af_0, rf_s, rf_n, nn, ite_self, ly63, p63_0, p63_1, p63_2, p63_7, p63_10, p63_11, p63_13, p63_14, p63_16, p63_18, p63_22, p63_23, p63_24, p63_30, p63_31, p63_32, p63_33, ly71, al71, mulN, addN, h, leN, c, sm_cl]
theorem c_soonest_1 (h : ¬ ((nI 0 ≤ x ∧ x ≤ nI 5) ∧ (nI 0 ≤ y ∧ y ≤ nI 5))) : sm_ex (d + 6) 108 [.ref 0, .int x, .int y] 81 I L (pX sw) = some (some (.int (-101)), 81, I, L, pX sw) := by
  rw [e108]
  by_cases h1 : (nI 0 ≤ x ∧ x ≤ nI 5)
  · have h2 : ¬ (nI 0 ≤ y ∧ y ≤ nI 5) := fun q => h ⟨h1, q⟩
    simp only [s108_0, s108_1, s108_4, s108_7, s108_8, s108_11, s108_14, s108_16, s108_17, s108_18, s108_21, s108_22, s108_25, s108_26, s108_29, s108_30, s108_33, s108_34, s108_37, s108_38, s108_39, s108_42, ltI, geL, leL, not_true_eq_false, not_false_eq_true, if_true, if_false, and_self, and_true, true_and, and_false, false_and, or_self, or_true, true_or, or_false, false_or, bo_T, bo_F, bo_e0, nI10, nI00, nI11, nI01, bo_e1, nem, eqL, af_v, af_0, rf_s, rf_n, nn, ite_self, h_isTown, h1, h2]
  · simp only [s108_0, s108_1, s108_4, s108_7, s108_8, s108_11, s108_14, s108_16, s108_17, s108_18, s108_21, s108_22, s108_25, s108_26, s108_29, s108_30, s108_33, s108_34, s108_37, s108_38, s108_39, s108_42, ltI, geL, leL, not_true_eq_false, not_false_eq_true, if_true, if_false, and_self, and_true, true_and, and_false, false_and, or_self, or_true, true_or, or_false, false_or, bo_T, bo_F, bo_e0, nI10, nI00, nI11, nI01, bo_e1, nem, eqL, af_v, af_0, rf_s, rf_n, nn, ite_self, h_isTown, h1]
theorem m_soonest_1 (h : ¬ ((nI 0 ≤ x ∧ x ≤ nI 5) ∧ (nI 0 ≤ y ∧ y ≤ nI 5))) : sm_ex (d + 6) 182 [.ref 63, .int x, .int y] 81 I L (pX sw) = some (some (.int (-101)), 81, I, L, pX sw) := by
  rw [e182]
  by_cases h1 : (nI 0 ≤ x ∧ x ≤ nI 5)
  · have h2 : ¬ (nI 0 ≤ y ∧ y ≤ nI 5) := fun q => h ⟨h1, q⟩
    simp only [s182_0, s182_1, s182_4, s182_7, s182_8, s182_11, s182_14, s182_16, s182_17, s182_18, s182_19, s182_22, s182_23, s182_26, s182_27, s182_28, s182_29, s182_32, ltI, geL, leL, not_true_eq_false, not_false_eq_true, if_true, if_false, and_self, and_true, true_and, and_false, false_and, or_self, or_true, true_or, or_false, false_or, bo_T, bo_F, bo_e0, nI10, nI00, nI11, nI01, bo_e1, nem, eqL, af_v, af_0, rf_s, rf_n, nn, ite_self, m_isTown, h1, h2]
  · simp only [s182_0, s182_1, s182_4, s182_7, s182_8, s182_11, s182_14, s182_16, s182_17, s182_18, s182_19, s182_22, s182_23, s182_26, s182_27, s182_28, s182_29, s182_32, ltI, geL, leL, not_true_eq_false, not_false_eq_true, if_true, if_false, and_self, and_true, true_and, and_false, false_and, or_self, or_true, true_or, or_false, false_or, bo_T, bo_F, bo_e0, nI10, nI00, nI11, nI01, bo_e1, nem, eqL, af_v, af_0, rf_s, rf_n, nn, ite_self, m_isTown, h1]
theorem c_unseen_1 (h : ¬ ((nI 0 ≤ x ∧ x ≤ nI 5) ∧ (nI 0 ≤ y ∧ y ≤ nI 5))) : sm_ex (d + 6) 109 [.ref 0, .int x, .int y, .int z] 81 I L (pX sw) = some (some (.int (-101)), 81, I, L, pX sw) := by
  rw [e109]
  by_cases h1 : (nI 0 ≤ x ∧ x ≤ nI 5)
  · have h2 : ¬ (nI 0 ≤ y ∧ y ≤ nI 5) := fun q => h ⟨h1, q⟩
    simp only [s109_0, s109_1, s109_4, s109_7, s109_8, s109_11, s109_14, s109_16, s109_17, s109_18, s109_20, s109_23, s109_26, s109_28, s109_29, s109_30, s109_33, s109_34, s109_37, s109_38, s109_41, s109_42, s109_45, s109_46, s109_49, s109_50, s109_51, s109_54, ltI, geL, leL, not_true_eq_false, not_false_eq_true, if_true, if_false, and_self, and_true, true_and, and_false, false_and, or_self, or_true, true_or, or_false, false_or, bo_T, bo_F, bo_e0, nI10, nI00, nI11, nI01, bo_e1, nem, eqL, af_v, af_0, rf_s, rf_n, nn, ite_self, h_isTown, h1, h2]
  · simp only [s109_0, s109_1, s109_4, s109_7, s109_8, s109_11, s109_14, s109_16, s109_17, s109_18, s109_20, s109_23, s109_26, s109_28, s109_29, s109_30, s109_33, s109_34, s109_37, s109_38, s109_41, s109_42, s109_45, s109_46, s109_49, s109_50, s109_51, s109_54, ltI, geL, leL, not_true_eq_false, not_false_eq_true, if_true, if_false, and_self, and_true, true_and, and_false, false_and, or_self, or_true, true_or, or_false, false_or, bo_T, bo_F, bo_e0, nI10, nI00, nI11, nI01, bo_e1, nem, eqL, af_v, af_0, rf_s, rf_n, nn, ite_self, h_isTown, h1]
theorem m_unseen_1 (h : ¬ ((nI 0 ≤ x ∧ x ≤ nI 5) ∧ (nI 0 ≤ y ∧ y ≤ nI 5))) : sm_ex (d + 6) 183 [.ref 63, .int x, .int y, .int z] 81 I L (pX sw) = some (some (.int (-101)), 81, I, L, pX sw) := by
  rw [e183]
  by_cases h1 : (nI 0 ≤ x ∧ x ≤ nI 5)
  · have h2 : ¬ (nI 0 ≤ y ∧ y ≤ nI 5) := fun q => h ⟨h1, q⟩
    simp only [s183_0, s183_1, s183_4, s183_7, s183_8, s183_11, s183_14, s183_16, s183_17, s183_18, s183_19, s183_20, s183_23, s183_26, s183_29, s183_31, s183_32, s183_33, s183_34, s183_37, s183_38, s183_41, s183_42, s183_43, s183_44, s183_47, ltI, geL, leL, not_true_eq_false, not_false_eq_true, if_true, if_false, and_self, and_true, true_and, and_false, false_and, or_self, or_true, true_or, or_false, false_or, bo_T, bo_F, bo_e0, nI10, nI00, nI11, nI01, bo_e1, nem, eqL, af_v, af_0, rf_s, rf_n, nn, ite_self, m_isTown, h1, h2]
  · simp only [s183_0, s183_1, s183_4, s183_7, s183_8, s183_11, s183_14, s183_16, s183_17, s183_18, s183_19, s183_20, s183_23, s183_26, s183_29, s183_31, s183_32, s183_33, s183_34, s183_37, s183_38, s183_41, s183_42, s183_43, s183_44, s183_47, ltI, geL, leL, not_true_eq_false, not_false_eq_true, if_true, if_false, and_self, and_true, true_and, and_false, false_and, or_self, or_true, true_or, or_false, false_or, bo_T, bo_F, bo_e0, nI10, nI00, nI11, nI01, bo_e1, nem, eqL, af_v, af_0, rf_s, rf_n, nn, ite_self, m_isTown, h1]
theorem b1023 : (nI 1 <<< (nI 10 &&& 31)) - nI 1 = nI 1023 := by decide
theorem c_unseen_2 (h : (nI 0 ≤ x ∧ x ≤ nI 5)) (h2 : (nI 0 ≤ y ∧ y ≤ nI 5)) (h3 : ¬ (nI 0 ≤ z ∧ z ≤ nI 1023)) : sm_ex (d + 6) 109 [.ref 0, .int x, .int y, .int z] 81 I L (pX sw) = some (some (.int (-102)), 81, I, L, pX sw) := by
  rw [e109]
  simp only [s109_0, s109_1, s109_4, s109_7, s109_8, s109_11, s109_14, s109_16, s109_17, s109_18, s109_20, s109_23, s109_26, s109_28, s109_29, s109_30, s109_33, s109_34, s109_37, s109_38, s109_41, s109_42, s109_45, s109_46, s109_49, s109_50, s109_51, s109_54, ltI, geL, leL, not_true_eq_false, not_false_eq_true, if_true, if_false, and_self, and_true, true_and, and_false, false_and, or_self, or_true, true_or, or_false, false_or, bo_T, bo_F, bo_e0, nI10, nI00, nI11, nI01, bo_e1, nem, eqL, af_v, af_0, rf_s, rf_n, nn, ite_self, h_isTown, h, h2, h_isSetOf, b1023, h3]
theorem m_unseen_2 (h : (nI 0 ≤ x ∧ x ≤ nI 5)) (h2 : (nI 0 ≤ y ∧ y ≤ nI 5)) (h3 : ¬ (nI 0 ≤ z ∧ z ≤ nI 1023)) : sm_ex (d + 6) 183 [.ref 63, .int x, .int y, .int z] 81 I L (pX sw) = some (some (.int (-102)), 81, I, L, pX sw) := by
  rw [e183]
  simp only [s183_0, s183_1, s183_4, s183_7, s183_8, s183_11, s183_14, s183_16, s183_17, s183_18, s183_19, s183_20, s183_23, s183_26, s183_29, s183_31, s183_32, s183_33, s183_34, s183_37, s183_38, s183_41, s183_42, s183_43, s183_44, s183_47, ltI, geL, leL, not_true_eq_false, not_false_eq_true, if_true, if_false, and_self, and_true, true_and, and_false, false_and, or_self, or_true, true_or, or_false, false_or, bo_T, bo_F, bo_e0, nI10, nI00, nI11, nI01, bo_e1, nem, eqL, af_v, af_0, rf_s, rf_n, nn, ite_self, m_isTown, h, h2, m_in, wN 0 (by decide), wN 1023 (by decide), wl, h3]
theorem c_soonest_2 (B : RB (rg sw) I β) (O : BOk β) (ht : ∀ p, p < 10 → I 36 p = nI (t p) ∧ t p < 6) (hr : ∀ k, k < 36 → I 8 k = nI (r k) ∧ r k ≤ 99) (h3 : ∀ a, a < 6 → r (7 * a) = 0) (ha : a < 6) (hb : b < 6) : ∃ (J1 : sm_Im) (W : Mx), (∀ c, c ≠ 10 → J1 c = I c) ∧ PW W 100000 r t β (CF β (nI 0)) ∧ sm_ex (d + 6) 108 [.ref 0, .int (nI a), .int (nI b)] 81 I L (pX sw) = some (some (.int (sC (fw W 6 a b))), 81, J1, L, pX sw) := by
  obtain ⟨J1, W, c1, c2, c3, c4⟩ := c_reckon (d := d) (x := nI 0) (L := L) (sw := sw) (rg_ge sw) (RA_rg sw) B O ht hr h3
  refine ⟨J1, W, c1, c2, ?_⟩
  rw [e108]
  simp (discharger := (first | omega | decide | assumption | exact rg_lt | exact rg_ly | (simp only [ly0, p0_0, p0_1, p0_2, p0_3, p0_4, p0_5, p0_6, p0_7, p0_8, p0_9, ly7, p7_0, p7_1, p7_2, p7_3, ly36, al36]; omega))) only [s108_0, s108_1, s108_4, s108_7, s108_8, s108_11, s108_14, s108_16, s108_17, s108_18, s108_21, s108_22, s108_25, s108_26, s108_29, s108_30, s108_33, s108_34, s108_37, s108_38, s108_39, s108_42, ltI, geL, leL, not_true_eq_false, not_false_eq_true, if_true, if_false, and_self, and_true, true_and, and_false, false_and, or_self, or_true, true_or, or_false, false_or, bo_T, bo_F, bo_e0, nI10, nI00, nI11, nI01, bo_e1, nem, eqL, af_v, af_0, rf_s, rf_n, nn, ite_self, ly0, p0_0, p0_1, p0_2, p0_3, p0_4, p0_5, p0_6, p0_7, p0_8, p0_9, ly7, p7_0, p7_1, p7_2, p7_3, ly36, al36, h_isTown, ixt, c4, c_minutesBetween (d := d + 2) c3 (Nat.le_trans (fw_le 6 a b) (c2.1 a b)) ha hb]
theorem m_soonest_2 (B : RMB I β) (O : BOk β) (ht : ∀ p, p < 10 → I 65 p = nI (t p) ∧ t p < 6) (hr : ∀ k, k < 36 → I 64 k = nI (r k) ∧ r k ≤ 99) (ha : a < 6) (hb : b < 6) : ∃ (J1 : sm_Im) (V : Mx), (∀ c, c ≠ 71 → J1 c = I c) ∧ PW V 1000000 r t β (CF β (nI 0)) ∧ sm_ex (d + 6) 182 [.ref 63, .int (nI a), .int (nI b)] 81 I L (pX sw) = some (some (.int (sM (fw V 6 a b))), 81, J1, L, pX sw) := by
  obtain ⟨J0, V, c1, c2, c3, c4⟩ := m_layWays (d := d + 1) (x := nI 0) (L := L) (sw := sw) B O ht hr
  obtain ⟨J1, e1, e2, e3⟩ := m_closeWays (d := d + 3) (L := L) (sw := sw) (I := J0) (PW_d c2) c2.1 c3
  refine ⟨J1, V, fun c hc => by rw [e1 c hc]; exact c1 c hc, c2, ?_⟩
  rw [e182]
  simp (discharger := (first | omega | decide | assumption | exact rg_lt | exact rg_ly | (simp only [ly63, p63_0, p63_1, p63_2, p63_7, p63_10, p63_11, p63_13, p63_14, p63_16, p63_18, p63_22, p63_23, p63_24, p63_30, p63_31, p63_32, p63_33]; omega))) only [s182_0, s182_1, s182_4, s182_7, s182_8, s182_11, s182_14, s182_16, s182_17, s182_18, s182_19, s182_22, s182_23, s182_26, s182_27, s182_28, s182_29, s182_32, ltI, geL, leL, not_true_eq_false, not_false_eq_true, if_true, if_false, and_self, and_true, true_and, and_false, false_and, or_self, or_true, true_or, or_false, false_or, bo_T, bo_F, bo_e0, nI10, nI00, nI11, nI01, bo_e1, nem, eqL, af_v, af_0, rf_s, rf_n, nn, ite_self, ly63, p63_0, p63_1, p63_2, p63_7, p63_10, p63_11, p63_13, p63_14, p63_16, p63_18, p63_22, p63_23, p63_24, p63_30, p63_31, p63_32, p63_33, m_isTown, ixt, c4, e3, m_soonestNow (d := d + 4) e2 (Nat.le_trans (fw_le 6 a b) (c2.1 a b)) ha hb]
theorem c_unseen_3 (B : RB (rg sw) I β) (O : BOk β) (ht : ∀ p, p < 10 → I 36 p = nI (t p) ∧ t p < 6) (hr : ∀ k, k < 36 → I 8 k = nI (r k) ∧ r k ≤ 99) (h3 : ∀ a, a < 6 → r (7 * a) = 0) (ha : a < 6) (hb : b < 6) (hz : nI 0 ≤ z ∧ z ≤ nI 1023) : ∃ (J1 : sm_Im) (W : Mx), (∀ c, c ≠ 10 → J1 c = I c) ∧ PW W 100000 r t β (CF β z) ∧ sm_ex (d + 6) 109 [.ref 0, .int (nI a), .int (nI b), .int z] 81 I L (pX sw) = some (some (.int (sC (fw W 6 a b))), 81, J1, L, pX sw) := by
  obtain ⟨J1, W, c1, c2, c3, c4⟩ := c_reckon (d := d) (x := z) (L := L) (sw := sw) (rg_ge sw) (RA_rg sw) B O ht hr h3
  refine ⟨J1, W, c1, c2, ?_⟩
  rw [e109]
  simp (discharger := (first | omega | decide | assumption | exact rg_lt | exact rg_ly | (simp only [ly0, p0_0, p0_1, p0_2, p0_3, p0_4, p0_5, p0_6, p0_7, p0_8, p0_9, ly7, p7_0, p7_1, p7_2, p7_3, ly36, al36]; omega))) only [s109_0, s109_1, s109_4, s109_7, s109_8, s109_11, s109_14, s109_16, s109_17, s109_18, s109_20, s109_23, s109_26, s109_28, s109_29, s109_30, s109_33, s109_34, s109_37, s109_38, s109_41, s109_42, s109_45, s109_46, s109_49, s109_50, s109_51, s109_54, ltI, geL, leL, not_true_eq_false, not_false_eq_true, if_true, if_false, and_self, and_true, true_and, and_false, false_and, or_self, or_true, true_or, or_false, false_or, bo_T, bo_F, bo_e0, nI10, nI00, nI11, nI01, bo_e1, nem, eqL, af_v, af_0, rf_s, rf_n, nn, ite_self, ly0, p0_0, p0_1, p0_2, p0_3, p0_4, p0_5, p0_6, p0_7, p0_8, p0_9, ly7, p7_0, p7_1, p7_2, p7_3, ly36, al36, h_isTown, ixt, h_isSetOf, b1023, hz, c4, c_minutesBetween (d := d + 2) c3 (Nat.le_trans (fw_le 6 a b) (c2.1 a b)) ha hb]
theorem m_unseen_3 (B : RMB I β) (O : BOk β) (ht : ∀ p, p < 10 → I 65 p = nI (t p) ∧ t p < 6) (hr : ∀ k, k < 36 → I 64 k = nI (r k) ∧ r k ≤ 99) (ha : a < 6) (hb : b < 6) (hz : nI 0 ≤ z ∧ z ≤ nI 1023) : ∃ (J1 : sm_Im) (V : Mx), (∀ c, c ≠ 71 → J1 c = I c) ∧ PW V 1000000 r t β (CF β z) ∧ sm_ex (d + 6) 183 [.ref 63, .int (nI a), .int (nI b), .int z] 81 I L (pX sw) = some (some (.int (sM (fw V 6 a b))), 81, J1, L, pX sw) := by
  obtain ⟨J0, V, c1, c2, c3, c4⟩ := m_layWays (d := d + 1) (x := z) (L := L) (sw := sw) B O ht hr
  obtain ⟨J1, e1, e2, e3⟩ := m_closeWays (d := d + 3) (L := L) (sw := sw) (I := J0) (PW_d c2) c2.1 c3
  refine ⟨J1, V, fun c hc => by rw [e1 c hc]; exact c1 c hc, c2, ?_⟩
  rw [e183]
  simp (discharger := (first | omega | decide | assumption | exact rg_lt | exact rg_ly | (simp only [ly63, p63_0, p63_1, p63_2, p63_7, p63_10, p63_11, p63_13, p63_14, p63_16, p63_18, p63_22, p63_23, p63_24, p63_30, p63_31, p63_32, p63_33]; omega))) only [s183_0, s183_1, s183_4, s183_7, s183_8, s183_11, s183_14, s183_16, s183_17, s183_18, s183_19, s183_20, s183_23, s183_26, s183_29, s183_31, s183_32, s183_33, s183_34, s183_37, s183_38, s183_41, s183_42, s183_43, s183_44, s183_47, ltI, geL, leL, not_true_eq_false, not_false_eq_true, if_true, if_false, and_self, and_true, true_and, and_false, false_and, or_self, or_true, true_or, or_false, false_or, bo_T, bo_F, bo_e0, nI10, nI00, nI11, nI01, bo_e1, nem, eqL, af_v, af_0, rf_s, rf_n, nn, ite_self, ly63, p63_0, p63_1, p63_2, p63_7, p63_10, p63_11, p63_13, p63_14, p63_16, p63_18, p63_22, p63_23, p63_24, p63_30, p63_31, p63_32, p63_33, m_isTown, ixt, m_in, wN 0 (by decide), wN 1023 (by decide), wl, hz, c4, e3, m_soonestNow (d := d + 4) e2 (Nat.le_trans (fw_le 6 a b) (c2.1 a b)) ha hb]
end SN
