/-! numbers -/
theorem zI_0 : (0 : Int32) = nI 0 := rfl
theorem zI_1 : (1 : Int32) = nI 1 := rfl
def bo (c : Prop) [Decidable c] : Int32 := if c then nI 1 else nI 0
theorem bo_t {c : Prop} [Decidable c] (h : c) : bo c = nI 1 := if_pos h
theorem bo_f {c : Prop} [Decidable c] (h : ¬ c) : bo c = nI 0 := if_neg h
theorem bo_T {h : Decidable True} : @bo True h = nI 1 := if_pos trivial
theorem bo_F {h : Decidable False} : @bo False h = nI 0 := if_neg id
theorem bo_01 (c : Prop) [Decidable c] : bo c = 0 ∨ bo c = 1 := by
  by_cases h : c
  · rw [bo_t h]; exact Or.inr rfl
  · rw [bo_f h]; exact Or.inl rfl
theorem bo_e0 {c : Prop} [Decidable c] : (bo c = 0) = ¬ c := by
  by_cases h : c
  · rw [bo_t h]; simp [h, show ¬ (nI 1 = 0) by decide]
  · rw [bo_f h]; simp [h, show (nI 0 = 0) by decide]
theorem nI10 : (nI 1 = 0) = False := by decide
theorem nI00 : (nI 0 = 0) = True := by decide
theorem z01 : nI 0 = 0 ∨ nI 0 = 1 := Or.inl rfl
theorem z11 : nI 1 = 0 ∨ nI 1 = 1 := Or.inr rfl
theorem rf_s {a : Nat} : va_rf (some a) = .ref a := rfl
theorem rf_n : va_rf none = .null := rfl
theorem ltI {x y : Int32} : (x < y) = ¬ (y ≤ x) := by
  rw [eq_iff_iff, Int32.lt_iff_toInt_lt, Int32.le_iff_toInt_le]; omega
theorem geL {x y : Int64} : (0 ≤ lg_cmp x y) = (y ≤ x) := by rw [eq_iff_iff]; exact lg_cmp_ge x y
theorem leL {x y : Int64} : (lg_cmp x y ≤ 0) = (x ≤ y) := by rw [eq_iff_iff]; exact lg_cmp_le x y
theorem gtL {x y : Int64} : (0 < lg_cmp x y) = ¬ (x ≤ y) := by
  rw [eq_iff_iff, lg_cmp_gt, Int64.lt_iff_toInt_lt, Int64.le_iff_toInt_le]; omega
theorem eqL {x y : Int64} : (lg_cmp x y = 0) = (x = y) := by rw [eq_iff_iff]; exact lg_cmp_eq x y
theorem nI11 : (nI 1 = 1) = True := by decide
theorem nI01 : (nI 0 = 1) = False := by decide
theorem bo_e1 {c : Prop} [Decidable c] : (bo c = 1) = c := by
  by_cases h : c
  · rw [bo_t h]; simp [h, show (nI 1 = 1) by decide]
  · rw [bo_f h]; simp [h, show ¬ (nI 0 = 1) by decide]
theorem nem {c : Prop} : (¬ c ∨ c) = True := by by_cases h : c <;> simp [h]
theorem nn {c : Prop} : (¬ ¬ c) = c := by by_cases h : c <;> simp [h]
theorem leN {a b : Nat} (ha : a < 2147483648) (hb : b < 2147483648) : (nI a ≤ nI b) = (a ≤ b) := by rw [eq_iff_iff]; exact nI_leI ha hb
theorem eqN {a b : Nat} (ha : a < 2147483648) (hb : b < 2147483648) : (nI a = nI b) = (a = b) := by rw [eq_iff_iff]; exact nI_eq ha hb
theorem le0 {a : Nat} (ha : a < 2147483648) : (0 ≤ nI a) = True := by rw [zI_0, leN (by omega) ha]; simp
theorem wl (x y : Int32) : (x.toInt64 ≤ y.toInt64) = (x ≤ y) := by rw [eq_iff_iff, Int64.le_iff_toInt_le, Int32.le_iff_toInt_le, Int32.toInt_toInt64, Int32.toInt_toInt64]
theorem wN (n : Nat) (h : n < 2147483648) : lN n = (nI n).toInt64 := (nI_l h).symm
section HLP
variable {d N : Nat} {I : sm_Im} {L : sm_Lm} {P : sm_Pm} {x y z : Int32} {u v w : Int64}
theorem h_isWithin : sm_ex (d + 1) 132 [.int x, .int y, .int z] N I L P = some (some (.int (bo (y ≤ x ∧ x ≤ z))), N, I, L, P) := by
  rw [e132]
  by_cases h1 : y ≤ x <;> by_cases h2 : x ≤ z <;> simp only [s132_0, s132_1, s132_2, s132_5, s132_6, s132_7, s132_10, s132_11, s132_14, s132_15, ltI, geL, leL, not_true_eq_false, not_false_eq_true, if_true, if_false, and_self, and_true, true_and, and_false, false_and, or_self, or_true, true_or, or_false, false_or, bo_T, bo_F, bo_e0, nI10, nI00, nI11, nI01, bo_e1, nem, eqL, af_v, af_0, rf_s, rf_n, nn, ite_self, h1, h2]
theorem h_isPerson : sm_ex (d + 1) 133 [.int x] N I L P = some (some (.int (bo (nI 0 ≤ x ∧ x ≤ nI 9))), N, I, L, P) := by
  rw [e133]
  have e : (nI 10 ≤ x) = ¬ (x ≤ nI 9) := by rw [eq_iff_iff, Int32.le_iff_toInt_le, Int32.le_iff_toInt_le]; show 10 ≤ _ ↔ ¬ (_ ≤ (9 : Int)); omega
  have e0 : (0 ≤ x) = (nI 0 ≤ x) := rfl
  by_cases h1 : nI 0 ≤ x <;> by_cases h2 : x ≤ nI 9 <;> simp only [s133_0, s133_1, s133_4, s133_5, s133_7, s133_10, s133_11, s133_14, s133_15, ltI, geL, leL, not_true_eq_false, not_false_eq_true, if_true, if_false, and_self, and_true, true_and, and_false, false_and, or_self, or_true, true_or, or_false, false_or, bo_T, bo_F, bo_e0, nI10, nI00, nI11, nI01, bo_e1, nem, eqL, af_v, af_0, rf_s, rf_n, nn, ite_self, h1, h2, e, e0]
theorem h_isTown : sm_ex (d + 1) 134 [.int x] N I L P = some (some (.int (bo (nI 0 ≤ x ∧ x ≤ nI 5))), N, I, L, P) := by
  rw [e134]
  have e : (nI 6 ≤ x) = ¬ (x ≤ nI 5) := by rw [eq_iff_iff, Int32.le_iff_toInt_le, Int32.le_iff_toInt_le]; show 6 ≤ _ ↔ ¬ (_ ≤ (5 : Int)); omega
  have e0 : (0 ≤ x) = (nI 0 ≤ x) := rfl
  by_cases h1 : nI 0 ≤ x <;> by_cases h2 : x ≤ nI 5 <;> simp only [s134_0, s134_1, s134_4, s134_5, s134_7, s134_10, s134_11, s134_14, s134_15, ltI, geL, leL, not_true_eq_false, not_false_eq_true, if_true, if_false, and_self, and_true, true_and, and_false, false_and, or_self, or_true, true_or, or_false, false_or, bo_T, bo_F, bo_e0, nI10, nI00, nI11, nI01, bo_e1, nem, eqL, af_v, af_0, rf_s, rf_n, nn, ite_self, h1, h2, e, e0]
theorem h_isPart : sm_ex (d + 2) 136 [.int x] N I L P = some (some (.int (bo (nI 0 ≤ x ∧ x ≤ nI 1))), N, I, L, P) := by
  rw [e136]
  simp only [s136_0, s136_1, s136_2, s136_3, s136_6, ltI, geL, leL, not_true_eq_false, not_false_eq_true, if_true, if_false, and_self, and_true, true_and, and_false, false_and, or_self, or_true, true_or, or_false, false_or, bo_T, bo_F, bo_e0, nI10, nI00, nI11, nI01, bo_e1, nem, eqL, af_v, af_0, rf_s, rf_n, nn, ite_self, h_isWithin]
theorem h_isOdds : sm_ex (d + 2) 137 [.int x] N I L P = some (some (.int (bo (nI 0 ≤ x ∧ x ≤ nI 9))), N, I, L, P) := by
  rw [e137]
  simp only [s137_0, s137_1, s137_2, s137_4, s137_7, ltI, geL, leL, not_true_eq_false, not_false_eq_true, if_true, if_false, and_self, and_true, true_and, and_false, false_and, or_self, or_true, true_or, or_false, false_or, bo_T, bo_F, bo_e0, nI10, nI00, nI11, nI01, bo_e1, nem, eqL, af_v, af_0, rf_s, rf_n, nn, ite_self, h_isWithin]
theorem h_isSpan : sm_ex (d + 2) 135 [.int x, .int y] N I L P = some (some (.int (bo ((nI 0 ≤ x ∧ x ≤ nI 1999) ∧ x ≤ y ∧ y ≤ nI 1999))), N, I, L, P) := by
  rw [e135]
  by_cases h1 : (nI 0 ≤ x ∧ x ≤ nI 1999) <;> by_cases h2 : (x ≤ y ∧ y ≤ nI 1999) <;> simp only [s135_0, s135_1, s135_2, s135_5, s135_8, s135_11, s135_12, s135_13, s135_16, s135_19, s135_22, s135_23, s135_26, s135_27, ltI, geL, leL, not_true_eq_false, not_false_eq_true, if_true, if_false, and_self, and_true, true_and, and_false, false_and, or_self, or_true, true_or, or_false, false_or, bo_T, bo_F, bo_e0, nI10, nI00, nI11, nI01, bo_e1, nem, eqL, af_v, af_0, rf_s, rf_n, nn, ite_self, h_isWithin, h1, h2]
theorem h_arePinches : sm_ex (d + 2) 139 [.int x, .int y] N I L P = some (some (.int (bo ((nI 1 ≤ x ∧ x ≤ nI 3) ∧ nI 0 ≤ y ∧ y ≤ nI 8))), N, I, L, P) := by
  rw [e139]
  by_cases h1 : (nI 1 ≤ x ∧ x ≤ nI 3) <;> by_cases h2 : (nI 0 ≤ y ∧ y ≤ nI 8) <;> simp only [s139_0, s139_1, s139_2, s139_3, s139_6, s139_9, s139_10, s139_11, s139_13, s139_16, s139_19, s139_20, s139_23, s139_24, ltI, geL, leL, not_true_eq_false, not_false_eq_true, if_true, if_false, and_self, and_true, true_and, and_false, false_and, or_self, or_true, true_or, or_false, false_or, bo_T, bo_F, bo_e0, nI10, nI00, nI11, nI01, bo_e1, nem, eqL, af_v, af_0, rf_s, rf_n, nn, ite_self, h_isWithin, h1, h2]
theorem h_isSetOf : sm_ex (d + 2) 138 [.int x, .int y] N I L P = some (some (.int (bo (nI 0 ≤ x ∧ x ≤ (nI 1 <<< (y &&& 31)) - nI 1))), N, I, L, P) := by
  rw [e138]
  simp only [s138_0, s138_1, s138_2, s138_3, s138_4, s138_5, s138_6, s138_7, s138_10, ltI, geL, leL, not_true_eq_false, not_false_eq_true, if_true, if_false, and_self, and_true, true_and, and_false, false_and, or_self, or_true, true_or, or_false, false_or, bo_T, bo_F, bo_e0, nI10, nI00, nI11, nI01, bo_e1, nem, eqL, af_v, af_0, rf_s, rf_n, nn, ite_self, h_isWithin]
theorem h_isIn : sm_ex (d + 1) 140 [.int x, .int y] N I L P = some (some (.int (bo (¬ (x >>> (y &&& 31)) &&& nI 1 = 0))), N, I, L, P) := by
  rw [e140]
  by_cases h1 : (x >>> (y &&& 31)) &&& nI 1 = 0 <;> simp only [s140_0, s140_1, s140_2, s140_3, s140_4, s140_5, s140_8, s140_9, s140_12, s140_13, ltI, geL, leL, not_true_eq_false, not_false_eq_true, if_true, if_false, and_self, and_true, true_and, and_false, false_and, or_self, or_true, true_or, or_false, false_or, bo_T, bo_F, bo_e0, nI10, nI00, nI11, nI01, bo_e1, nem, eqL, af_v, af_0, rf_s, rf_n, nn, ite_self, h1]
theorem h_mix : sm_ex (d + 1) 131 [.long u, .long v] N I L P = some (some (.long (lN 31 * u + v)), N, I, L, P) := by
  rw [e131]
  simp only [s131_0, s131_3, s131_4, s131_5, s131_6, s131_7, ltI, geL, leL, not_true_eq_false, not_false_eq_true, if_true, if_false, and_self, and_true, true_and, and_false, false_and, or_self, or_true, true_or, or_false, false_or, bo_T, bo_F, bo_e0, nI10, nI00, nI11, nI01, bo_e1, nem, eqL, af_v, af_0, rf_s, rf_n, nn, ite_self]
theorem m_in : sm_ex (d + 1) 146 [.long u, .long v, .long w] N I L P = some (some (.int (bo (v ≤ u ∧ u ≤ w))), N, I, L, P) := by
  rw [e146]
  by_cases h1 : v ≤ u <;> by_cases h2 : u ≤ w <;> simp only [s146_0, s146_1, s146_2, s146_3, s146_6, s146_7, s146_9, s146_10, s146_13, s146_14, s146_17, s146_18, ltI, geL, leL, not_true_eq_false, not_false_eq_true, if_true, if_false, and_self, and_true, true_and, and_false, false_and, or_self, or_true, true_or, or_false, false_or, bo_T, bo_F, bo_e0, nI10, nI00, nI11, nI01, bo_e1, nem, eqL, af_v, af_0, rf_s, rf_n, nn, ite_self, h1, h2]
theorem m_isTown : sm_ex (d + 2) 147 [.int x] N I L P = some (some (.int (bo (nI 0 ≤ x ∧ x ≤ nI 5))), N, I, L, P) := by
  rw [e147]
  simp only [s147_0, s147_1, s147_2, s147_3, s147_6, s147_9, ltI, geL, leL, not_true_eq_false, not_false_eq_true, if_true, if_false, and_self, and_true, true_and, and_false, false_and, or_self, or_true, true_or, or_false, false_or, bo_T, bo_F, bo_e0, nI10, nI00, nI11, nI01, bo_e1, nem, eqL, af_v, af_0, rf_s, rf_n, nn, ite_self, m_in, wN 0 (by decide), wN 5 (by decide), wl]
theorem m_isPerson : sm_ex (d + 2) 148 [.int x] N I L P = some (some (.int (bo (nI 0 ≤ x ∧ x ≤ nI 9))), N, I, L, P) := by
  rw [e148]
  simp only [s148_0, s148_1, s148_2, s148_3, s148_6, s148_9, ltI, geL, leL, not_true_eq_false, not_false_eq_true, if_true, if_false, and_self, and_true, true_and, and_false, false_and, or_self, or_true, true_or, or_false, false_or, bo_T, bo_F, bo_e0, nI10, nI00, nI11, nI01, bo_e1, nem, eqL, af_v, af_0, rf_s, rf_n, nn, ite_self, m_in, wN 0 (by decide), wN 9 (by decide), wl]
theorem m_isPart : sm_ex (d + 2) 172 [.int x] N I L P = some (some (.int (bo (nI 0 ≤ x ∧ x ≤ nI 1))), N, I, L, P) := by
  rw [e172]
  simp only [s172_0, s172_1, s172_2, s172_3, s172_4, s172_7, ltI, geL, leL, not_true_eq_false, not_false_eq_true, if_true, if_false, and_self, and_true, true_and, and_false, false_and, or_self, or_true, true_or, or_false, false_or, bo_T, bo_F, bo_e0, nI10, nI00, nI11, nI01, bo_e1, nem, eqL, af_v, af_0, rf_s, rf_n, nn, ite_self, m_in, wN 0 (by decide), wN 1 (by decide), wl]
theorem m_areMinutes : sm_ex (d + 2) 169 [.int x, .int y] N I L P = some (some (.int (bo ((nI 0 ≤ x ∧ x ≤ nI 1999) ∧ x ≤ y ∧ y ≤ nI 1999))), N, I, L, P) := by
  rw [e169]
  by_cases h1 : (nI 0 ≤ x ∧ x ≤ nI 1999) <;> by_cases h2 : (x ≤ y ∧ y ≤ nI 1999) <;> simp only [s169_0, s169_1, s169_2, s169_3, s169_6, s169_9, s169_12, s169_13, s169_14, s169_15, s169_16, s169_19, s169_22, s169_25, s169_26, s169_29, s169_30, ltI, geL, leL, not_true_eq_false, not_false_eq_true, if_true, if_false, and_self, and_true, true_and, and_false, false_and, or_self, or_true, true_or, or_false, false_or, bo_T, bo_F, bo_e0, nI10, nI00, nI11, nI01, bo_e1, nem, eqL, af_v, af_0, rf_s, rf_n, nn, ite_self, m_in, wN 0 (by decide), wN 1999 (by decide), wl, h1, h2]
theorem m_areWords : sm_ex (d + 2) 187 [.int x, .int y] N I L P = some (some (.int (bo ((nI 1 ≤ x ∧ x ≤ nI 3) ∧ nI 0 ≤ y ∧ y ≤ nI 8))), N, I, L, P) := by
  rw [e187]
  by_cases h1 : (nI 1 ≤ x ∧ x ≤ nI 3) <;> by_cases h2 : (nI 0 ≤ y ∧ y ≤ nI 8) <;> simp only [s187_0, s187_1, s187_2, s187_3, s187_6, s187_9, s187_12, s187_13, s187_14, s187_15, s187_18, s187_21, s187_24, s187_25, s187_28, s187_29, ltI, geL, leL, not_true_eq_false, not_false_eq_true, if_true, if_false, and_self, and_true, true_and, and_false, false_and, or_self, or_true, true_or, or_false, false_or, bo_T, bo_F, bo_e0, nI10, nI00, nI11, nI01, bo_e1, nem, eqL, af_v, af_0, rf_s, rf_n, nn, ite_self, m_in, wN 0 (by decide), wN 1 (by decide), wN 3 (by decide), wN 8 (by decide), wl, h1, h2]
theorem j_min : sm_ex (d + 1) 214 [.int x, .int y] N I L P = some (some (.int (if x ≤ y then x else y)), N, I, L, P) := by
  rw [e214]
  by_cases h1 : x ≤ y <;> simp only [s214_0, s214_1, s214_2, s214_5, s214_6, s214_9, s214_10, ltI, geL, leL, not_true_eq_false, not_false_eq_true, if_true, if_false, and_self, and_true, true_and, and_false, false_and, or_self, or_true, true_or, or_false, false_or, bo_T, bo_F, bo_e0, nI10, nI00, nI11, nI01, bo_e1, nem, eqL, af_v, af_0, rf_s, rf_n, nn, ite_self, h1]
end HLP
