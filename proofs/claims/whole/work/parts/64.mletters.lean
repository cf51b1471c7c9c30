section ML
variable {d : Nat} {I : sm_Im} {L : sm_Lm} {sw : Bool} {x y z : Int32} {a b m n q : Nat} {w : Int64}
theorem sh8 (hq : q < 2 ^ 64) (i : Nat) : ((lN (q / 2 ^ (8 * i))).toUInt64 >>> ((nI 8).toInt64.toUInt64 &&& Int64.toUInt64 63)).toInt64 = lN (q / 2 ^ (8 * (i + 1))) := by
  rw [wb_shr (Nat.lt_of_le_of_lt (Nat.div_le_self _ _) hq) (by decide), Nat.div_div_eq_div_mul, ← Nat.pow_add, Nat.mul_succ]
theorem msk8 (hq : q < 2 ^ 64) (i : Nat) : (lN (q / 2 ^ (8 * i)) &&& lN 255).toInt32 = nI (by8 (lN q) i) := by
  rw [show lN 255 = lN (2 ^ 8 - 1) from rfl, wb_mask (Nat.lt_of_le_of_lt (Nat.div_le_self _ _) hq) (by decide), lN_i]
  unfold by8
  rw [wb_tn hq]
theorem le00 {b : Nat} (h : b < 2147483648) : (nI b ≤ 0) = (b = 0) := by
  rw [zI_0, leN h (by decide), eq_iff_iff]; omega
theorem eq00 {b : Nat} (h : b < 2147483648) : (nI b = 0) = (b = 0) := by rw [zI_0, eqN h (by decide)]
theorem m_letters_1 (hq : q < 2 ^ 64) : ∀ (j i : Nat), i + j = 8 → ∀ (l8 : Option Value) (R : Option sm_Rs), sm_at (sm_ex d) none 151 83 [some (.ref 63), some (.long (lN q)), none, some (.int (nI (lgood (lN q) 8).1)), some (.int (bo ((lgood (lN q) 8).2 = true))), some (.long (lN (q / 2 ^ (8 * 8)))), none, some (.int (nI 8)), some (.int (nI (by8 (lN q) 7)))] [] 81 I L (pX sw) = R →
    (i = 8 → l8 = some (.int (nI (by8 (lN q) 7)))) → sm_at (sm_ex d) none 151 11 [some (.ref 63), some (.long (lN q)), none, some (.int (nI (lgood (lN q) i).1)), some (.int (bo ((lgood (lN q) i).2 = true))), some (.long (lN (q / 2 ^ (8 * i)))), none, some (.int (nI i)), l8] [] 81 I L (pX sw) = R := by
  intro j
  induction j with
  | zero =>
    intro i hi l8 R hR h8
    obtain rfl : i = 8 := by omega
    rw [h8 rfl, s151_11]
    simp only [s151_13, s151_15, if_true, Int32.le_refl]
    exact hR
  | succ j ih =>
    intro i hi l8 R hR h8
    have hle := lgood_le (lN q) i
    have hb := by8_lt (lN q) i
    have c1 : ¬ 8 ≤ i := by omega
    rw [s151_11]
    have e1 : (lgood (lN q) (i + 1)).1 = (lgood (lN q) i).1 + (if by8 (lN q) i = 0 then 0 else 1) := rfl
    have e2 : (lgood (lN q) (i + 1)).2 = ((lgood (lN q) i).2 && decide (by8 (lN q) i ≤ 126 ∧ (by8 (lN q) i = 0 ∨ (lgood (lN q) i).1 = i))) := rfl
    have fin : ∀ l8 : Option Value, l8 = some (.int (nI (by8 (lN q) i))) → sm_at (sm_ex d) none 151 11 [some (.ref 63), some (.long (lN q)), none, some (.int (nI (lgood (lN q) (i + 1)).1)), some (.int (bo ((lgood (lN q) (i + 1)).2 = true))), some (.long (lN (q / 2 ^ (8 * (i + 1))))), none, some (.int (nI (i + 1))), l8] [] 81 I L (pX sw) = R :=
      fun l8 h => ih (i + 1) (by omega) l8 R hR (fun z => by rw [h]; congr 5; omega)
    by_cases cg : (lgood (lN q) i).2 = true <;> by_cases cA : by8 (lN q) i ≤ 126 <;> by_cases cB : by8 (lN q) i = 0 <;> by_cases cC : (lgood (lN q) i).1 = i <;>
      simp only [e1, e2, cg, cA, cB, cC, decide_true, decide_false, Bool.and_true, Bool.and_false, Bool.true_and, Bool.false_and, Bool.false_eq_true, if_true, if_false, and_true, and_false, true_and, false_and, or_true, or_false, true_or, false_or, not_true_eq_false, not_false_eq_true, bo_T, bo_F, Nat.add_zero, Nat.zero_le] at fin <;>
      simp (discharger := (first | omega | decide | (simp only [ly0, p0_0, p0_1, p0_2, p0_3, p0_4, p0_5, p0_6, p0_7, p0_8, p0_9]; omega))) only [s151_0, s151_1, s151_2, s151_3, s151_5, s151_6, s151_8, s151_9, s151_13, s151_15, s151_18, s151_20, s151_23, s151_24, s151_25, s151_27, s151_29, s151_31, s151_32, s151_34, s151_36, s151_39, s151_41, s151_43, s151_46, s151_48, s151_51, s151_52, s151_54, s151_57, s151_58, s151_61, s151_62, s151_64, s151_65, s151_67, s151_70, s151_71, s151_74, s151_75, s151_76, s151_77, s151_80, s151_83, s151_85, s151_88, s151_90, s151_91, s151_92, s151_95, s151_96, s151_97, s151_99, s151_102, s151_104, s151_105, s151_106, s151_110, s151_111, s151_114, s151_115, s151_118, s151_119, s151_122, s151_123, s151_125, s151_127, s151_128, s151_129, s151_132, s151_133, s151_134, s151_135, s151_136, s151_137, s151_140, s151_141, s151_142, s151_145, s151_148, s151_151, s151_152, s151_155, ltI, geL, leL, not_true_eq_false, not_false_eq_true, if_true, if_false, and_self, and_true, true_and, and_false, false_and, or_self, or_true, true_or, or_false, false_or, bo_T, bo_F, bo_e0, nI10, nI00, nI11, nI01, bo_e1, nem, eqL, af_v, af_0, rf_s, rf_n, nn, ite_self, leN, c1, sh8 hq, msk8 hq, sm_cl, cg, cA, cB, cC, eq00, le00, eqN, addN, Bool.false_eq_true, Nat.zero_le, Nat.add_zero] <;> exact fin _ rfl
end ML
