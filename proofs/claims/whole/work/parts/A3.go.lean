section GO
variable {d : Nat} {I J : sm_Im} {L : sm_Lm} {sw : Bool} {x y z : Int32} {a b m n q c k j p r v s : Nat} {β β' : Nat → Nat → Nat}
theorem m_goPerson (hk : I 63 4 = nI k) (hk5 : k < 5) (h1 : I 67 (7 * k) = nI a) (ha : a ≤ 3) (h2 : I 67 (7 * k + 1) = nI m) (hm : m ≤ 4) (h3 : I 63 5 = nI s) (hs : s < 1024) (hc : c ≤ 126) : sm_ex (d + 3) 153 [.ref 63, .int (nI c)] 81 I L (pX sw) = if (48 ≤ c ∧ c ≤ 57) ∧ s.testBit (c - 48) = false ∧ m < (if a = 1 then 4 else 2) then some (some (.int (nI 1)), 81, sm_up (sm_up (sm_up (sm_up I 63 5 (nI (s ||| 2 ^ (c - 48)))) 67 (7 * k + 3 + m) (nI (c - 48))) 67 (7 * k + 1) (nI (m + 1))) 63 6 (nI 2), L, pX sw) else some (some (.int (nI 0)), 81, sm_up I 63 6 (nI 2), L, pX sw) := by
  have dq := dg c (by omega)
  have ek : (nI a = nI 1) = (a = 1) := eqN (by omega) (by decide)
  rw [e153]
  by_cases g : 48 ≤ c ∧ c ≤ 57
  · have ex : nI c - nI 48 = nI (c - 48) := subN g.1
    have hip : (nI 0 ≤ nI (c - 48) ∧ nI (c - 48) ≤ nI 9) = True := ixt (by omega) (by decide)
    have eb := bitT (s := s) (k := c - 48) (by omega) (by omega)
    by_cases b : s.testBit (c - 48) = true
    · rw [if_neg (fun z => by rw [b] at z; exact absurd z.2.1 (by decide))]
      by_cases e1 : a = 1 <;> simp (discharger := (first | omega | decide | assumption | exact rg_lt | exact rg_ly | (simp only [ly63, p63_0, p63_1, p63_2, p63_7, p63_10, p63_11, p63_13, p63_14, p63_16, p63_18, p63_22, p63_23, p63_24, p63_30, p63_31, p63_32, p63_33, ly67, al67]; omega))) only [s153_0, s153_2, s153_3, s153_6, s153_7, s153_8, s153_9, s153_11, s153_12, s153_13, s153_14, s153_17, s153_18, s153_19, s153_20, s153_23, s153_24, s153_27, s153_28, s153_30, s153_31, s153_34, s153_37, s153_38, s153_41, s153_42, s153_43, s153_44, s153_45, s153_48, s153_49, s153_52, s153_53, s153_54, s153_55, s153_56, s153_58, s153_61, s153_62, s153_65, s153_66, s153_68, s153_70, s153_73, s153_74, s153_75, s153_78, s153_79, s153_80, s153_81, s153_82, s153_85, s153_86, s153_89, s153_90, s153_91, s153_92, s153_93, s153_96, s153_97, s153_98, s153_99, s153_100, s153_101, s153_102, s153_103, s153_104, s153_107, s153_108, s153_109, s153_110, s153_111, s153_112, s153_113, s153_114, s153_115, s153_116, s153_117, s153_120, s153_122, ltI, geL, leL, not_true_eq_false, not_false_eq_true, if_true, if_false, and_self, and_true, true_and, and_false, false_and, or_self, or_true, true_or, or_false, false_or, bo_T, bo_F, bo_e0, nI10, nI00, nI11, nI01, bo_e1, nem, eqL, af_v, af_0, rf_s, rf_n, nn, ite_self, ly63, p63_0, p63_1, p63_2, p63_7, p63_10, p63_11, p63_13, p63_14, p63_16, p63_18, p63_22, p63_23, p63_24, p63_30, p63_31, p63_32, p63_33, ly67, al67, hk, mulN, addN, ex, h1, h2, h3, ek, e1, m_isPerson, hip, eb, b, sm_cl]
    · have b' : s.testBit (c - 48) = false := Bool.eq_false_iff.mpr b
      have hp := pw16 (show c - 48 ≤ 16 by omega)
      have e3 := sh1 (show c - 48 ≤ 16 by omega)
      have e4 : nI s ||| nI (2 ^ (c - 48)) = nI (s ||| 2 ^ (c - 48)) := orI (by omega) (by omega)
      have f1 : ∀ w, sm_up I 63 5 w 67 (7 * k + 1) = nI m := fun w => by rw [up_row (by decide)]; exact h2
      have f2 : ∀ w w2, sm_up (sm_up I 63 5 w) 67 (7 * k + 3 + m) w2 67 (7 * k + 1) = nI m := fun w w2 => by rw [up_cell (by omega)]; exact f1 w
      by_cases e1 : a = 1
      · rw [if_pos e1]
        by_cases c4 : m < 4
        · have c4' : (nI 4 ≤ nI m) = False := by rw [leN (by decide) (by omega)]; exact eq_false (by omega)
          rw [if_pos ⟨g, b', c4⟩]
          simp (discharger := (first | omega | decide | assumption | exact rg_lt | exact rg_ly | (simp only [ly63, p63_0, p63_1, p63_2, p63_7, p63_10, p63_11, p63_13, p63_14, p63_16, p63_18, p63_22, p63_23, p63_24, p63_30, p63_31, p63_32, p63_33, ly67, al67]; omega))) only [s153_0, s153_2, s153_3, s153_6, s153_7, s153_8, s153_9, s153_11, s153_12, s153_13, s153_14, s153_17, s153_18, s153_19, s153_20, s153_23, s153_24, s153_27, s153_28, s153_30, s153_31, s153_34, s153_37, s153_38, s153_41, s153_42, s153_43, s153_44, s153_45, s153_48, s153_49, s153_52, s153_53, s153_54, s153_55, s153_56, s153_58, s153_61, s153_62, s153_65, s153_66, s153_68, s153_70, s153_73, s153_74, s153_75, s153_78, s153_79, s153_80, s153_81, s153_82, s153_85, s153_86, s153_89, s153_90, s153_91, s153_92, s153_93, s153_96, s153_97, s153_98, s153_99, s153_100, s153_101, s153_102, s153_103, s153_104, s153_107, s153_108, s153_109, s153_110, s153_111, s153_112, s153_113, s153_114, s153_115, s153_116, s153_117, s153_120, s153_122, ltI, geL, leL, not_true_eq_false, not_false_eq_true, if_true, if_false, and_self, and_true, true_and, and_false, false_and, or_self, or_true, true_or, or_false, false_or, bo_T, bo_F, bo_e0, nI10, nI00, nI11, nI01, bo_e1, nem, eqL, af_v, af_0, rf_s, rf_n, nn, ite_self, ly63, p63_0, p63_1, p63_2, p63_7, p63_10, p63_11, p63_13, p63_14, p63_16, p63_18, p63_22, p63_23, p63_24, p63_30, p63_31, p63_32, p63_33, ly67, al67, hk, mulN, addN, ex, h1, h2, h3, ek, e1, m_isPerson, hip, eb, b', Bool.false_eq_true, c4', e3, e4, f1, f2, sm_cl]
        · have c4' : (nI 4 ≤ nI m) = True := by rw [leN (by decide) (by omega)]; exact eq_true (by omega)
          rw [if_neg (fun z => c4 z.2.2)]
          simp (discharger := (first | omega | decide | assumption | exact rg_lt | exact rg_ly | (simp only [ly63, p63_0, p63_1, p63_2, p63_7, p63_10, p63_11, p63_13, p63_14, p63_16, p63_18, p63_22, p63_23, p63_24, p63_30, p63_31, p63_32, p63_33, ly67, al67]; omega))) only [s153_0, s153_2, s153_3, s153_6, s153_7, s153_8, s153_9, s153_11, s153_12, s153_13, s153_14, s153_17, s153_18, s153_19, s153_20, s153_23, s153_24, s153_27, s153_28, s153_30, s153_31, s153_34, s153_37, s153_38, s153_41, s153_42, s153_43, s153_44, s153_45, s153_48, s153_49, s153_52, s153_53, s153_54, s153_55, s153_56, s153_58, s153_61, s153_62, s153_65, s153_66, s153_68, s153_70, s153_73, s153_74, s153_75, s153_78, s153_79, s153_80, s153_81, s153_82, s153_85, s153_86, s153_89, s153_90, s153_91, s153_92, s153_93, s153_96, s153_97, s153_98, s153_99, s153_100, s153_101, s153_102, s153_103, s153_104, s153_107, s153_108, s153_109, s153_110, s153_111, s153_112, s153_113, s153_114, s153_115, s153_116, s153_117, s153_120, s153_122, ltI, geL, leL, not_true_eq_false, not_false_eq_true, if_true, if_false, and_self, and_true, true_and, and_false, false_and, or_self, or_true, true_or, or_false, false_or, bo_T, bo_F, bo_e0, nI10, nI00, nI11, nI01, bo_e1, nem, eqL, af_v, af_0, rf_s, rf_n, nn, ite_self, ly63, p63_0, p63_1, p63_2, p63_7, p63_10, p63_11, p63_13, p63_14, p63_16, p63_18, p63_22, p63_23, p63_24, p63_30, p63_31, p63_32, p63_33, ly67, al67, hk, mulN, addN, ex, h1, h2, h3, ek, e1, m_isPerson, hip, eb, b', Bool.false_eq_true, c4', sm_cl]
      · rw [if_neg e1]
        by_cases c4 : m < 2
        · have c4' : (nI 2 ≤ nI m) = False := by rw [leN (by decide) (by omega)]; exact eq_false (by omega)
          rw [if_pos ⟨g, b', c4⟩]
          simp (discharger := (first | omega | decide | assumption | exact rg_lt | exact rg_ly | (simp only [ly63, p63_0, p63_1, p63_2, p63_7, p63_10, p63_11, p63_13, p63_14, p63_16, p63_18, p63_22, p63_23, p63_24, p63_30, p63_31, p63_32, p63_33, ly67, al67]; omega))) only [s153_0, s153_2, s153_3, s153_6, s153_7, s153_8, s153_9, s153_11, s153_12, s153_13, s153_14, s153_17, s153_18, s153_19, s153_20, s153_23, s153_24, s153_27, s153_28, s153_30, s153_31, s153_34, s153_37, s153_38, s153_41, s153_42, s153_43, s153_44, s153_45, s153_48, s153_49, s153_52, s153_53, s153_54, s153_55, s153_56, s153_58, s153_61, s153_62, s153_65, s153_66, s153_68, s153_70, s153_73, s153_74, s153_75, s153_78, s153_79, s153_80, s153_81, s153_82, s153_85, s153_86, s153_89, s153_90, s153_91, s153_92, s153_93, s153_96, s153_97, s153_98, s153_99, s153_100, s153_101, s153_102, s153_103, s153_104, s153_107, s153_108, s153_109, s153_110, s153_111, s153_112, s153_113, s153_114, s153_115, s153_116, s153_117, s153_120, s153_122, ltI, geL, leL, not_true_eq_false, not_false_eq_true, if_true, if_false, and_self, and_true, true_and, and_false, false_and, or_self, or_true, true_or, or_false, false_or, bo_T, bo_F, bo_e0, nI10, nI00, nI11, nI01, bo_e1, nem, eqL, af_v, af_0, rf_s, rf_n, nn, ite_self, ly63, p63_0, p63_1, p63_2, p63_7, p63_10, p63_11, p63_13, p63_14, p63_16, p63_18, p63_22, p63_23, p63_24, p63_30, p63_31, p63_32, p63_33, ly67, al67, hk, mulN, addN, ex, h1, h2, h3, ek, e1, m_isPerson, hip, eb, b', Bool.false_eq_true, c4', e3, e4, f1, f2, sm_cl]
        · have c4' : (nI 2 ≤ nI m) = True := by rw [leN (by decide) (by omega)]; exact eq_true (by omega)
          rw [if_neg (fun z => c4 z.2.2)]
          simp (discharger := (first | omega | decide | assumption | exact rg_lt | exact rg_ly | (simp only [ly63, p63_0, p63_1, p63_2, p63_7, p63_10, p63_11, p63_13, p63_14, p63_16, p63_18, p63_22, p63_23, p63_24, p63_30, p63_31, p63_32, p63_33, ly67, al67]; omega))) only [s153_0, s153_2, s153_3, s153_6, s153_7, s153_8, s153_9, s153_11, s153_12, s153_13, s153_14, s153_17, s153_18, s153_19, s153_20, s153_23, s153_24, s153_27, s153_28, s153_30, s153_31, s153_34, s153_37, s153_38, s153_41, s153_42, s153_43, s153_44, s153_45, s153_48, s153_49, s153_52, s153_53, s153_54, s153_55, s153_56, s153_58, s153_61, s153_62, s153_65, s153_66, s153_68, s153_70, s153_73, s153_74, s153_75, s153_78, s153_79, s153_80, s153_81, s153_82, s153_85, s153_86, s153_89, s153_90, s153_91, s153_92, s153_93, s153_96, s153_97, s153_98, s153_99, s153_100, s153_101, s153_102, s153_103, s153_104, s153_107, s153_108, s153_109, s153_110, s153_111, s153_112, s153_113, s153_114, s153_115, s153_116, s153_117, s153_120, s153_122, ltI, geL, leL, not_true_eq_false, not_false_eq_true, if_true, if_false, and_self, and_true, true_and, and_false, false_and, or_self, or_true, true_or, or_false, false_or, bo_T, bo_F, bo_e0, nI10, nI00, nI11, nI01, bo_e1, nem, eqL, af_v, af_0, rf_s, rf_n, nn, ite_self, ly63, p63_0, p63_1, p63_2, p63_7, p63_10, p63_11, p63_13, p63_14, p63_16, p63_18, p63_22, p63_23, p63_24, p63_30, p63_31, p63_32, p63_33, ly67, al67, hk, mulN, addN, ex, h1, h2, h3, ek, e1, m_isPerson, hip, eb, b', Bool.false_eq_true, c4', sm_cl]
  · have hip : ¬ (nI 0 ≤ nI c - nI 48 ∧ nI c - nI 48 ≤ nI 9) := fun z => g (dq.mp z)
    rw [if_neg (fun z => g z.1)]
    by_cases e1 : a = 1 <;> simp (discharger := (first | omega | decide | assumption | exact rg_lt | exact rg_ly | (simp only [ly63, p63_0, p63_1, p63_2, p63_7, p63_10, p63_11, p63_13, p63_14, p63_16, p63_18, p63_22, p63_23, p63_24, p63_30, p63_31, p63_32, p63_33, ly67, al67]; omega))) only [s153_0, s153_2, s153_3, s153_6, s153_7, s153_8, s153_9, s153_11, s153_12, s153_13, s153_14, s153_17, s153_18, s153_19, s153_20, s153_23, s153_24, s153_27, s153_28, s153_30, s153_31, s153_34, s153_37, s153_38, s153_41, s153_42, s153_43, s153_44, s153_45, s153_48, s153_49, s153_52, s153_53, s153_54, s153_55, s153_56, s153_58, s153_61, s153_62, s153_65, s153_66, s153_68, s153_70, s153_73, s153_74, s153_75, s153_78, s153_79, s153_80, s153_81, s153_82, s153_85, s153_86, s153_89, s153_90, s153_91, s153_92, s153_93, s153_96, s153_97, s153_98, s153_99, s153_100, s153_101, s153_102, s153_103, s153_104, s153_107, s153_108, s153_109, s153_110, s153_111, s153_112, s153_113, s153_114, s153_115, s153_116, s153_117, s153_120, s153_122, ltI, geL, leL, not_true_eq_false, not_false_eq_true, if_true, if_false, and_self, and_true, true_and, and_false, false_and, or_self, or_true, true_or, or_false, false_or, bo_T, bo_F, bo_e0, nI10, nI00, nI11, nI01, bo_e1, nem, eqL, af_v, af_0, rf_s, rf_n, nn, ite_self, ly63, p63_0, p63_1, p63_2, p63_7, p63_10, p63_11, p63_13, p63_14, p63_16, p63_18, p63_22, p63_23, p63_24, p63_30, p63_31, p63_32, p63_33, ly67, al67, hk, mulN, addN, h1, ek, e1, m_isPerson, hip, sm_cl]
theorem m_isBirth_2 (hk : I 63 4 = nI k) (hk5 : k < 5) (h1 : I 67 (7 * k) = nI a) (ha : a ≤ 3) (h2 : I 67 (7 * k + 1) = nI m) (hm : m ≤ 4) (h6 : I 63 6 = nI 2) : sm_ex (d + 1) 154 [.ref 63] 81 I L (pX sw) = some (some (.int (bo ((if a = 1 then 3 else 2) ≤ m))), 81, I, L, pX sw) := by
  have ek : (nI a = nI 1) = (a = 1) := eqN (by omega) (by decide)
  rw [e154]
  by_cases e1 : a = 1
  · simp only [if_pos e1]
    by_cases c : 3 ≤ m <;> simp (discharger := (first | omega | decide | assumption | exact rg_lt | exact rg_ly | (simp only [ly63, p63_0, p63_1, p63_2, p63_7, p63_10, p63_11, p63_13, p63_14, p63_16, p63_18, p63_22, p63_23, p63_24, p63_30, p63_31, p63_32, p63_33, ly67, al67]; omega))) only [s154_0, s154_1, s154_4, s154_6, s154_7, s154_10, s154_11, s154_12, s154_13, s154_14, s154_15, s154_16, s154_19, s154_20, s154_23, s154_24, s154_25, s154_28, s154_30, s154_31, s154_34, s154_35, s154_36, s154_37, s154_40, s154_41, s154_44, s154_45, s154_48, s154_49, s154_52, s154_53, ltI, geL, leL, not_true_eq_false, not_false_eq_true, if_true, if_false, and_self, and_true, true_and, and_false, false_and, or_self, or_true, true_or, or_false, false_or, bo_T, bo_F, bo_e0, nI10, nI00, nI11, nI01, bo_e1, nem, eqL, af_v, af_0, rf_s, rf_n, nn, ite_self, ly63, p63_0, p63_1, p63_2, p63_7, p63_10, p63_11, p63_13, p63_14, p63_16, p63_18, p63_22, p63_23, p63_24, p63_30, p63_31, p63_32, p63_33, ly67, al67, hk, mulN, addN, h1, h2, h6, ek, e1, leN, c, sm_cl]
  · simp only [if_neg e1]
    by_cases c : 2 ≤ m <;> simp (discharger := (first | omega | decide | assumption | exact rg_lt | exact rg_ly | (simp only [ly63, p63_0, p63_1, p63_2, p63_7, p63_10, p63_11, p63_13, p63_14, p63_16, p63_18, p63_22, p63_23, p63_24, p63_30, p63_31, p63_32, p63_33, ly67, al67]; omega))) only [s154_0, s154_1, s154_4, s154_6, s154_7, s154_10, s154_11, s154_12, s154_13, s154_14, s154_15, s154_16, s154_19, s154_20, s154_23, s154_24, s154_25, s154_28, s154_30, s154_31, s154_34, s154_35, s154_36, s154_37, s154_40, s154_41, s154_44, s154_45, s154_48, s154_49, s154_52, s154_53, ltI, geL, leL, not_true_eq_false, not_false_eq_true, if_true, if_false, and_self, and_true, true_and, and_false, false_and, or_self, or_true, true_or, or_false, false_or, bo_T, bo_F, bo_e0, nI10, nI00, nI11, nI01, bo_e1, nem, eqL, af_v, af_0, rf_s, rf_n, nn, ite_self, ly63, p63_0, p63_1, p63_2, p63_7, p63_10, p63_11, p63_13, p63_14, p63_16, p63_18, p63_22, p63_23, p63_24, p63_30, p63_31, p63_32, p63_33, ly67, al67, hk, mulN, addN, h1, h2, h6, ek, e1, leN, c, sm_cl]
theorem m_isBirth_n (hk : I 63 4 = nI k) (hk5 : k < 5) (h6 : I 63 6 = nI s) (hs : s < 2) : sm_ex (d + 1) 154 [.ref 63] 81 I L (pX sw) = some (some (.int (nI 0)), 81, I, L, pX sw) := by
  have n2 : (nI s = nI 2) = False := by rw [eqN (by omega) (by decide)]; exact eq_false (by omega)
  rw [e154]
  simp (discharger := (first | omega | decide | assumption | exact rg_lt | exact rg_ly | (simp only [ly63, p63_0, p63_1, p63_2, p63_7, p63_10, p63_11, p63_13, p63_14, p63_16, p63_18, p63_22, p63_23, p63_24, p63_30, p63_31, p63_32, p63_33, ly67, al67]; omega))) only [s154_0, s154_1, s154_4, s154_6, s154_7, s154_10, s154_11, s154_12, s154_13, s154_14, s154_15, s154_16, s154_19, s154_20, s154_23, s154_24, s154_25, s154_28, s154_30, s154_31, s154_34, s154_35, s154_36, s154_37, s154_40, s154_41, s154_44, s154_45, s154_48, s154_49, s154_52, s154_53, ltI, geL, leL, not_true_eq_false, not_false_eq_true, if_true, if_false, and_self, and_true, true_and, and_false, false_and, or_self, or_true, true_or, or_false, false_or, bo_T, bo_F, bo_e0, nI10, nI00, nI11, nI01, bo_e1, nem, eqL, af_v, af_0, rf_s, rf_n, nn, ite_self, ly63, p63_0, p63_1, p63_2, p63_7, p63_10, p63_11, p63_13, p63_14, p63_16, p63_18, p63_22, p63_23, p63_24, p63_30, p63_31, p63_32, p63_33, ly67, al67, hk, mulN, addN, h6, n2, sm_cl]
/-- the reference between two letters -/
def sta (β : Nat → Nat → Nat) : Nat := if frs β then 0 else if wnt β then 1 else 2
def row (I : sm_Im) (β : Nat → Nat → Nat) (k : Nat) : Prop := I 67 (7 * k) = nI (β 1 k) ∧ I 67 (7 * k + 1) = nI (β 3 k) ∧ I 67 (7 * k + 2) = nI (β 2 k) ∧ (∀ j, j < β 3 k → I 67 (7 * k + 3 + j) = nI (β (6 + k) j)) ∧ ∀ j, β 3 k ≤ j → j < 4 → I 67 (7 * k + 3 + j) = -1
def seen (I : sm_Im) (β : Nat → Nat → Nat) : Prop := ∃ s, s < 1024 ∧ I 63 5 = nI s ∧ ∀ p, p < 10 → s.testBit p = decide (β 4 p < β 0 0)
def RMp (I : sm_Im) (β : Nat → Nat → Nat) : Prop := I 63 4 = nI (β 0 0 - 1) ∧ I 63 6 = nI (sta β) ∧ seen I β ∧ ∀ k, k < β 0 0 → (k + 1 < β 0 0 ∨ ¬ frs β) → row I β k
def FM (I J : sm_Im) : Prop := (∀ c, c ≠ 63 → c ≠ 67 → J c = I c) ∧ ∀ k, k ≠ 4 → k ≠ 5 → k ≠ 6 → J 63 k = I 63 k
theorem FM_rf : FM I I := ⟨fun _ _ _ => rfl, fun _ _ _ _ => rfl⟩
theorem FM_tr {K : sm_Im} (h : FM I J) (h2 : FM J K) : FM I K := ⟨fun c a b => (h2.1 c a b).trans (h.1 c a b), fun k a b c => (h2.2 k a b c).trans (h.2 k a b c)⟩
theorem FM_7 (h : FM I J) : FM I (sm_up J 67 k x) := ⟨fun c a b => by rw [up_row b]; exact h.1 c a b, fun j a b c => by rw [up_row (by decide)]; exact h.2 j a b c⟩
theorem FM_3 (h : FM I J) (hk : 4 ≤ k ∧ k ≤ 6) : FM I (sm_up J 63 k x) := ⟨fun c a b => by rw [up_row a]; exact h.1 c a b, fun j a b c => by rw [up_cell (by omega)]; exact h.2 j a b c⟩
theorem FM_67 (h : ∀ c, c ≠ 67 → J c = I c) : FM I J := ⟨fun c _ b => h c b, fun j _ _ _ => by rw [h 63 (by decide)]⟩
theorem pp_frs : ¬ frs (pp1 β q) := by
  rintro ⟨-, h⟩
  rw [pp_0 (show 0 ≤ 2 by decide), pp_3, if_pos rfl] at h
  omega
theorem pp_wnt : wnt (pp1 β q) = wnt β := by
  unfold wnt
  rw [pp_0 (show 0 ≤ 2 by decide), pp_0 (show 1 ≤ 2 by decide), pp_0 (show 2 ≤ 2 by decide)]
theorem RM_pp (V : PV β) (hk : J 63 4 = nI (β 0 0 - 1)) (hs : s < 1024) (hsn : ∀ p, p < 10 → s.testBit p = decide (β 4 p < β 0 0)) (hrow : ∀ k, k < β 0 0 → row J β k) (hq : q < 10) (hm : β 3 (β 0 0 - 1) < 4) (hw : ¬ wnt β) : RMp (sm_up (sm_up (sm_up (sm_up J 63 5 (nI (s ||| 2 ^ q))) 67 (7 * (β 0 0 - 1) + 3 + β 3 (β 0 0 - 1)) (nI q)) 67 (7 * (β 0 0 - 1) + 1) (nI (β 3 (β 0 0 - 1) + 1))) 63 6 (nI 2)) (pp1 β q) := by
  have V1 := V.1
  have e0 : pp1 β q 0 = β 0 := pp_0 (by decide)
  refine ⟨by rw [up_cell (by decide), up_row (by decide), up_row (by decide), up_cell (by decide), e0]; exact hk, ?_, ?_, ?_⟩
  · unfold sta
    rw [up_same, if_neg pp_frs, if_neg (by rw [pp_wnt]; exact hw)]
  · refine ⟨s ||| 2 ^ q, Nat.or_lt_two_pow (n := 10) hs (wb_lt2 hq), by rw [up_cell (by decide), up_row (by decide), up_row (by decide), up_same], fun p hp => ?_⟩
    rw [Nat.testBit_or, hsn p hp, Nat.testBit_two_pow, e0, pp_4]
    by_cases e : p = q
    · rw [if_pos e, decide_eq_true e.symm, Bool.or_true, decide_eq_true (by omega)]
    · rw [if_neg e, decide_eq_false (show ¬ q = p from fun z => e z.symm), Bool.or_false]
  · intro i hi _
    rw [e0] at hi
    obtain ⟨r1, r2, r3, r4, r5⟩ := hrow i hi
    unfold row
    rw [up_row (by decide), pp_0 (show 1 ≤ 2 by decide), pp_0 (show 2 ≤ 2 by decide), pp_3]
    by_cases e : i = β 0 0 - 1
    · rw [if_pos e]
      rw [e] at r1 r2 r3 r4 r5 ⊢
      refine ⟨by rw [up_cell (by omega), up_cell (by omega), up_row (by decide)]; exact r1, by rw [up_same], by rw [up_cell (by omega), up_cell (by omega), up_row (by decide)]; exact r3, fun j hj => ?_, fun j hj hj4 => ?_⟩
      · rw [up_cell (by omega), up_at, pp_6]
        by_cases e2 : j = β 3 (β 0 0 - 1)
        · rw [if_pos (by omega), if_pos ⟨rfl, e2⟩]
        · rw [if_neg (by omega), if_neg (fun z => e2 z.2), up_row (by decide)]; exact r4 j (by omega)
      · rw [up_cell (by omega), up_cell (by omega), up_row (by decide)]; exact r5 j (by omega) hj4
    · have v3 := (V.2.1 i hi).2.2.1
      rw [if_neg e]
      refine ⟨by rw [up_cell (by omega), up_cell (by omega), up_row (by decide)]; exact r1, by rw [up_cell (by omega), up_cell (by omega), up_row (by decide)]; exact r2, by rw [up_cell (by omega), up_cell (by omega), up_row (by decide)]; exact r3, fun j hj => ?_, fun j hj hj4 => ?_⟩
      · rw [up_cell (by omega), up_cell (by omega), up_row (by decide), pp_6, if_neg (fun z => e z.1)]; exact r4 j hj
      · rw [up_cell (by omega), up_cell (by omega), up_row (by decide)]; exact r5 j hj hj4
theorem m_go_init (hk5 : k < 5) {l1 : Option Value} : ∀ (g i : Nat), i + g = 7 → ∀ (J : sm_Im), ∃ J1 : sm_Im, (∀ c, c ≠ 67 → J1 c = J c) ∧ (∀ y, ¬ (7 * k + i ≤ y ∧ y < 7 * k + 7) → J1 67 y = J 67 y) ∧ (∀ y, i ≤ y → y < 7 → J1 67 (7 * k + y) = if y < 3 then nI 0 else -1) ∧ sm_at (sm_ex d) none 155 54 [some (.ref 63), l1, some (.int (nI (7 * k))), some (.int (nI i))] [] 81 J L (pX sw) = sm_at (sm_ex d) none 155 84 [some (.ref 63), l1, some (.int (nI (7 * k))), some (.int (nI 7))] [] 81 J1 L (pX sw) := by
  intro g
  induction g with
  | zero =>
    intro i hi J
    obtain rfl : i = 7 := by omega
    refine ⟨J, fun c _ => rfl, fun y _ => rfl, fun y h1 h2 => by omega, ?_⟩
    rw [s155_54]
    simp (discharger := (first | omega | decide | assumption | exact rg_lt | exact rg_ly | (simp only [ly63, p63_0, p63_1, p63_2, p63_7, p63_10, p63_11, p63_13, p63_14, p63_16, p63_18, p63_22, p63_23, p63_24, p63_30, p63_31, p63_32, p63_33]; omega))) only [s155_0, s155_2, s155_3, s155_6, s155_7, s155_8, s155_9, s155_12, s155_15, s155_16, s155_19, s155_20, s155_21, s155_23, s155_26, s155_27, s155_30, s155_31, s155_33, s155_36, s155_37, s155_40, s155_41, s155_43, s155_46, s155_47, s155_50, s155_51, s155_52, s155_53, s155_55, s155_57, s155_60, s155_61, s155_64, s155_65, s155_66, s155_67, s155_68, s155_69, s155_72, s155_73, s155_76, s155_77, s155_78, s155_81, s155_85, s155_86, s155_88, s155_91, s155_92, s155_94, s155_97, s155_98, s155_101, s155_102, s155_105, s155_106, s155_109, s155_110, s155_111, s155_114, s155_115, s155_116, s155_119, s155_122, s155_123, s155_126, s155_127, s155_128, s155_129, s155_132, s155_133, s155_136, s155_137, s155_140, s155_141, s155_142, s155_143, s155_144, s155_146, s155_147, s155_148, s155_149, s155_150, s155_153, s155_154, s155_155, s155_158, s155_161, s155_164, s155_165, s155_166, s155_168, s155_171, s155_172, s155_175, s155_178, s155_179, s155_182, s155_183, s155_186, s155_187, s155_190, s155_191, s155_192, s155_193, s155_194, s155_197, s155_198, s155_201, s155_202, s155_205, s155_206, s155_207, s155_210, s155_211, s155_212, s155_215, s155_216, s155_219, s155_220, s155_223, s155_226, s155_227, s155_228, s155_229, s155_230, s155_233, ltI, geL, leL, not_true_eq_false, not_false_eq_true, if_true, if_false, and_self, and_true, true_and, and_false, false_and, or_self, or_true, true_or, or_false, false_or, bo_T, bo_F, bo_e0, nI10, nI00, nI11, nI01, bo_e1, nem, eqL, af_v, af_0, rf_s, rf_n, nn, ite_self, Int32.le_refl]
  | succ g ih =>
    intro i hi J
    have c1 : ¬ 7 ≤ i := by omega
    obtain ⟨J1, g1, g2, g3, g4⟩ := ih (i + 1) (by omega) (sm_up J 67 (7 * k + i) (if i < 3 then nI 0 else -1))
    refine ⟨J1, fun c hc => by rw [g1 c hc, up_row hc], fun y hy => by rw [g2 y (by omega), up_cell (by omega)], fun y h1 h2 => ?_, ?_⟩
    · rcases (show y = i ∨ i + 1 ≤ y by omega) with e | e
      · rw [e, g2 _ (by omega), up_same]
      · exact g3 y e h2
    · rw [← g4, s155_54]
      by_cases c3 : i < 3
      · have c3' : ¬ 3 ≤ i := by omega
        rw [if_pos c3]
        simp (discharger := (first | omega | decide | assumption | exact rg_lt | exact rg_ly | (simp only [ly63, p63_0, p63_1, p63_2, p63_7, p63_10, p63_11, p63_13, p63_14, p63_16, p63_18, p63_22, p63_23, p63_24, p63_30, p63_31, p63_32, p63_33, ly67, al67]; omega))) only [s155_0, s155_2, s155_3, s155_6, s155_7, s155_8, s155_9, s155_12, s155_15, s155_16, s155_19, s155_20, s155_21, s155_23, s155_26, s155_27, s155_30, s155_31, s155_33, s155_36, s155_37, s155_40, s155_41, s155_43, s155_46, s155_47, s155_50, s155_51, s155_52, s155_53, s155_55, s155_57, s155_60, s155_61, s155_64, s155_65, s155_66, s155_67, s155_68, s155_69, s155_72, s155_73, s155_76, s155_77, s155_78, s155_81, s155_85, s155_86, s155_88, s155_91, s155_92, s155_94, s155_97, s155_98, s155_101, s155_102, s155_105, s155_106, s155_109, s155_110, s155_111, s155_114, s155_115, s155_116, s155_119, s155_122, s155_123, s155_126, s155_127, s155_128, s155_129, s155_132, s155_133, s155_136, s155_137, s155_140, s155_141, s155_142, s155_143, s155_144, s155_146, s155_147, s155_148, s155_149, s155_150, s155_153, s155_154, s155_155, s155_158, s155_161, s155_164, s155_165, s155_166, s155_168, s155_171, s155_172, s155_175, s155_178, s155_179, s155_182, s155_183, s155_186, s155_187, s155_190, s155_191, s155_192, s155_193, s155_194, s155_197, s155_198, s155_201, s155_202, s155_205, s155_206, s155_207, s155_210, s155_211, s155_212, s155_215, s155_216, s155_219, s155_220, s155_223, s155_226, s155_227, s155_228, s155_229, s155_230, s155_233, ltI, geL, leL, not_true_eq_false, not_false_eq_true, if_true, if_false, and_self, and_true, true_and, and_false, false_and, or_self, or_true, true_or, or_false, false_or, bo_T, bo_F, bo_e0, nI10, nI00, nI11, nI01, bo_e1, nem, eqL, af_v, af_0, rf_s, rf_n, nn, ite_self, ly63, p63_0, p63_1, p63_2, p63_7, p63_10, p63_11, p63_13, p63_14, p63_16, p63_18, p63_22, p63_23, p63_24, p63_30, p63_31, p63_32, p63_33, ly67, al67, leN, c1, c3', addN, sm_cl]
      · have c3' : 3 ≤ i := by omega
        rw [if_neg c3]
        simp (discharger := (first | omega | decide | assumption | exact rg_lt | exact rg_ly | (simp only [ly63, p63_0, p63_1, p63_2, p63_7, p63_10, p63_11, p63_13, p63_14, p63_16, p63_18, p63_22, p63_23, p63_24, p63_30, p63_31, p63_32, p63_33, ly67, al67]; omega))) only [s155_0, s155_2, s155_3, s155_6, s155_7, s155_8, s155_9, s155_12, s155_15, s155_16, s155_19, s155_20, s155_21, s155_23, s155_26, s155_27, s155_30, s155_31, s155_33, s155_36, s155_37, s155_40, s155_41, s155_43, s155_46, s155_47, s155_50, s155_51, s155_52, s155_53, s155_55, s155_57, s155_60, s155_61, s155_64, s155_65, s155_66, s155_67, s155_68, s155_69, s155_72, s155_73, s155_76, s155_77, s155_78, s155_81, s155_85, s155_86, s155_88, s155_91, s155_92, s155_94, s155_97, s155_98, s155_101, s155_102, s155_105, s155_106, s155_109, s155_110, s155_111, s155_114, s155_115, s155_116, s155_119, s155_122, s155_123, s155_126, s155_127, s155_128, s155_129, s155_132, s155_133, s155_136, s155_137, s155_140, s155_141, s155_142, s155_143, s155_144, s155_146, s155_147, s155_148, s155_149, s155_150, s155_153, s155_154, s155_155, s155_158, s155_161, s155_164, s155_165, s155_166, s155_168, s155_171, s155_172, s155_175, s155_178, s155_179, s155_182, s155_183, s155_186, s155_187, s155_190, s155_191, s155_192, s155_193, s155_194, s155_197, s155_198, s155_201, s155_202, s155_205, s155_206, s155_207, s155_210, s155_211, s155_212, s155_215, s155_216, s155_219, s155_220, s155_223, s155_226, s155_227, s155_228, s155_229, s155_230, s155_233, ltI, geL, leL, not_true_eq_false, not_false_eq_true, if_true, if_false, and_self, and_true, true_and, and_false, false_and, or_self, or_true, true_or, or_false, false_or, bo_T, bo_F, bo_e0, nI10, nI00, nI11, nI01, bo_e1, nem, eqL, af_v, af_0, rf_s, rf_n, nn, ite_self, ly63, p63_0, p63_1, p63_2, p63_7, p63_10, p63_11, p63_13, p63_14, p63_16, p63_18, p63_22, p63_23, p63_24, p63_30, p63_31, p63_32, p63_33, ly67, al67, leN, c1, c3', addN, sm_cl]
theorem may_e (hq : q < 10) (hsn : ∀ p, p < 10 → s.testBit p = decide (β 4 p < β 0 0)) : (s.testBit q = false) ↔ ¬ β 4 q < β 0 0 := by
  rw [hsn q hq, decide_eq_false_iff_not]
/-- a person's letter, where the rows are all laid -/
theorem m_gp (V : PV β) (hk : J 63 4 = nI (β 0 0 - 1)) (hsn : seen J β) (hrow : ∀ k, k < β 0 0 → row J β k) (hw : ¬ wnt β) (hc : c ≤ 126) (h1 : ¬ c = 44) (h2 : ¬ sg c ∨ ¬ frs β) : ∃ J1 : sm_Im, FM J J1 ∧ (∀ β', pst β c = some β' → RMp J1 β') ∧ sm_ex (d + 3) 153 [.ref 63, .int (nI c)] 81 J L (pX sw) = some (some (.int (bo ((pst β c).isSome = true))), 81, J1, L, pX sw) := by
  have V1 := V.1
  obtain ⟨v1, v2, v3, -⟩ := V.2.1 (β 0 0 - 1) (by omega)
  obtain ⟨r1, r2, r3, r4, r5⟩ := hrow (β 0 0 - 1) (by omega)
  obtain ⟨s, s1, s2, s3⟩ := hsn
  have gp := m_goPerson (d := d) (L := L) (sw := sw) hk (by omega) r1 v1 r2 v3 s2 s1 hc
  by_cases c2 : sg c
  · have ep := ps_s0 c2 (h2.elim (fun z => absurd c2 z) id)
    rw [if_neg (fun z => by unfold sg at c2; omega)] at gp
    exact ⟨_, FM_3 (k := 6) (x := nI 2) FM_rf (by omega), fun β' h => (by rw [ep] at h; cases h), by rw [bnone ep]; exact gp⟩
  · by_cases g : 48 ≤ c ∧ c ≤ 57
    · by_cases q2 : may β (c - 48)
      · have ep := ps_p1 g.1 g.2 hw q2
        have hm4 : β 3 (β 0 0 - 1) < 4 := by
          have q3 := q2.2
          by_cases e : β 1 (β 0 0 - 1) = 1
          · rw [if_pos e] at q3; exact q3
          · rw [if_neg e] at q3; omega
        rw [if_pos ⟨g, (may_e (by omega) s3).mpr q2.1, q2.2⟩] at gp
        refine ⟨_, FM_3 (k := 6) (x := nI 2) (FM_7 (k := 7 * (β 0 0 - 1) + 1) (x := nI (β 3 (β 0 0 - 1) + 1)) (FM_7 (k := 7 * (β 0 0 - 1) + 3 + β 3 (β 0 0 - 1)) (x := nI (c - 48)) (FM_3 (k := 5) (x := nI (s ||| 2 ^ (c - 48))) FM_rf (by omega)))) (by omega), fun β' h => ?_, by rw [bsome ep]; exact gp⟩
        rw [ep] at h
        cases h
        exact RM_pp V hk s1 s3 hrow (by omega) hm4 hw
      · have ep := ps_p0 g.1 g.2 hw q2
        rw [if_neg (fun z => q2 ⟨(may_e (by omega) s3).mp z.2.1, z.2.2⟩)] at gp
        exact ⟨_, FM_3 (k := 6) (x := nI 2) FM_rf (by omega), fun β' h => (by rw [ep] at h; cases h), by rw [bnone ep]; exact gp⟩
    · have ep := ps_n (β := β) h1 c2 g
      rw [if_neg (fun z => g z.1)] at gp
      exact ⟨_, FM_3 (k := 6) (x := nI 2) FM_rf (by omega), fun β' h => (by rw [ep] at h; cases h), by rw [bnone ep]; exact gp⟩
def kin (c : Nat) : Nat := if c = 111 then 1 else if c = 63 then 2 else if c = 43 then 3 else 0
set_option maxHeartbeats 4000000 in
theorem m_go_0 (R : RMp I β) (V : PV β) (hc : c ≤ 126) (hf : frs β) : ∃ J1 : sm_Im, FM I J1 ∧ (∀ β', pst β c = some β' → RMp J1 β') ∧ sm_ex (d + 4) 155 [.ref 63, .int (nI c)] 81 I L (pX sw) = some (some (.int (bo ((pst β c).isSome = true))), 81, J1, L, pX sw) := by
  obtain ⟨R1, R2, R3, R4⟩ := R
  have V1 := V.1
  obtain ⟨v1, v2, v3, v4, v5, v6, v7⟩ := V.2.1 (β 0 0 - 1) (by omega)
  have am0 := v5 hf.1
  have e6 : I 63 6 = nI 0 := by rw [R2]; unfold sta; rw [if_pos hf]
  have nw : ¬ wnt β := fun z => by have := hf.1; have := z.1; omega
  have n1 : (nI c = nI 111) = (c = 111) := eqN (by omega) (by decide)
  have n2 : (nI c = nI 63) = (c = 63) := eqN (by omega) (by decide)
  have n3 : (nI c = nI 43) = (c = 43) := eqN (by omega) (by decide)
  obtain ⟨J2, g1, g2, g3, g4⟩ := m_go_init (k := β 0 0 - 1) (d := d + 3) (L := L) (sw := sw) (l1 := some (.int (nI c))) (by omega) 6 1 rfl (sm_up I 67 (7 * (β 0 0 - 1)) (nI (kin c)))
  have hJ2 : ∀ c, c ≠ 67 → J2 c = I c := fun c hc => by rw [g1 c hc, up_row hc]
  have hk0 : J2 67 (7 * (β 0 0 - 1)) = nI (kin c) := by rw [g2 _ (by omega), up_same]
  have hlo : ∀ y, y < 7 * (β 0 0 - 1) → J2 67 y = I 67 y := fun y hy => by rw [g2 y (by omega), up_cell (by omega)]
  have h1 : J2 67 (7 * (β 0 0 - 1) + 1) = nI 0 := g3 1 (by decide) (by decide)
  have h2 : J2 67 (7 * (β 0 0 - 1) + 2) = nI 0 := g3 2 (by decide) (by decide)
  have h3 : ∀ j, j < 4 → J2 67 (7 * (β 0 0 - 1) + 3 + j) = -1 := fun j hj => by
    have := g3 (3 + j) (by omega) (by omega)
    rw [if_neg (by omega), show 7 * (β 0 0 - 1) + (3 + j) = 7 * (β 0 0 - 1) + 3 + j by omega] at this
    exact this
  have rows : ∀ (J : sm_Im) (β' : Nat → Nat → Nat), J 67 = J2 67 → β' 0 0 = β 0 0 → (∀ k, k + 1 < β 0 0 → β' 1 k = β 1 k) → β' 1 (β 0 0 - 1) = kin c → β' 2 = β 2 → β' 3 = β 3 → (∀ k, β' (6 + k) = β (6 + k)) → ∀ k, k < β 0 0 → row J β' k := by
    intro J β' hJ b0 b1 b1' b2 b3 b6 k hk
    unfold row
    rw [hJ, b2, b3, b6]
    rcases (show k + 1 < β 0 0 ∨ k = β 0 0 - 1 by omega) with q | q
    · obtain ⟨r1, r2, r3, r4, r5⟩ := R4 k hk (Or.inl q)
      have v3' := (V.2.1 k hk).2.2.1
      rw [b1 k q]
      exact ⟨by rw [hlo _ (by omega)]; exact r1, by rw [hlo _ (by omega)]; exact r2, by rw [hlo _ (by omega)]; exact r3, fun j hj => by rw [hlo _ (by omega)]; exact r4 j hj, fun j hj hj4 => by rw [hlo _ (by omega)]; exact r5 j hj hj4⟩
    · rw [q, b1', hf.2, am0]
      exact ⟨hk0, h1, h2, fun j hj => by omega, fun j _ hj4 => h3 j hj4⟩
  by_cases c2 : sg c
  · have ep := ps_s1 c2 hf
    have ks : kin c = sgk c := by unfold kin sgk; rcases c2 with rfl | rfl | rfl <;> decide
    refine ⟨sm_up J2 63 6 (nI (if c = 111 then 2 else 1)), FM_3 (FM_67 hJ2) (by omega), fun β' h => ?_, ?_⟩
    · rw [ep] at h
      cases h
      have e0 : ∀ a, a ≠ 1 → sm_up β 1 (β 0 0 - 1) (sgk c) a = β a := fun a ha => up_row ha
      refine ⟨by rw [up_cell (by decide), hJ2 63 (by decide), e0 0 (by decide)]; exact R1, ?_, ?_, fun k hk _ => ?_⟩
      · rw [up_same]
        unfold sta frs wnt
        rw [e0 0 (by decide), e0 2 (by decide), e0 3 (by decide), up_same, am0, hf.2]
        rcases c2 with rfl | rfl | rfl <;> decide
      · obtain ⟨s, s1, s2, s3⟩ := R3
        exact ⟨s, s1, by rw [up_cell (by decide), hJ2 63 (by decide)]; exact s2, fun p hp => by rw [e0 0 (by decide), e0 4 (by decide)]; exact s3 p hp⟩
      · rw [e0 0 (by decide)] at hk
        exact rows _ _ (up_row (by decide)) (by rw [e0 0 (by decide)]) (fun k hk => by rw [up_at, if_neg (by omega)]) (by rw [up_same, ks]) (e0 2 (by decide)) (e0 3 (by decide)) (fun k => e0 _ (by omega)) k hk
    · rw [bsome ep, e155]
      have d1 : (nI 63 = nI 111) = False := by decide
      have d2 : (nI 43 = nI 111) = False := by decide
      have d3 : (nI 43 = nI 63) = False := by decide
      have d4 : (nI 111 = nI 63) = False := by decide
      have d5 : (nI 111 = nI 43) = False := by decide
      have k1 : kin 111 = 1 := rfl
      have k2 : kin 63 = 2 := rfl
      have k3 : kin 43 = 3 := rfl
      have i1 : (nI 1 ≤ 0) = False := by decide
      have i2 : (nI 2 ≤ 0) = False := by decide
      have i3 : (nI 3 ≤ 0) = False := by decide
      have hk0' : ∀ v, sm_up J2 63 6 v 67 (7 * (β 0 0 - 1)) = nI (kin c) := fun v => by rw [up_row (by decide)]; exact hk0
      rcases c2 with rfl | rfl | rfl
      · rw [k1] at g4 hk0'
        simp (discharger := (first | omega | decide | assumption | exact rg_lt | exact rg_ly | (simp only [ly63, p63_0, p63_1, p63_2, p63_7, p63_10, p63_11, p63_13, p63_14, p63_16, p63_18, p63_22, p63_23, p63_24, p63_30, p63_31, p63_32, p63_33, ly67, al67]; omega))) only [s155_0, s155_2, s155_3, s155_6, s155_7, s155_8, s155_9, s155_12, s155_15, s155_16, s155_19, s155_20, s155_21, s155_23, s155_26, s155_27, s155_30, s155_31, s155_33, s155_36, s155_37, s155_40, s155_41, s155_43, s155_46, s155_47, s155_50, s155_51, s155_52, s155_53, s155_55, s155_57, s155_60, s155_61, s155_64, s155_65, s155_66, s155_67, s155_68, s155_69, s155_72, s155_73, s155_76, s155_77, s155_78, s155_81, s155_84, s155_85, s155_86, s155_88, s155_91, s155_92, s155_94, s155_97, s155_98, s155_101, s155_102, s155_105, s155_106, s155_109, s155_110, s155_111, s155_114, s155_115, s155_116, s155_119, s155_122, s155_123, s155_126, s155_127, s155_128, s155_129, s155_132, s155_133, s155_136, s155_137, s155_140, s155_141, s155_142, s155_143, s155_144, s155_146, s155_147, s155_148, s155_149, s155_150, s155_153, s155_154, s155_155, s155_158, s155_161, s155_164, s155_165, s155_166, s155_168, s155_171, s155_172, s155_175, s155_178, s155_179, s155_182, s155_183, s155_186, s155_187, s155_190, s155_191, s155_192, s155_193, s155_194, s155_197, s155_198, s155_201, s155_202, s155_205, s155_206, s155_207, s155_210, s155_211, s155_212, s155_215, s155_216, s155_219, s155_220, s155_223, s155_226, s155_227, s155_228, s155_229, s155_230, s155_233, ltI, geL, leL, not_true_eq_false, not_false_eq_true, if_true, if_false, and_self, and_true, true_and, and_false, false_and, or_self, or_true, true_or, or_false, false_or, bo_T, bo_F, bo_e0, nI10, nI00, nI11, nI01, bo_e1, nem, eqL, af_v, af_0, rf_s, rf_n, nn, ite_self, ly63, p63_0, p63_1, p63_2, p63_7, p63_10, p63_11, p63_13, p63_14, p63_16, p63_18, p63_22, p63_23, p63_24, p63_30, p63_31, p63_32, p63_33, ly67, al67, R1, mulN, e6, sm_cl]
        rw [g4]
        simp (discharger := (first | omega | decide | assumption | exact rg_lt | exact rg_ly | (simp only [ly63, p63_0, p63_1, p63_2, p63_7, p63_10, p63_11, p63_13, p63_14, p63_16, p63_18, p63_22, p63_23, p63_24, p63_30, p63_31, p63_32, p63_33, ly67, al67]; omega))) only [s155_0, s155_2, s155_3, s155_6, s155_7, s155_8, s155_9, s155_12, s155_15, s155_16, s155_19, s155_20, s155_21, s155_23, s155_26, s155_27, s155_30, s155_31, s155_33, s155_36, s155_37, s155_40, s155_41, s155_43, s155_46, s155_47, s155_50, s155_51, s155_52, s155_53, s155_55, s155_57, s155_60, s155_61, s155_64, s155_65, s155_66, s155_67, s155_68, s155_69, s155_72, s155_73, s155_76, s155_77, s155_78, s155_81, s155_84, s155_85, s155_86, s155_88, s155_91, s155_92, s155_94, s155_97, s155_98, s155_101, s155_102, s155_105, s155_106, s155_109, s155_110, s155_111, s155_114, s155_115, s155_116, s155_119, s155_122, s155_123, s155_126, s155_127, s155_128, s155_129, s155_132, s155_133, s155_136, s155_137, s155_140, s155_141, s155_142, s155_143, s155_144, s155_146, s155_147, s155_148, s155_149, s155_150, s155_153, s155_154, s155_155, s155_158, s155_161, s155_164, s155_165, s155_166, s155_168, s155_171, s155_172, s155_175, s155_178, s155_179, s155_182, s155_183, s155_186, s155_187, s155_190, s155_191, s155_192, s155_193, s155_194, s155_197, s155_198, s155_201, s155_202, s155_205, s155_206, s155_207, s155_210, s155_211, s155_212, s155_215, s155_216, s155_219, s155_220, s155_223, s155_226, s155_227, s155_228, s155_229, s155_230, s155_233, ltI, geL, leL, not_true_eq_false, not_false_eq_true, if_true, if_false, and_self, and_true, true_and, and_false, false_and, or_self, or_true, true_or, or_false, false_or, bo_T, bo_F, bo_e0, nI10, nI00, nI11, nI01, bo_e1, nem, eqL, af_v, af_0, rf_s, rf_n, nn, ite_self, ly63, p63_0, p63_1, p63_2, p63_7, p63_10, p63_11, p63_13, p63_14, p63_16, p63_18, p63_22, p63_23, p63_24, p63_30, p63_31, p63_32, p63_33, ly67, al67, d4, d5, hk0', i1, sm_cl]
      · rw [k2] at g4 hk0'
        simp (discharger := (first | omega | decide | assumption | exact rg_lt | exact rg_ly | (simp only [ly63, p63_0, p63_1, p63_2, p63_7, p63_10, p63_11, p63_13, p63_14, p63_16, p63_18, p63_22, p63_23, p63_24, p63_30, p63_31, p63_32, p63_33, ly67, al67]; omega))) only [s155_0, s155_2, s155_3, s155_6, s155_7, s155_8, s155_9, s155_12, s155_15, s155_16, s155_19, s155_20, s155_21, s155_23, s155_26, s155_27, s155_30, s155_31, s155_33, s155_36, s155_37, s155_40, s155_41, s155_43, s155_46, s155_47, s155_50, s155_51, s155_52, s155_53, s155_55, s155_57, s155_60, s155_61, s155_64, s155_65, s155_66, s155_67, s155_68, s155_69, s155_72, s155_73, s155_76, s155_77, s155_78, s155_81, s155_84, s155_85, s155_86, s155_88, s155_91, s155_92, s155_94, s155_97, s155_98, s155_101, s155_102, s155_105, s155_106, s155_109, s155_110, s155_111, s155_114, s155_115, s155_116, s155_119, s155_122, s155_123, s155_126, s155_127, s155_128, s155_129, s155_132, s155_133, s155_136, s155_137, s155_140, s155_141, s155_142, s155_143, s155_144, s155_146, s155_147, s155_148, s155_149, s155_150, s155_153, s155_154, s155_155, s155_158, s155_161, s155_164, s155_165, s155_166, s155_168, s155_171, s155_172, s155_175, s155_178, s155_179, s155_182, s155_183, s155_186, s155_187, s155_190, s155_191, s155_192, s155_193, s155_194, s155_197, s155_198, s155_201, s155_202, s155_205, s155_206, s155_207, s155_210, s155_211, s155_212, s155_215, s155_216, s155_219, s155_220, s155_223, s155_226, s155_227, s155_228, s155_229, s155_230, s155_233, ltI, geL, leL, not_true_eq_false, not_false_eq_true, if_true, if_false, and_self, and_true, true_and, and_false, false_and, or_self, or_true, true_or, or_false, false_or, bo_T, bo_F, bo_e0, nI10, nI00, nI11, nI01, bo_e1, nem, eqL, af_v, af_0, rf_s, rf_n, nn, ite_self, ly63, p63_0, p63_1, p63_2, p63_7, p63_10, p63_11, p63_13, p63_14, p63_16, p63_18, p63_22, p63_23, p63_24, p63_30, p63_31, p63_32, p63_33, ly67, al67, R1, mulN, e6, d1, sm_cl]
        rw [g4]
        simp (decide := true) (discharger := (first | omega | decide | assumption | exact rg_lt | exact rg_ly | (simp only [ly63, p63_0, p63_1, p63_2, p63_7, p63_10, p63_11, p63_13, p63_14, p63_16, p63_18, p63_22, p63_23, p63_24, p63_30, p63_31, p63_32, p63_33, ly67, al67]; omega))) only [s155_0, s155_2, s155_3, s155_6, s155_7, s155_8, s155_9, s155_12, s155_15, s155_16, s155_19, s155_20, s155_21, s155_23, s155_26, s155_27, s155_30, s155_31, s155_33, s155_36, s155_37, s155_40, s155_41, s155_43, s155_46, s155_47, s155_50, s155_51, s155_52, s155_53, s155_55, s155_57, s155_60, s155_61, s155_64, s155_65, s155_66, s155_67, s155_68, s155_69, s155_72, s155_73, s155_76, s155_77, s155_78, s155_81, s155_84, s155_85, s155_86, s155_88, s155_91, s155_92, s155_94, s155_97, s155_98, s155_101, s155_102, s155_105, s155_106, s155_109, s155_110, s155_111, s155_114, s155_115, s155_116, s155_119, s155_122, s155_123, s155_126, s155_127, s155_128, s155_129, s155_132, s155_133, s155_136, s155_137, s155_140, s155_141, s155_142, s155_143, s155_144, s155_146, s155_147, s155_148, s155_149, s155_150, s155_153, s155_154, s155_155, s155_158, s155_161, s155_164, s155_165, s155_166, s155_168, s155_171, s155_172, s155_175, s155_178, s155_179, s155_182, s155_183, s155_186, s155_187, s155_190, s155_191, s155_192, s155_193, s155_194, s155_197, s155_198, s155_201, s155_202, s155_205, s155_206, s155_207, s155_210, s155_211, s155_212, s155_215, s155_216, s155_219, s155_220, s155_223, s155_226, s155_227, s155_228, s155_229, s155_230, s155_233, ltI, geL, leL, not_true_eq_false, not_false_eq_true, if_true, if_false, and_self, and_true, true_and, and_false, false_and, or_self, or_true, true_or, or_false, false_or, bo_T, bo_F, bo_e0, nI10, nI00, nI11, nI01, bo_e1, nem, eqL, af_v, af_0, rf_s, rf_n, nn, ite_self, ly63, p63_0, p63_1, p63_2, p63_7, p63_10, p63_11, p63_13, p63_14, p63_16, p63_18, p63_22, p63_23, p63_24, p63_30, p63_31, p63_32, p63_33, ly67, al67, hk0', i2, sm_cl]
      · rw [k3] at g4 hk0'
        simp (discharger := (first | omega | decide | assumption | exact rg_lt | exact rg_ly | (simp only [ly63, p63_0, p63_1, p63_2, p63_7, p63_10, p63_11, p63_13, p63_14, p63_16, p63_18, p63_22, p63_23, p63_24, p63_30, p63_31, p63_32, p63_33, ly67, al67]; omega))) only [s155_0, s155_2, s155_3, s155_6, s155_7, s155_8, s155_9, s155_12, s155_15, s155_16, s155_19, s155_20, s155_21, s155_23, s155_26, s155_27, s155_30, s155_31, s155_33, s155_36, s155_37, s155_40, s155_41, s155_43, s155_46, s155_47, s155_50, s155_51, s155_52, s155_53, s155_55, s155_57, s155_60, s155_61, s155_64, s155_65, s155_66, s155_67, s155_68, s155_69, s155_72, s155_73, s155_76, s155_77, s155_78, s155_81, s155_84, s155_85, s155_86, s155_88, s155_91, s155_92, s155_94, s155_97, s155_98, s155_101, s155_102, s155_105, s155_106, s155_109, s155_110, s155_111, s155_114, s155_115, s155_116, s155_119, s155_122, s155_123, s155_126, s155_127, s155_128, s155_129, s155_132, s155_133, s155_136, s155_137, s155_140, s155_141, s155_142, s155_143, s155_144, s155_146, s155_147, s155_148, s155_149, s155_150, s155_153, s155_154, s155_155, s155_158, s155_161, s155_164, s155_165, s155_166, s155_168, s155_171, s155_172, s155_175, s155_178, s155_179, s155_182, s155_183, s155_186, s155_187, s155_190, s155_191, s155_192, s155_193, s155_194, s155_197, s155_198, s155_201, s155_202, s155_205, s155_206, s155_207, s155_210, s155_211, s155_212, s155_215, s155_216, s155_219, s155_220, s155_223, s155_226, s155_227, s155_228, s155_229, s155_230, s155_233, ltI, geL, leL, not_true_eq_false, not_false_eq_true, if_true, if_false, and_self, and_true, true_and, and_false, false_and, or_self, or_true, true_or, or_false, false_or, bo_T, bo_F, bo_e0, nI10, nI00, nI11, nI01, bo_e1, nem, eqL, af_v, af_0, rf_s, rf_n, nn, ite_self, ly63, p63_0, p63_1, p63_2, p63_7, p63_10, p63_11, p63_13, p63_14, p63_16, p63_18, p63_22, p63_23, p63_24, p63_30, p63_31, p63_32, p63_33, ly67, al67, R1, mulN, e6, d2, d3, sm_cl]
        rw [g4]
        simp (decide := true) (discharger := (first | omega | decide | assumption | exact rg_lt | exact rg_ly | (simp only [ly63, p63_0, p63_1, p63_2, p63_7, p63_10, p63_11, p63_13, p63_14, p63_16, p63_18, p63_22, p63_23, p63_24, p63_30, p63_31, p63_32, p63_33, ly67, al67]; omega))) only [s155_0, s155_2, s155_3, s155_6, s155_7, s155_8, s155_9, s155_12, s155_15, s155_16, s155_19, s155_20, s155_21, s155_23, s155_26, s155_27, s155_30, s155_31, s155_33, s155_36, s155_37, s155_40, s155_41, s155_43, s155_46, s155_47, s155_50, s155_51, s155_52, s155_53, s155_55, s155_57, s155_60, s155_61, s155_64, s155_65, s155_66, s155_67, s155_68, s155_69, s155_72, s155_73, s155_76, s155_77, s155_78, s155_81, s155_84, s155_85, s155_86, s155_88, s155_91, s155_92, s155_94, s155_97, s155_98, s155_101, s155_102, s155_105, s155_106, s155_109, s155_110, s155_111, s155_114, s155_115, s155_116, s155_119, s155_122, s155_123, s155_126, s155_127, s155_128, s155_129, s155_132, s155_133, s155_136, s155_137, s155_140, s155_141, s155_142, s155_143, s155_144, s155_146, s155_147, s155_148, s155_149, s155_150, s155_153, s155_154, s155_155, s155_158, s155_161, s155_164, s155_165, s155_166, s155_168, s155_171, s155_172, s155_175, s155_178, s155_179, s155_182, s155_183, s155_186, s155_187, s155_190, s155_191, s155_192, s155_193, s155_194, s155_197, s155_198, s155_201, s155_202, s155_205, s155_206, s155_207, s155_210, s155_211, s155_212, s155_215, s155_216, s155_219, s155_220, s155_223, s155_226, s155_227, s155_228, s155_229, s155_230, s155_233, ltI, geL, leL, not_true_eq_false, not_false_eq_true, if_true, if_false, and_self, and_true, true_and, and_false, false_and, or_self, or_true, true_or, or_false, false_or, bo_T, bo_F, bo_e0, nI10, nI00, nI11, nI01, bo_e1, nem, eqL, af_v, af_0, rf_s, rf_n, nn, ite_self, ly63, p63_0, p63_1, p63_2, p63_7, p63_10, p63_11, p63_13, p63_14, p63_16, p63_18, p63_22, p63_23, p63_24, p63_30, p63_31, p63_32, p63_33, ly67, al67, d3, hk0', i3, sm_cl]
  · have c2' := c2
    unfold sg at c2'
    have m1 : ¬ c = 111 := by omega
    have m2 : ¬ c = 63 := by omega
    have m3 : ¬ c = 43 := by omega
    have k0 : kin c = 0 := by unfold kin; rw [if_neg m1, if_neg m2, if_neg m3]
    rw [k0] at g4 hk0
    have hJ3 : ∀ c, c ≠ 63 → c ≠ 67 → sm_up J2 63 6 (nI 2) c = I c := fun c a b => by rw [up_row a]; exact hJ2 c b
    have i0 : (nI 0 ≤ 0) = True := by decide
    have hk0' : sm_up J2 63 6 (nI 2) 67 (7 * (β 0 0 - 1)) = nI 0 := by rw [up_row (by decide)]; exact hk0
    have F3 : FM I (sm_up J2 63 6 (nI 2)) := FM_3 (FM_67 hJ2) (by omega)
    have hk3 : sm_up J2 63 6 (nI 2) 63 4 = nI (β 0 0 - 1) := by rw [up_cell (by decide), hJ2 63 (by decide)]; exact R1
    have hs3 : seen (sm_up J2 63 6 (nI 2)) β := by
      obtain ⟨s, s1, s2, s3⟩ := R3
      exact ⟨s, s1, by rw [up_cell (by decide), hJ2 63 (by decide)]; exact s2, s3⟩
    have hr3 : ∀ k, k < β 0 0 → row (sm_up J2 63 6 (nI 2)) β k := rows _ β (up_row (by decide)) rfl (fun _ _ => rfl) (by rw [k0]; exact hf.1) rfl rfl (fun _ => rfl)
    by_cases c44 : c = 44
    · have nwh : ¬ whl β := fun z => by
        have z2 : (if β 1 (β 0 0 - 1) = 1 then 3 else 2) ≤ β 3 (β 0 0 - 1) := z
        rw [hf.1, if_neg (by decide), hf.2] at z2
        omega
      have ep : pst β c = none := by rw [c44]; exact ps_c0 (fun z => nwh z.1)
      obtain ⟨s, s1, s2, s3⟩ := hs3
      obtain ⟨r1, r2, r3, r4, r5⟩ := hr3 (β 0 0 - 1) (by omega)
      have gp := m_goPerson (d := d) (L := L) (sw := sw) hk3 (by omega) r1 v1 r2 v3 s2 s1 hc
      rw [if_neg (by omega)] at gp
      refine ⟨_, FM_3 (k := 6) (x := nI 2) F3 (by omega), fun β' h => (by rw [ep] at h; cases h), ?_⟩
      rw [bnone ep, e155]
      simp (discharger := (first | omega | decide | assumption | exact rg_lt | exact rg_ly | (simp only [ly63, p63_0, p63_1, p63_2, p63_7, p63_10, p63_11, p63_13, p63_14, p63_16, p63_18, p63_22, p63_23, p63_24, p63_30, p63_31, p63_32, p63_33, ly67, al67]; omega))) only [s155_0, s155_2, s155_3, s155_6, s155_7, s155_8, s155_9, s155_12, s155_15, s155_16, s155_19, s155_20, s155_21, s155_23, s155_26, s155_27, s155_30, s155_31, s155_33, s155_36, s155_37, s155_40, s155_41, s155_43, s155_46, s155_47, s155_50, s155_51, s155_52, s155_53, s155_55, s155_57, s155_60, s155_61, s155_64, s155_65, s155_66, s155_67, s155_68, s155_69, s155_72, s155_73, s155_76, s155_77, s155_78, s155_81, s155_84, s155_85, s155_86, s155_88, s155_91, s155_92, s155_94, s155_97, s155_98, s155_101, s155_102, s155_105, s155_106, s155_109, s155_110, s155_111, s155_114, s155_115, s155_116, s155_119, s155_122, s155_123, s155_126, s155_127, s155_128, s155_129, s155_132, s155_133, s155_136, s155_137, s155_140, s155_141, s155_142, s155_143, s155_144, s155_146, s155_147, s155_148, s155_149, s155_150, s155_153, s155_154, s155_155, s155_158, s155_161, s155_164, s155_165, s155_166, s155_168, s155_171, s155_172, s155_175, s155_178, s155_179, s155_182, s155_183, s155_186, s155_187, s155_190, s155_191, s155_192, s155_193, s155_194, s155_197, s155_198, s155_201, s155_202, s155_205, s155_206, s155_207, s155_210, s155_211, s155_212, s155_215, s155_216, s155_219, s155_220, s155_223, s155_226, s155_227, s155_228, s155_229, s155_230, s155_233, ltI, geL, leL, not_true_eq_false, not_false_eq_true, if_true, if_false, and_self, and_true, true_and, and_false, false_and, or_self, or_true, true_or, or_false, false_or, bo_T, bo_F, bo_e0, nI10, nI00, nI11, nI01, bo_e1, nem, eqL, af_v, af_0, rf_s, rf_n, nn, ite_self, ly63, p63_0, p63_1, p63_2, p63_7, p63_10, p63_11, p63_13, p63_14, p63_16, p63_18, p63_22, p63_23, p63_24, p63_30, p63_31, p63_32, p63_33, ly67, al67, R1, mulN, e6, n1, n2, n3, m1, m2, m3, sm_cl]
      rw [g4]
      simp (discharger := (first | omega | decide | assumption | exact rg_lt | exact rg_ly | (simp only [ly63, p63_0, p63_1, p63_2, p63_7, p63_10, p63_11, p63_13, p63_14, p63_16, p63_18, p63_22, p63_23, p63_24, p63_30, p63_31, p63_32, p63_33, ly67, al67]; omega))) only [s155_0, s155_2, s155_3, s155_6, s155_7, s155_8, s155_9, s155_12, s155_15, s155_16, s155_19, s155_20, s155_21, s155_23, s155_26, s155_27, s155_30, s155_31, s155_33, s155_36, s155_37, s155_40, s155_41, s155_43, s155_46, s155_47, s155_50, s155_51, s155_52, s155_53, s155_55, s155_57, s155_60, s155_61, s155_64, s155_65, s155_66, s155_67, s155_68, s155_69, s155_72, s155_73, s155_76, s155_77, s155_78, s155_81, s155_84, s155_85, s155_86, s155_88, s155_91, s155_92, s155_94, s155_97, s155_98, s155_101, s155_102, s155_105, s155_106, s155_109, s155_110, s155_111, s155_114, s155_115, s155_116, s155_119, s155_122, s155_123, s155_126, s155_127, s155_128, s155_129, s155_132, s155_133, s155_136, s155_137, s155_140, s155_141, s155_142, s155_143, s155_144, s155_146, s155_147, s155_148, s155_149, s155_150, s155_153, s155_154, s155_155, s155_158, s155_161, s155_164, s155_165, s155_166, s155_168, s155_171, s155_172, s155_175, s155_178, s155_179, s155_182, s155_183, s155_186, s155_187, s155_190, s155_191, s155_192, s155_193, s155_194, s155_197, s155_198, s155_201, s155_202, s155_205, s155_206, s155_207, s155_210, s155_211, s155_212, s155_215, s155_216, s155_219, s155_220, s155_223, s155_226, s155_227, s155_228, s155_229, s155_230, s155_233, ltI, geL, leL, not_true_eq_false, not_false_eq_true, if_true, if_false, and_self, and_true, true_and, and_false, false_and, or_self, or_true, true_or, or_false, false_or, bo_T, bo_F, bo_e0, nI10, nI00, nI11, nI01, bo_e1, nem, eqL, af_v, af_0, rf_s, rf_n, nn, ite_self, ly63, p63_0, p63_1, p63_2, p63_7, p63_10, p63_11, p63_13, p63_14, p63_16, p63_18, p63_22, p63_23, p63_24, p63_30, p63_31, p63_32, p63_33, ly67, al67, n1, n2, n3, m1, m2, m3, hk0', i0, gp, sm_cl]
    · obtain ⟨J4, p1, p2, p3⟩ := m_gp (d := d) (L := L) (sw := sw) V hk3 hs3 hr3 nw hc c44 (Or.inl c2)
      refine ⟨J4, FM_tr F3 p1, p2, ?_⟩
      have hbo := bo_01 ((pst β c).isSome = true)
      rw [e155]
      simp (discharger := (first | omega | decide | assumption | exact rg_lt | exact rg_ly | (simp only [ly63, p63_0, p63_1, p63_2, p63_7, p63_10, p63_11, p63_13, p63_14, p63_16, p63_18, p63_22, p63_23, p63_24, p63_30, p63_31, p63_32, p63_33, ly67, al67]; omega))) only [s155_0, s155_2, s155_3, s155_6, s155_7, s155_8, s155_9, s155_12, s155_15, s155_16, s155_19, s155_20, s155_21, s155_23, s155_26, s155_27, s155_30, s155_31, s155_33, s155_36, s155_37, s155_40, s155_41, s155_43, s155_46, s155_47, s155_50, s155_51, s155_52, s155_53, s155_55, s155_57, s155_60, s155_61, s155_64, s155_65, s155_66, s155_67, s155_68, s155_69, s155_72, s155_73, s155_76, s155_77, s155_78, s155_81, s155_84, s155_85, s155_86, s155_88, s155_91, s155_92, s155_94, s155_97, s155_98, s155_101, s155_102, s155_105, s155_106, s155_109, s155_110, s155_111, s155_114, s155_115, s155_116, s155_119, s155_122, s155_123, s155_126, s155_127, s155_128, s155_129, s155_132, s155_133, s155_136, s155_137, s155_140, s155_141, s155_142, s155_143, s155_144, s155_146, s155_147, s155_148, s155_149, s155_150, s155_153, s155_154, s155_155, s155_158, s155_161, s155_164, s155_165, s155_166, s155_168, s155_171, s155_172, s155_175, s155_178, s155_179, s155_182, s155_183, s155_186, s155_187, s155_190, s155_191, s155_192, s155_193, s155_194, s155_197, s155_198, s155_201, s155_202, s155_205, s155_206, s155_207, s155_210, s155_211, s155_212, s155_215, s155_216, s155_219, s155_220, s155_223, s155_226, s155_227, s155_228, s155_229, s155_230, s155_233, ltI, geL, leL, not_true_eq_false, not_false_eq_true, if_true, if_false, and_self, and_true, true_and, and_false, false_and, or_self, or_true, true_or, or_false, false_or, bo_T, bo_F, bo_e0, nI10, nI00, nI11, nI01, bo_e1, nem, eqL, af_v, af_0, rf_s, rf_n, nn, ite_self, ly63, p63_0, p63_1, p63_2, p63_7, p63_10, p63_11, p63_13, p63_14, p63_16, p63_18, p63_22, p63_23, p63_24, p63_30, p63_31, p63_32, p63_33, ly67, al67, R1, mulN, e6, n1, n2, n3, m1, m2, m3, sm_cl]
      rw [g4]
      by_cases hS : (pst β c).isSome = true
      · rw [botx hS] at p3 ⊢
        simp (discharger := (first | omega | decide | assumption | exact rg_lt | exact rg_ly | (simp only [ly63, p63_0, p63_1, p63_2, p63_7, p63_10, p63_11, p63_13, p63_14, p63_16, p63_18, p63_22, p63_23, p63_24, p63_30, p63_31, p63_32, p63_33, ly67, al67]; omega))) only [s155_0, s155_2, s155_3, s155_6, s155_7, s155_8, s155_9, s155_12, s155_15, s155_16, s155_19, s155_20, s155_21, s155_23, s155_26, s155_27, s155_30, s155_31, s155_33, s155_36, s155_37, s155_40, s155_41, s155_43, s155_46, s155_47, s155_50, s155_51, s155_52, s155_53, s155_55, s155_57, s155_60, s155_61, s155_64, s155_65, s155_66, s155_67, s155_68, s155_69, s155_72, s155_73, s155_76, s155_77, s155_78, s155_81, s155_84, s155_85, s155_86, s155_88, s155_91, s155_92, s155_94, s155_97, s155_98, s155_101, s155_102, s155_105, s155_106, s155_109, s155_110, s155_111, s155_114, s155_115, s155_116, s155_119, s155_122, s155_123, s155_126, s155_127, s155_128, s155_129, s155_132, s155_133, s155_136, s155_137, s155_140, s155_141, s155_142, s155_143, s155_144, s155_146, s155_147, s155_148, s155_149, s155_150, s155_153, s155_154, s155_155, s155_158, s155_161, s155_164, s155_165, s155_166, s155_168, s155_171, s155_172, s155_175, s155_178, s155_179, s155_182, s155_183, s155_186, s155_187, s155_190, s155_191, s155_192, s155_193, s155_194, s155_197, s155_198, s155_201, s155_202, s155_205, s155_206, s155_207, s155_210, s155_211, s155_212, s155_215, s155_216, s155_219, s155_220, s155_223, s155_226, s155_227, s155_228, s155_229, s155_230, s155_233, ltI, geL, leL, not_true_eq_false, not_false_eq_true, if_true, if_false, and_self, and_true, true_and, and_false, false_and, or_self, or_true, true_or, or_false, false_or, bo_T, bo_F, bo_e0, nI10, nI00, nI11, nI01, bo_e1, nem, eqL, af_v, af_0, rf_s, rf_n, nn, ite_self, ly63, p63_0, p63_1, p63_2, p63_7, p63_10, p63_11, p63_13, p63_14, p63_16, p63_18, p63_22, p63_23, p63_24, p63_30, p63_31, p63_32, p63_33, ly67, al67, n1, n2, n3, m1, m2, m3, hk0', i0, p3, sm_cl]
      · rw [bofx hS] at p3 ⊢
        simp (discharger := (first | omega | decide | assumption | exact rg_lt | exact rg_ly | (simp only [ly63, p63_0, p63_1, p63_2, p63_7, p63_10, p63_11, p63_13, p63_14, p63_16, p63_18, p63_22, p63_23, p63_24, p63_30, p63_31, p63_32, p63_33, ly67, al67]; omega))) only [s155_0, s155_2, s155_3, s155_6, s155_7, s155_8, s155_9, s155_12, s155_15, s155_16, s155_19, s155_20, s155_21, s155_23, s155_26, s155_27, s155_30, s155_31, s155_33, s155_36, s155_37, s155_40, s155_41, s155_43, s155_46, s155_47, s155_50, s155_51, s155_52, s155_53, s155_55, s155_57, s155_60, s155_61, s155_64, s155_65, s155_66, s155_67, s155_68, s155_69, s155_72, s155_73, s155_76, s155_77, s155_78, s155_81, s155_84, s155_85, s155_86, s155_88, s155_91, s155_92, s155_94, s155_97, s155_98, s155_101, s155_102, s155_105, s155_106, s155_109, s155_110, s155_111, s155_114, s155_115, s155_116, s155_119, s155_122, s155_123, s155_126, s155_127, s155_128, s155_129, s155_132, s155_133, s155_136, s155_137, s155_140, s155_141, s155_142, s155_143, s155_144, s155_146, s155_147, s155_148, s155_149, s155_150, s155_153, s155_154, s155_155, s155_158, s155_161, s155_164, s155_165, s155_166, s155_168, s155_171, s155_172, s155_175, s155_178, s155_179, s155_182, s155_183, s155_186, s155_187, s155_190, s155_191, s155_192, s155_193, s155_194, s155_197, s155_198, s155_201, s155_202, s155_205, s155_206, s155_207, s155_210, s155_211, s155_212, s155_215, s155_216, s155_219, s155_220, s155_223, s155_226, s155_227, s155_228, s155_229, s155_230, s155_233, ltI, geL, leL, not_true_eq_false, not_false_eq_true, if_true, if_false, and_self, and_true, true_and, and_false, false_and, or_self, or_true, true_or, or_false, false_or, bo_T, bo_F, bo_e0, nI10, nI00, nI11, nI01, bo_e1, nem, eqL, af_v, af_0, rf_s, rf_n, nn, ite_self, ly63, p63_0, p63_1, p63_2, p63_7, p63_10, p63_11, p63_13, p63_14, p63_16, p63_18, p63_22, p63_23, p63_24, p63_30, p63_31, p63_32, p63_33, ly67, al67, n1, n2, n3, m1, m2, m3, hk0', i0, p3, sm_cl]
theorem m_go_1 (R : RMp I β) (V : PV β) (hc : c ≤ 126) (hw : wnt β) : ∃ J1 : sm_Im, FM I J1 ∧ (∀ β', pst β c = some β' → RMp J1 β') ∧ sm_ex (d + 4) 155 [.ref 63, .int (nI c)] 81 I L (pX sw) = some (some (.int (bo ((pst β c).isSome = true))), 81, J1, L, pX sw) := by
  obtain ⟨R1, R2, R3, R4⟩ := R
  have V1 := V.1
  obtain ⟨v1, v2, v3, v4, v5, v6, v7⟩ := V.2.1 (β 0 0 - 1) (by omega)
  have mn0 := v6 hw
  have nf : ¬ frs β := fun z => by have := z.1; have := hw.1; omega
  have e6 : I 63 6 = nI 1 := by rw [R2]; unfold sta; rw [if_neg nf, if_pos hw]
  have ein : (nI 49 ≤ nI c ∧ nI c ≤ nI 57) = (49 ≤ c ∧ c ≤ 57) := by rw [leN (by decide) (by omega), leN (by omega) (by decide)]
  have w1 : lN 49 = (nI 49).toInt64 := wN 49 (by decide)
  have w2 : lN 57 = (nI 57).toInt64 := wN 57 (by decide)
  have n10 : (nI 1 = nI 1) = True := eq_self _
  by_cases g : 49 ≤ c ∧ c ≤ 57
  · have ep := ps_a1 (β := β) (by omega) g.2 hw
    have ex : nI c - nI 48 = nI (c - 48) := subN (by omega)
    refine ⟨sm_up (sm_up I 67 (7 * (β 0 0 - 1) + 2) (nI (c - 48))) 63 6 (nI 2), FM_3 (FM_7 FM_rf) (by omega), fun β' h => ?_, ?_⟩
    · rw [ep] at h
      cases h
      have e0 : ∀ a, a ≠ 2 → sm_up β 2 (β 0 0 - 1) (c - 48) a = β a := fun a ha => up_row ha
      refine ⟨by rw [up_cell (by decide), up_row (by decide), e0 0 (by decide)]; exact R1, ?_, ?_, fun k hk _ => ?_⟩
      · rw [up_same]
        unfold sta
        rw [if_neg (fun z => nf (by unfold frs at z; rw [e0 0 (by decide), e0 1 (by decide), e0 3 (by decide)] at z; exact z)), if_neg (fun z => by unfold wnt at z; rw [e0 0 (by decide), up_same] at z; omega)]
      · obtain ⟨s, s1, s2, s3⟩ := R3
        exact ⟨s, s1, by rw [up_cell (by decide), up_row (by decide)]; exact s2, fun p hp => by rw [e0 0 (by decide), e0 4 (by decide)]; exact s3 p hp⟩
      · rw [e0 0 (by decide)] at hk
        obtain ⟨r1, r2, r3, r4, r5⟩ := R4 k hk (Or.inr nf)
        have v3' := (V.2.1 k hk).2.2.1
        unfold row
        rw [up_row (by decide), e0 1 (by decide), e0 3 (by decide), e0 (6 + k) (by omega)]
        refine ⟨by rw [up_cell (by omega)]; exact r1, by rw [up_cell (by omega)]; exact r2, ?_, fun j hj => by rw [up_cell (by omega)]; exact r4 j hj, fun j hj hj4 => by rw [up_cell (by omega)]; exact r5 j hj hj4⟩
        by_cases e : k = β 0 0 - 1
        · rw [e, up_same, up_same]
        · rw [up_cell (by omega), up_cell (by omega)]; exact r3
    · rw [bsome ep, e155]
      simp (discharger := (first | omega | decide | assumption | exact rg_lt | exact rg_ly | (simp only [ly63, p63_0, p63_1, p63_2, p63_7, p63_10, p63_11, p63_13, p63_14, p63_16, p63_18, p63_22, p63_23, p63_24, p63_30, p63_31, p63_32, p63_33, ly67, al67]; omega))) only [s155_0, s155_2, s155_3, s155_6, s155_7, s155_8, s155_9, s155_12, s155_15, s155_16, s155_19, s155_20, s155_21, s155_23, s155_26, s155_27, s155_30, s155_31, s155_33, s155_36, s155_37, s155_40, s155_41, s155_43, s155_46, s155_47, s155_50, s155_51, s155_52, s155_53, s155_55, s155_57, s155_60, s155_61, s155_64, s155_65, s155_66, s155_67, s155_68, s155_69, s155_72, s155_73, s155_76, s155_77, s155_78, s155_81, s155_84, s155_85, s155_86, s155_88, s155_91, s155_92, s155_94, s155_97, s155_98, s155_101, s155_102, s155_105, s155_106, s155_109, s155_110, s155_111, s155_114, s155_115, s155_116, s155_119, s155_122, s155_123, s155_126, s155_127, s155_128, s155_129, s155_132, s155_133, s155_136, s155_137, s155_140, s155_141, s155_142, s155_143, s155_144, s155_146, s155_147, s155_148, s155_149, s155_150, s155_153, s155_154, s155_155, s155_158, s155_161, s155_164, s155_165, s155_166, s155_168, s155_171, s155_172, s155_175, s155_178, s155_179, s155_182, s155_183, s155_186, s155_187, s155_190, s155_191, s155_192, s155_193, s155_194, s155_197, s155_198, s155_201, s155_202, s155_205, s155_206, s155_207, s155_210, s155_211, s155_212, s155_215, s155_216, s155_219, s155_220, s155_223, s155_226, s155_227, s155_228, s155_229, s155_230, s155_233, ltI, geL, leL, not_true_eq_false, not_false_eq_true, if_true, if_false, and_self, and_true, true_and, and_false, false_and, or_self, or_true, true_or, or_false, false_or, bo_T, bo_F, bo_e0, nI10, nI00, nI11, nI01, bo_e1, nem, eqL, af_v, af_0, rf_s, rf_n, nn, ite_self, ly63, p63_0, p63_1, p63_2, p63_7, p63_10, p63_11, p63_13, p63_14, p63_16, p63_18, p63_22, p63_23, p63_24, p63_30, p63_31, p63_32, p63_33, ly67, al67, R1, mulN, addN, e6, ex, m_in, w1, w2, wl, ein, g, sm_cl]
  · have ep : pst β c = none := by
      by_cases c44 : c = 44
      · rw [c44]
        exact ps_c0 (fun z => by
          have z2 : (if β 1 (β 0 0 - 1) = 1 then 3 else 2) ≤ β 3 (β 0 0 - 1) := z.1
          rw [if_neg (by have := hw.1; omega), mn0] at z2
          omega)
      · by_cases c2 : sg c
        · exact ps_s0 c2 nf
        · by_cases c48 : c = 48
          · rw [c48]; exact ps_a0 hw
          · exact ps_n c44 c2 (by omega)
    refine ⟨sm_up (sm_up I 67 (7 * (β 0 0 - 1) + 2) (nI c - nI 48)) 63 6 (nI 2), FM_3 (FM_7 FM_rf) (by omega), fun β' h => (by rw [ep] at h; cases h), ?_⟩
    rw [bnone ep, e155]
    simp (discharger := (first | omega | decide | assumption | exact rg_lt | exact rg_ly | (simp only [ly63, p63_0, p63_1, p63_2, p63_7, p63_10, p63_11, p63_13, p63_14, p63_16, p63_18, p63_22, p63_23, p63_24, p63_30, p63_31, p63_32, p63_33, ly67, al67]; omega))) only [s155_0, s155_2, s155_3, s155_6, s155_7, s155_8, s155_9, s155_12, s155_15, s155_16, s155_19, s155_20, s155_21, s155_23, s155_26, s155_27, s155_30, s155_31, s155_33, s155_36, s155_37, s155_40, s155_41, s155_43, s155_46, s155_47, s155_50, s155_51, s155_52, s155_53, s155_55, s155_57, s155_60, s155_61, s155_64, s155_65, s155_66, s155_67, s155_68, s155_69, s155_72, s155_73, s155_76, s155_77, s155_78, s155_81, s155_84, s155_85, s155_86, s155_88, s155_91, s155_92, s155_94, s155_97, s155_98, s155_101, s155_102, s155_105, s155_106, s155_109, s155_110, s155_111, s155_114, s155_115, s155_116, s155_119, s155_122, s155_123, s155_126, s155_127, s155_128, s155_129, s155_132, s155_133, s155_136, s155_137, s155_140, s155_141, s155_142, s155_143, s155_144, s155_146, s155_147, s155_148, s155_149, s155_150, s155_153, s155_154, s155_155, s155_158, s155_161, s155_164, s155_165, s155_166, s155_168, s155_171, s155_172, s155_175, s155_178, s155_179, s155_182, s155_183, s155_186, s155_187, s155_190, s155_191, s155_192, s155_193, s155_194, s155_197, s155_198, s155_201, s155_202, s155_205, s155_206, s155_207, s155_210, s155_211, s155_212, s155_215, s155_216, s155_219, s155_220, s155_223, s155_226, s155_227, s155_228, s155_229, s155_230, s155_233, ltI, geL, leL, not_true_eq_false, not_false_eq_true, if_true, if_false, and_self, and_true, true_and, and_false, false_and, or_self, or_true, true_or, or_false, false_or, bo_T, bo_F, bo_e0, nI10, nI00, nI11, nI01, bo_e1, nem, eqL, af_v, af_0, rf_s, rf_n, nn, ite_self, ly63, p63_0, p63_1, p63_2, p63_7, p63_10, p63_11, p63_13, p63_14, p63_16, p63_18, p63_22, p63_23, p63_24, p63_30, p63_31, p63_32, p63_33, ly67, al67, R1, mulN, addN, e6, m_in, w1, w2, wl, ein, g, sm_cl]
theorem m_go_2 (R : RMp I β) (V : PV β) (hc : c ≤ 126) (nf : ¬ frs β) (nw : ¬ wnt β) : ∃ J1 : sm_Im, FM I J1 ∧ (∀ β', pst β c = some β' → RMp J1 β') ∧ sm_ex (d + 4) 155 [.ref 63, .int (nI c)] 81 I L (pX sw) = some (some (.int (bo ((pst β c).isSome = true))), 81, J1, L, pX sw) := by
  obtain ⟨R1, R2, R3, R4⟩ := R
  have V1 := V.1
  obtain ⟨v1, v2, v3, v4, v5, v6, v7⟩ := V.2.1 (β 0 0 - 1) (by omega)
  have e6 : I 63 6 = nI 2 := by rw [R2]; unfold sta; rw [if_neg nf, if_neg nw]
  have z20 : (nI 2 = 0) = False := by decide
  have z21 : (nI 2 = nI 1) = False := by decide
  have ec : (nI c = nI 44) = (c = 44) := eqN (by omega) (by decide)
  have hrow : ∀ k, k < β 0 0 → row I β k := fun k hk => R4 k hk (Or.inr nf)
  by_cases c44 : c = 44
  · subst c44
    obtain ⟨r1, r2, r3, r4, r5⟩ := hrow (β 0 0 - 1) (by omega)
    have ib := m_isBirth_2 (d := d + 2) (L := L) (sw := sw) R1 (by omega) r1 v1 r2 v3 e6
    by_cases hw : whl β
    · rw [botx hw] at ib
      by_cases h5 : β 0 0 < 5
      · have ep := ps_c1 hw h5
        have c4 : ¬ 4 ≤ β 0 0 - 1 := by omega
        have ea : β 0 0 - 1 + 1 = β 0 0 := by omega
        refine ⟨sm_up (sm_up I 63 4 (nI (β 0 0))) 63 6 (nI 0), FM_3 (FM_3 FM_rf (by omega)) (by omega), fun β' h => ?_, ?_⟩
        · rw [ep] at h
          cases h
          refine ⟨by rw [up_cell (by decide), up_same, pn_0]; congr 1, ?_, ?_, fun k hk hk2 => ?_⟩
          · rw [up_same]
            unfold sta
            rw [if_pos]
            refine ⟨?_, ?_⟩
            · rw [pn_0, pn_1, if_pos (by omega)]
            · rw [pn_0, pn_3, if_pos (by omega)]
          · obtain ⟨s, s1, s2, s3⟩ := R3
            refine ⟨s, s1, by rw [up_cell (by decide), up_cell (by decide)]; exact s2, fun p hp => ?_⟩
            rw [s3 p hp, pn_0, pn_4 (by decide)]
            have := V.2.2.2 p hp
            by_cases e : β 4 p < β 0 0
            · rw [decide_eq_true e, decide_eq_true (by omega)]
            · rw [decide_eq_false e, decide_eq_false (by omega)]
          · rw [pn_0] at hk hk2
            have hk3 : k < β 0 0 := by
              rcases hk2 with z | z
              · omega
              · exact absurd ⟨by rw [pn_0, pn_1, if_pos (by omega)], by rw [pn_0, pn_3, if_pos (by omega)]⟩ z
            obtain ⟨r1, r2, r3, r4, r5⟩ := hrow k hk3
            unfold row
            rw [up_row (by decide), up_row (by decide), pn_1, pn_2, pn_3, pn_4 (by omega), if_neg (by omega), if_neg (by omega), if_neg (by omega)]
            exact ⟨r1, r2, r3, r4, r5⟩
        · rw [bsome ep, e155]
          simp (discharger := (first | omega | decide | assumption | exact rg_lt | exact rg_ly | (simp only [ly63, p63_0, p63_1, p63_2, p63_7, p63_10, p63_11, p63_13, p63_14, p63_16, p63_18, p63_22, p63_23, p63_24, p63_30, p63_31, p63_32, p63_33, ly67, al67]; omega))) only [s155_0, s155_2, s155_3, s155_6, s155_7, s155_8, s155_9, s155_12, s155_15, s155_16, s155_19, s155_20, s155_21, s155_23, s155_26, s155_27, s155_30, s155_31, s155_33, s155_36, s155_37, s155_40, s155_41, s155_43, s155_46, s155_47, s155_50, s155_51, s155_52, s155_53, s155_55, s155_57, s155_60, s155_61, s155_64, s155_65, s155_66, s155_67, s155_68, s155_69, s155_72, s155_73, s155_76, s155_77, s155_78, s155_81, s155_84, s155_85, s155_86, s155_88, s155_91, s155_92, s155_94, s155_97, s155_98, s155_101, s155_102, s155_105, s155_106, s155_109, s155_110, s155_111, s155_114, s155_115, s155_116, s155_119, s155_122, s155_123, s155_126, s155_127, s155_128, s155_129, s155_132, s155_133, s155_136, s155_137, s155_140, s155_141, s155_142, s155_143, s155_144, s155_146, s155_147, s155_148, s155_149, s155_150, s155_153, s155_154, s155_155, s155_158, s155_161, s155_164, s155_165, s155_166, s155_168, s155_171, s155_172, s155_175, s155_178, s155_179, s155_182, s155_183, s155_186, s155_187, s155_190, s155_191, s155_192, s155_193, s155_194, s155_197, s155_198, s155_201, s155_202, s155_205, s155_206, s155_207, s155_210, s155_211, s155_212, s155_215, s155_216, s155_219, s155_220, s155_223, s155_226, s155_227, s155_228, s155_229, s155_230, s155_233, ltI, geL, leL, not_true_eq_false, not_false_eq_true, if_true, if_false, and_self, and_true, true_and, and_false, false_and, or_self, or_true, true_or, or_false, false_or, bo_T, bo_F, bo_e0, nI10, nI00, nI11, nI01, bo_e1, nem, eqL, af_v, af_0, rf_s, rf_n, nn, ite_self, ly63, p63_0, p63_1, p63_2, p63_7, p63_10, p63_11, p63_13, p63_14, p63_16, p63_18, p63_22, p63_23, p63_24, p63_30, p63_31, p63_32, p63_33, ly67, al67, R1, mulN, addN, e6, z20, z21, ib, leN, c4, ea, sm_cl]
      · have ep := ps_c0 (β := β) (fun z => h5 z.2)
        have c4 : 4 ≤ β 0 0 - 1 := by omega
        refine ⟨sm_up (sm_up I 63 4 (nI (β 0 0 - 1 + 0))) 63 6 (nI 2), FM_3 (FM_3 FM_rf (by omega)) (by omega), fun β' h => (by rw [ep] at h; cases h), ?_⟩
        have u6 : ∀ v, sm_up I 63 4 v 63 6 = nI 2 := fun v => by rw [up_cell (by decide)]; exact e6
        rw [bnone ep, e155]
        simp (discharger := (first | omega | decide | assumption | exact rg_lt | exact rg_ly | (simp only [ly63, p63_0, p63_1, p63_2, p63_7, p63_10, p63_11, p63_13, p63_14, p63_16, p63_18, p63_22, p63_23, p63_24, p63_30, p63_31, p63_32, p63_33, ly67, al67]; omega))) only [s155_0, s155_2, s155_3, s155_6, s155_7, s155_8, s155_9, s155_12, s155_15, s155_16, s155_19, s155_20, s155_21, s155_23, s155_26, s155_27, s155_30, s155_31, s155_33, s155_36, s155_37, s155_40, s155_41, s155_43, s155_46, s155_47, s155_50, s155_51, s155_52, s155_53, s155_55, s155_57, s155_60, s155_61, s155_64, s155_65, s155_66, s155_67, s155_68, s155_69, s155_72, s155_73, s155_76, s155_77, s155_78, s155_81, s155_84, s155_85, s155_86, s155_88, s155_91, s155_92, s155_94, s155_97, s155_98, s155_101, s155_102, s155_105, s155_106, s155_109, s155_110, s155_111, s155_114, s155_115, s155_116, s155_119, s155_122, s155_123, s155_126, s155_127, s155_128, s155_129, s155_132, s155_133, s155_136, s155_137, s155_140, s155_141, s155_142, s155_143, s155_144, s155_146, s155_147, s155_148, s155_149, s155_150, s155_153, s155_154, s155_155, s155_158, s155_161, s155_164, s155_165, s155_166, s155_168, s155_171, s155_172, s155_175, s155_178, s155_179, s155_182, s155_183, s155_186, s155_187, s155_190, s155_191, s155_192, s155_193, s155_194, s155_197, s155_198, s155_201, s155_202, s155_205, s155_206, s155_207, s155_210, s155_211, s155_212, s155_215, s155_216, s155_219, s155_220, s155_223, s155_226, s155_227, s155_228, s155_229, s155_230, s155_233, ltI, geL, leL, not_true_eq_false, not_false_eq_true, if_true, if_false, and_self, and_true, true_and, and_false, false_and, or_self, or_true, true_or, or_false, false_or, bo_T, bo_F, bo_e0, nI10, nI00, nI11, nI01, bo_e1, nem, eqL, af_v, af_0, rf_s, rf_n, nn, ite_self, ly63, p63_0, p63_1, p63_2, p63_7, p63_10, p63_11, p63_13, p63_14, p63_16, p63_18, p63_22, p63_23, p63_24, p63_30, p63_31, p63_32, p63_33, ly67, al67, R1, mulN, addN, e6, z20, z21, ib, leN, c4, u6, sm_cl]
    · rw [bofx hw] at ib
      have ep := ps_c0 (β := β) (fun z => hw z.1)
      refine ⟨sm_up (sm_up I 63 4 (nI (β 0 0 - 1 + 0))) 63 6 (nI 2), FM_3 (FM_3 FM_rf (by omega)) (by omega), fun β' h => (by rw [ep] at h; cases h), ?_⟩
      have u6 : ∀ v, sm_up I 63 4 v 63 6 = nI 2 := fun v => by rw [up_cell (by decide)]; exact e6
      rw [bnone ep, e155]
      simp (discharger := (first | omega | decide | assumption | exact rg_lt | exact rg_ly | (simp only [ly63, p63_0, p63_1, p63_2, p63_7, p63_10, p63_11, p63_13, p63_14, p63_16, p63_18, p63_22, p63_23, p63_24, p63_30, p63_31, p63_32, p63_33, ly67, al67]; omega))) only [s155_0, s155_2, s155_3, s155_6, s155_7, s155_8, s155_9, s155_12, s155_15, s155_16, s155_19, s155_20, s155_21, s155_23, s155_26, s155_27, s155_30, s155_31, s155_33, s155_36, s155_37, s155_40, s155_41, s155_43, s155_46, s155_47, s155_50, s155_51, s155_52, s155_53, s155_55, s155_57, s155_60, s155_61, s155_64, s155_65, s155_66, s155_67, s155_68, s155_69, s155_72, s155_73, s155_76, s155_77, s155_78, s155_81, s155_84, s155_85, s155_86, s155_88, s155_91, s155_92, s155_94, s155_97, s155_98, s155_101, s155_102, s155_105, s155_106, s155_109, s155_110, s155_111, s155_114, s155_115, s155_116, s155_119, s155_122, s155_123, s155_126, s155_127, s155_128, s155_129, s155_132, s155_133, s155_136, s155_137, s155_140, s155_141, s155_142, s155_143, s155_144, s155_146, s155_147, s155_148, s155_149, s155_150, s155_153, s155_154, s155_155, s155_158, s155_161, s155_164, s155_165, s155_166, s155_168, s155_171, s155_172, s155_175, s155_178, s155_179, s155_182, s155_183, s155_186, s155_187, s155_190, s155_191, s155_192, s155_193, s155_194, s155_197, s155_198, s155_201, s155_202, s155_205, s155_206, s155_207, s155_210, s155_211, s155_212, s155_215, s155_216, s155_219, s155_220, s155_223, s155_226, s155_227, s155_228, s155_229, s155_230, s155_233, ltI, geL, leL, not_true_eq_false, not_false_eq_true, if_true, if_false, and_self, and_true, true_and, and_false, false_and, or_self, or_true, true_or, or_false, false_or, bo_T, bo_F, bo_e0, nI10, nI00, nI11, nI01, bo_e1, nem, eqL, af_v, af_0, rf_s, rf_n, nn, ite_self, ly63, p63_0, p63_1, p63_2, p63_7, p63_10, p63_11, p63_13, p63_14, p63_16, p63_18, p63_22, p63_23, p63_24, p63_30, p63_31, p63_32, p63_33, ly67, al67, R1, mulN, addN, e6, z20, z21, ib, u6, sm_cl]
  · obtain ⟨J4, p1, p2, p3⟩ := m_gp (d := d) (L := L) (sw := sw) V R1 R3 hrow nw hc c44 (Or.inr nf)
    refine ⟨J4, p1, p2, ?_⟩
    have hbo := bo_01 ((pst β c).isSome = true)
    rw [e155]
    simp (discharger := (first | omega | decide | assumption | exact rg_lt | exact rg_ly | (simp only [ly63, p63_0, p63_1, p63_2, p63_7, p63_10, p63_11, p63_13, p63_14, p63_16, p63_18, p63_22, p63_23, p63_24, p63_30, p63_31, p63_32, p63_33, ly67, al67]; omega))) only [s155_0, s155_2, s155_3, s155_6, s155_7, s155_8, s155_9, s155_12, s155_15, s155_16, s155_19, s155_20, s155_21, s155_23, s155_26, s155_27, s155_30, s155_31, s155_33, s155_36, s155_37, s155_40, s155_41, s155_43, s155_46, s155_47, s155_50, s155_51, s155_52, s155_53, s155_55, s155_57, s155_60, s155_61, s155_64, s155_65, s155_66, s155_67, s155_68, s155_69, s155_72, s155_73, s155_76, s155_77, s155_78, s155_81, s155_84, s155_85, s155_86, s155_88, s155_91, s155_92, s155_94, s155_97, s155_98, s155_101, s155_102, s155_105, s155_106, s155_109, s155_110, s155_111, s155_114, s155_115, s155_116, s155_119, s155_122, s155_123, s155_126, s155_127, s155_128, s155_129, s155_132, s155_133, s155_136, s155_137, s155_140, s155_141, s155_142, s155_143, s155_144, s155_146, s155_147, s155_148, s155_149, s155_150, s155_153, s155_154, s155_155, s155_158, s155_161, s155_164, s155_165, s155_166, s155_168, s155_171, s155_172, s155_175, s155_178, s155_179, s155_182, s155_183, s155_186, s155_187, s155_190, s155_191, s155_192, s155_193, s155_194, s155_197, s155_198, s155_201, s155_202, s155_205, s155_206, s155_207, s155_210, s155_211, s155_212, s155_215, s155_216, s155_219, s155_220, s155_223, s155_226, s155_227, s155_228, s155_229, s155_230, s155_233, ltI, geL, leL, not_true_eq_false, not_false_eq_true, if_true, if_false, and_self, and_true, true_and, and_false, false_and, or_self, or_true, true_or, or_false, false_or, bo_T, bo_F, bo_e0, nI10, nI00, nI11, nI01, bo_e1, nem, eqL, af_v, af_0, rf_s, rf_n, nn, ite_self, ly63, p63_0, p63_1, p63_2, p63_7, p63_10, p63_11, p63_13, p63_14, p63_16, p63_18, p63_22, p63_23, p63_24, p63_30, p63_31, p63_32, p63_33, ly67, al67, R1, mulN, addN, e6, z20, z21, ec, c44, p3, sm_cl]
theorem m_go (R : RMp I β) (V : PV β) (hc : c ≤ 126) : ∃ J1 : sm_Im, FM I J1 ∧ (∀ β', pst β c = some β' → RMp J1 β') ∧ sm_ex (d + 4) 155 [.ref 63, .int (nI c)] 81 I L (pX sw) = some (some (.int (bo ((pst β c).isSome = true))), 81, J1, L, pX sw) := by
  by_cases h1 : frs β
  · exact m_go_0 R V hc h1
  · by_cases h2 : wnt β
    · exact m_go_1 R V hc h2
    · exact m_go_2 R V hc h1 h2
end GO
