section KP3
variable {d N : Nat} {I J : sm_Im} {L : sm_Lm} {P : sm_Pm} {sw : Bool} {x y z u v : Int32} {a b m n q i j p k c s w o R : Nat} {f : Nat → Int32} {D E W V : Mx} {β : Nat → Nat → Nat} {r t : Nat → Nat} {o1 o2 : Option Nat}
def bq (o : Option Nat) (V : Mx) : Mx := match o with
  | none => V
  | some c => bM V (c / 6) (c % 6)
def okp (o : Option Nat) : Prop := ∀ c, o = some c → c < 36 ∧ c / 6 < c % 6
theorem bq_d (h : okp o1) (hd : ∀ a, a < 6 → V a a = 0) : ∀ a, a < 6 → bq o1 V a a = 0 := by
  cases o1 with
  | none => exact hd
  | some c =>
    have := h c rfl
    exact bM_d (by omega) hd
theorem bM_le (hB : ∀ a b, V a b ≤ N) : ∀ i j, bM V a b i j ≤ N := fun i j => by
  have := hB i j
  unfold bM
  (try dsimp only)
  split <;> omega
theorem bq_le (hB : ∀ a b, V a b ≤ N) : ∀ i j, bq o1 V i j ≤ N := by
  cases o1 with
  | none => exact hB
  | some c => exact bM_le hB
theorem bM_cong (h : ∀ a b, a < 6 → b < 6 → V a b = W a b) : ∀ i j, i < 6 → j < 6 → bM V a b i j = bM W a b i j := fun i j hi hj => by
  unfold bM
  (try dsimp only)
  rw [h i j hi hj]
theorem bq_cong (h : ∀ a b, a < 6 → b < 6 → V a b = W a b) : ∀ i j, i < 6 → j < 6 → bq o1 V i j = bq o1 W i j := by
  cases o1 with
  | none => exact h
  | some c => exact bM_cong h
theorem RW_b (h : RW (J 71) V) (ha : a < 6) (hb : b < 6) (hab : a ≠ b) : RW (sm_up (sm_up J 71 (6 * a + b) (nI (min (V a b) 1))) 71 (6 * b + a) (nI (min (V b a) 1)) 71) (bM V a b) := fun i j hi hj => by
  rw [up_at, up_at]
  unfold bM
  by_cases e1 : i = b ∧ j = a
  · obtain ⟨rfl, rfl⟩ := e1
    rw [if_pos rfl, if_pos (Or.inr ⟨rfl, rfl⟩)]
  · rw [if_neg (by omega)]
    by_cases e2 : i = a ∧ j = b
    · obtain ⟨rfl, rfl⟩ := e2
      rw [if_pos rfl, if_pos (Or.inl ⟨rfl, rfl⟩)]
    · rw [if_neg (by omega), if_neg (by omega)]
      exact h i j hi hj
theorem m_bond (hR : RW (J 71) V) (hB : ∀ a b, V a b ≤ 1000000) (ha : a < 6) (hb : b < 6) (hab : a ≠ b) : ∃ J0 J1 : sm_Im, (∀ c, c ≠ 71 → J1 c = J c) ∧ RW (J1 71) (bM V a b) ∧ sm_ex (d + 1) 177 [.ref 63, .int (nI a), .int (nI b), .int (nI 1)] 81 J L (pX sw) = some (none, 81, J0, L, pX sw) ∧ sm_ex (d + 1) 177 [.ref 63, .int (nI b), .int (nI a), .int (nI 1)] 81 J0 L (pX sw) = some (none, 81, J1, L, pX sw) := by
  have b1 := hB a b
  have b2 := hB b a
  refine ⟨_, _, fun c hc => ?_, RW_b hR ha hb hab, m_mayCome ha hb (hR a b ha hb) (by omega) (by decide), m_mayCome hb ha ?_ (by omega) (by decide)⟩
  · rw [up_row hc, up_row hc]
  · rw [up_at, if_neg (by omega)]; exact hR b a hb ha
theorem m_is_1 (hR : RW (J 71) V) (hB : ∀ a b, V a b ≤ 1000000) (ho : okp o1) (l1 l3 l4 l5 : Option Value) : ∃ J1 : sm_Im, (∀ c, c ≠ 71 → J1 c = J c) ∧ RW (J1 71) (bq o1 V) ∧ sm_at (sm_ex (d + 1)) none 184 5 [some (.ref 63), l1, some (.int (oI o1)), l3, l4, l5] [] 81 J L (pX sw) = sm_at (sm_ex (d + 1)) none 184 36 [some (.ref 63), l1, some (.int (oI o1)), l3, l4, l5] [] 81 J1 L (pX sw) := by
  cases o1 with
  | none =>
    refine ⟨J, fun c _ => rfl, hR, ?_⟩
    simp only [s184_5, s184_6, s184_7, oI, if_true]
  | some c =>
    obtain ⟨h1, h2⟩ := ho c rfl
    obtain ⟨J0, J1, g1, g2, g3, g4⟩ := m_bond (d := d) (L := L) (sw := sw) hR hB (show c / 6 < 6 by omega) (show c % 6 < 6 by omega) (by omega)
    refine ⟨J1, g1, g2, ?_⟩
    have e1 : (nI c = -1) = False := neN1 (by omega)
    have z6 : ¬ nI 6 = 0 := by decide
    have e2 : nI c / nI 6 = nI (c / 6) := divN (by omega) (by decide) (by decide)
    have e3 : nI c - nI (c / 6) * nI 6 = nI (c % 6) := by rw [← e2]; exact remN (by omega) (by decide) (by decide)
    simp (discharger := (first | omega | decide | assumption | exact rg_lt | exact rg_ly | (simp only [ly63, p63_0, p63_1, p63_2, p63_7, p63_10, p63_11, p63_13, p63_14, p63_16, p63_18, p63_22, p63_23, p63_24, p63_30, p63_31, p63_32, p63_33]; omega))) only [s184_0, s184_1, s184_2, s184_5, s184_6, s184_7, s184_10, s184_11, s184_12, s184_14, s184_15, s184_16, s184_18, s184_19, s184_20, s184_23, s184_24, s184_25, s184_27, s184_28, s184_29, s184_31, s184_32, s184_33, s184_37, s184_38, s184_41, s184_42, s184_43, s184_45, s184_46, s184_47, s184_49, s184_50, s184_51, s184_54, s184_55, s184_56, s184_58, s184_59, s184_60, s184_62, s184_63, s184_64, s184_67, s184_68, s184_71, s184_72, s184_74, s184_75, s184_79, s184_81, s184_84, s184_86, s184_89, s184_90, s184_93, s184_95, s184_96, s184_97, s184_100, s184_101, s184_104, s184_105, s184_107, s184_110, s184_113, s184_115, oI, ltI, geL, leL, not_true_eq_false, not_false_eq_true, if_true, if_false, and_self, and_true, true_and, and_false, false_and, or_self, or_true, true_or, or_false, false_or, bo_T, bo_F, bo_e0, nI10, nI00, nI11, nI01, bo_e1, nem, eqL, af_v, af_0, rf_s, rf_n, nn, ite_self, ly63, p63_0, p63_1, p63_2, p63_7, p63_10, p63_11, p63_13, p63_14, p63_16, p63_18, p63_22, p63_23, p63_24, p63_30, p63_31, p63_32, p63_33, e1, z6, e2, e3, g3, g4]
theorem m_is_2 (hR : RW (J 71) V) (hB : ∀ a b, V a b ≤ 1000000) (ho : okp o1) (l1 l2 l4 l5 : Option Value) : ∃ J1 : sm_Im, (∀ c, c ≠ 71 → J1 c = J c) ∧ RW (J1 71) (bq o1 V) ∧ sm_at (sm_ex (d + 1)) none 184 36 [some (.ref 63), l1, l2, some (.int (oI o1)), l4, l5] [] 81 J L (pX sw) = sm_at (sm_ex (d + 1)) none 184 67 [some (.ref 63), l1, l2, some (.int (oI o1)), l4, l5] [] 81 J1 L (pX sw) := by
  cases o1 with
  | none =>
    refine ⟨J, fun c _ => rfl, hR, ?_⟩
    simp only [s184_36, s184_37, s184_38, oI, if_true]
  | some c =>
    obtain ⟨h1, h2⟩ := ho c rfl
    obtain ⟨J0, J1, g1, g2, g3, g4⟩ := m_bond (d := d) (L := L) (sw := sw) hR hB (show c / 6 < 6 by omega) (show c % 6 < 6 by omega) (by omega)
    refine ⟨J1, g1, g2, ?_⟩
    have e1 : (nI c = -1) = False := neN1 (by omega)
    have z6 : ¬ nI 6 = 0 := by decide
    have e2 : nI c / nI 6 = nI (c / 6) := divN (by omega) (by decide) (by decide)
    have e3 : nI c - nI (c / 6) * nI 6 = nI (c % 6) := by rw [← e2]; exact remN (by omega) (by decide) (by decide)
    simp (discharger := (first | omega | decide | assumption | exact rg_lt | exact rg_ly | (simp only [ly63, p63_0, p63_1, p63_2, p63_7, p63_10, p63_11, p63_13, p63_14, p63_16, p63_18, p63_22, p63_23, p63_24, p63_30, p63_31, p63_32, p63_33]; omega))) only [s184_0, s184_1, s184_2, s184_5, s184_6, s184_7, s184_10, s184_11, s184_12, s184_14, s184_15, s184_16, s184_18, s184_19, s184_20, s184_23, s184_24, s184_25, s184_27, s184_28, s184_29, s184_31, s184_32, s184_33, s184_36, s184_37, s184_38, s184_41, s184_42, s184_43, s184_45, s184_46, s184_47, s184_49, s184_50, s184_51, s184_54, s184_55, s184_56, s184_58, s184_59, s184_60, s184_62, s184_63, s184_64, s184_68, s184_71, s184_72, s184_74, s184_75, s184_79, s184_81, s184_84, s184_86, s184_89, s184_90, s184_93, s184_95, s184_96, s184_97, s184_100, s184_101, s184_104, s184_105, s184_107, s184_110, s184_113, s184_115, oI, ltI, geL, leL, not_true_eq_false, not_false_eq_true, if_true, if_false, and_self, and_true, true_and, and_false, false_and, or_self, or_true, true_or, or_false, false_or, bo_T, bo_F, bo_e0, nI10, nI00, nI11, nI01, bo_e1, nem, eqL, af_v, af_0, rf_s, rf_n, nn, ite_self, ly63, p63_0, p63_1, p63_2, p63_7, p63_10, p63_11, p63_13, p63_14, p63_16, p63_18, p63_22, p63_23, p63_24, p63_30, p63_31, p63_32, p63_33, e1, z6, e2, e3, g3, g4]
theorem m_is_loop (hR : RW (I 71) D) (hB : ∀ a b, D a b ≤ 1000000) (hm : m ≤ 999) : ∀ (g i : Nat), i + g = 36 → ∀ l2 l3 : Option Value, sm_at (sm_ex d) none 184 77 [some (.ref 63), some (.int (nI m)), l2, l3, some (.int (bo (anyN (fun i => decide (m < D (i / 6) (i % 6))) i = false))), some (.int (nI i))] [] 81 I L (pX sw) = some (some (.int (bo (exc D m = false))), 81, I, L, pX sw) := by
  intro g
  induction g with
  | zero =>
    intro i hi l2 l3
    obtain rfl : i = 36 := by omega
    rw [s184_77]
    simp (discharger := first | assumption | omega | decide | exact bo_01 _) only [s184_0, s184_1, s184_2, s184_5, s184_6, s184_7, s184_10, s184_11, s184_12, s184_14, s184_15, s184_16, s184_18, s184_19, s184_20, s184_23, s184_24, s184_25, s184_27, s184_28, s184_29, s184_31, s184_32, s184_33, s184_36, s184_37, s184_38, s184_41, s184_42, s184_43, s184_45, s184_46, s184_47, s184_49, s184_50, s184_51, s184_54, s184_55, s184_56, s184_58, s184_59, s184_60, s184_62, s184_63, s184_64, s184_67, s184_68, s184_71, s184_72, s184_74, s184_75, s184_79, s184_81, s184_84, s184_86, s184_89, s184_90, s184_93, s184_95, s184_96, s184_97, s184_100, s184_101, s184_104, s184_105, s184_107, s184_110, s184_113, s184_115, ltI, geL, leL, not_true_eq_false, not_false_eq_true, if_true, if_false, and_self, and_true, true_and, and_false, false_and, or_self, or_true, true_or, or_false, false_or, bo_T, bo_F, bo_e0, nI10, nI00, nI11, nI01, bo_e1, nem, eqL, af_v, af_0, rf_s, rf_n, nn, ite_self, Int32.le_refl]
    rfl
  | succ g ih =>
    intro i hi l2 l3
    have c1 : ¬ 36 ≤ i := by omega
    have h := hR (i / 6) (i % 6) (by omega) (by omega)
    rw [Nat.div_add_mod] at h
    have b1 := hB (i / 6) (i % 6)
    have := ih (i + 1) (by omega) l2 (sm_cl l3)
    rw [s184_77]
    cases e0 : anyN (fun i => decide (m < D (i / 6) (i % 6))) i with
    | true =>
      rw [anyN_s, e0, Bool.true_or] at this
      simp only [ltI, geL, leL, not_true_eq_false, not_false_eq_true, if_true, if_false, and_self, and_true, true_and, and_false, false_and, or_self, or_true, true_or, or_false, false_or, bo_T, bo_F, bo_e0, nI10, nI00, nI11, nI01, bo_e1, nem, eqL, af_v, af_0, rf_s, rf_n, nn, ite_self, Bool.true_eq_false] at this
      simp (discharger := (first | omega | decide | assumption | exact rg_lt | exact rg_ly | (simp only [ly63, p63_0, p63_1, p63_2, p63_7, p63_10, p63_11, p63_13, p63_14, p63_16, p63_18, p63_22, p63_23, p63_24, p63_30, p63_31, p63_32, p63_33, ly71, al71]; omega))) only [s184_0, s184_1, s184_2, s184_5, s184_6, s184_7, s184_10, s184_11, s184_12, s184_14, s184_15, s184_16, s184_18, s184_19, s184_20, s184_23, s184_24, s184_25, s184_27, s184_28, s184_29, s184_31, s184_32, s184_33, s184_36, s184_37, s184_38, s184_41, s184_42, s184_43, s184_45, s184_46, s184_47, s184_49, s184_50, s184_51, s184_54, s184_55, s184_56, s184_58, s184_59, s184_60, s184_62, s184_63, s184_64, s184_67, s184_68, s184_71, s184_72, s184_74, s184_75, s184_79, s184_81, s184_84, s184_86, s184_89, s184_90, s184_93, s184_95, s184_96, s184_97, s184_100, s184_101, s184_104, s184_105, s184_107, s184_110, s184_113, s184_115, ltI, geL, leL, not_true_eq_false, not_false_eq_true, if_true, if_false, and_self, and_true, true_and, and_false, false_and, or_self, or_true, true_or, or_false, false_or, bo_T, bo_F, bo_e0, nI10, nI00, nI11, nI01, bo_e1, nem, eqL, af_v, af_0, rf_s, rf_n, nn, ite_self, ly63, p63_0, p63_1, p63_2, p63_7, p63_10, p63_11, p63_13, p63_14, p63_16, p63_18, p63_22, p63_23, p63_24, p63_30, p63_31, p63_32, p63_33, ly71, al71, leN, c1, addN, sm_cl, Bool.true_eq_false]
      exact this
    | false =>
      rw [anyN_s, e0, Bool.false_or] at this
      by_cases c : D (i / 6) (i % 6) ≤ m
      · rw [decide_eq_false (show ¬ m < D (i / 6) (i % 6) by omega)] at this
        simp only [ltI, geL, leL, not_true_eq_false, not_false_eq_true, if_true, if_false, and_self, and_true, true_and, and_false, false_and, or_self, or_true, true_or, or_false, false_or, bo_T, bo_F, bo_e0, nI10, nI00, nI11, nI01, bo_e1, nem, eqL, af_v, af_0, rf_s, rf_n, nn, ite_self] at this
        simp (discharger := (first | omega | decide | assumption | exact rg_lt | exact rg_ly | (simp only [ly63, p63_0, p63_1, p63_2, p63_7, p63_10, p63_11, p63_13, p63_14, p63_16, p63_18, p63_22, p63_23, p63_24, p63_30, p63_31, p63_32, p63_33, ly71, al71]; omega))) only [s184_0, s184_1, s184_2, s184_5, s184_6, s184_7, s184_10, s184_11, s184_12, s184_14, s184_15, s184_16, s184_18, s184_19, s184_20, s184_23, s184_24, s184_25, s184_27, s184_28, s184_29, s184_31, s184_32, s184_33, s184_36, s184_37, s184_38, s184_41, s184_42, s184_43, s184_45, s184_46, s184_47, s184_49, s184_50, s184_51, s184_54, s184_55, s184_56, s184_58, s184_59, s184_60, s184_62, s184_63, s184_64, s184_67, s184_68, s184_71, s184_72, s184_74, s184_75, s184_79, s184_81, s184_84, s184_86, s184_89, s184_90, s184_93, s184_95, s184_96, s184_97, s184_100, s184_101, s184_104, s184_105, s184_107, s184_110, s184_113, s184_115, ltI, geL, leL, not_true_eq_false, not_false_eq_true, if_true, if_false, and_self, and_true, true_and, and_false, false_and, or_self, or_true, true_or, or_false, false_or, bo_T, bo_F, bo_e0, nI10, nI00, nI11, nI01, bo_e1, nem, eqL, af_v, af_0, rf_s, rf_n, nn, ite_self, ly63, p63_0, p63_1, p63_2, p63_7, p63_10, p63_11, p63_13, p63_14, p63_16, p63_18, p63_22, p63_23, p63_24, p63_30, p63_31, p63_32, p63_33, ly71, al71, leN, c1, h, c, addN, sm_cl]
        exact this
      · rw [decide_eq_true (show m < D (i / 6) (i % 6) by omega)] at this
        simp only [ltI, geL, leL, not_true_eq_false, not_false_eq_true, if_true, if_false, and_self, and_true, true_and, and_false, false_and, or_self, or_true, true_or, or_false, false_or, bo_T, bo_F, bo_e0, nI10, nI00, nI11, nI01, bo_e1, nem, eqL, af_v, af_0, rf_s, rf_n, nn, ite_self, Bool.true_eq_false] at this
        simp (discharger := (first | omega | decide | assumption | exact rg_lt | exact rg_ly | (simp only [ly63, p63_0, p63_1, p63_2, p63_7, p63_10, p63_11, p63_13, p63_14, p63_16, p63_18, p63_22, p63_23, p63_24, p63_30, p63_31, p63_32, p63_33, ly71, al71]; omega))) only [s184_0, s184_1, s184_2, s184_5, s184_6, s184_7, s184_10, s184_11, s184_12, s184_14, s184_15, s184_16, s184_18, s184_19, s184_20, s184_23, s184_24, s184_25, s184_27, s184_28, s184_29, s184_31, s184_32, s184_33, s184_36, s184_37, s184_38, s184_41, s184_42, s184_43, s184_45, s184_46, s184_47, s184_49, s184_50, s184_51, s184_54, s184_55, s184_56, s184_58, s184_59, s184_60, s184_62, s184_63, s184_64, s184_67, s184_68, s184_71, s184_72, s184_74, s184_75, s184_79, s184_81, s184_84, s184_86, s184_89, s184_90, s184_93, s184_95, s184_96, s184_97, s184_100, s184_101, s184_104, s184_105, s184_107, s184_110, s184_113, s184_115, ltI, geL, leL, not_true_eq_false, not_false_eq_true, if_true, if_false, and_self, and_true, true_and, and_false, false_and, or_self, or_true, true_or, or_false, false_or, bo_T, bo_F, bo_e0, nI10, nI00, nI11, nI01, bo_e1, nem, eqL, af_v, af_0, rf_s, rf_n, nn, ite_self, ly63, p63_0, p63_1, p63_2, p63_7, p63_10, p63_11, p63_13, p63_14, p63_16, p63_18, p63_22, p63_23, p63_24, p63_30, p63_31, p63_32, p63_33, ly71, al71, leN, c1, h, c, addN, sm_cl]
        exact this
theorem m_isSoon (B : RMB I β) (O : BOk β) (ht : ∀ p, p < 10 → I 65 p = nI (t p) ∧ t p < 6) (hr : ∀ k, k < 36 → I 64 k = nI (r k) ∧ r k ≤ 99) (hV : PW V 1000000 r t β (CF β (nI 0))) (h1 : okp o1) (h2 : okp o2) (hm : m ≤ 999) : ∃ J1 : sm_Im, (∀ c, c ≠ 71 → J1 c = I c) ∧ sm_ex (d + 5) 184 [.ref 63, .int (nI m), .int (oI o1), .int (oI o2)] 81 I L (pX sw) = some (some (.int (bo (exc (fw (bq o2 (bq o1 V)) 6) m = false))), 81, J1, L, pX sw) := by
  obtain ⟨J0, V0, c1, c2, c3, c4⟩ := m_layWays (d := d) (x := nI 0) (L := L) (sw := sw) B O ht hr
  have hVV : ∀ a b, a < 6 → b < 6 → V0 a b = V a b := fun a b ha hb => by
    have := PW_fun c2 hV (Nat.le_refl _) (fun k hk => (hr k hk).2) (by decide) a b ha hb
    have := hV.1 a b
    omega
  obtain ⟨J1, f1, f2, f3⟩ := m_is_1 (d := d + 3) (L := L) (sw := sw) c3 c2.1 h1 (some (.int (nI m))) (some (.int (oI o2))) none none
  obtain ⟨J2, g1, g2, g3⟩ := m_is_2 (d := d + 3) (L := L) (sw := sw) f2 (bq_le c2.1) h2 (some (.int (nI m))) (some (.int (oI o1))) none none
  have dd0 := bq_d h2 (bq_d h1 (PW_d c2))
  obtain ⟨J3, k1, k2, k3⟩ := m_closeWays (d := d + 2) (L := L) (sw := sw) (I := J2) dd0 (bq_le (bq_le c2.1)) g2
  refine ⟨J3, fun c hc => by rw [k1 c hc, g1 c hc, f1 c hc, c1 c hc], ?_⟩
  have e : exc (fw (bq o2 (bq o1 V)) 6) m = exc (fw (bq o2 (bq o1 V0)) 6) m := exc_cong (IsC_eq (fw_C (bq_d h2 (bq_d h1 (PW_d hV)))) (fw_C dd0) (bq_cong (bq_cong (fun a b ha hb => (hVV a b ha hb).symm))))
  have hl := m_is_loop (d := d + 4) (L := L) (sw := sw) k2 (fun a b => Nat.le_trans (fw_le 6 a b) (bq_le (bq_le c2.1) a b)) hm 36 0 rfl (some (.int (oI o1))) (some (.int (oI o2)))
  rw [e, e184]
  simp (discharger := (first | omega | decide | assumption | exact rg_lt | exact rg_ly | (simp only [ly63, p63_0, p63_1, p63_2, p63_7, p63_10, p63_11, p63_13, p63_14, p63_16, p63_18, p63_22, p63_23, p63_24, p63_30, p63_31, p63_32, p63_33]; omega))) only [s184_0, s184_1, s184_2, ltI, geL, leL, not_true_eq_false, not_false_eq_true, if_true, if_false, and_self, and_true, true_and, and_false, false_and, or_self, or_true, true_or, or_false, false_or, bo_T, bo_F, bo_e0, nI10, nI00, nI11, nI01, bo_e1, nem, eqL, af_v, af_0, rf_s, rf_n, nn, ite_self, ly63, p63_0, p63_1, p63_2, p63_7, p63_10, p63_11, p63_13, p63_14, p63_16, p63_18, p63_22, p63_23, p63_24, p63_30, p63_31, p63_32, p63_33, c4]
  rw [f3, g3]
  simp (discharger := (first | omega | decide | assumption | exact rg_lt | exact rg_ly | (simp only [ly63, p63_0, p63_1, p63_2, p63_7, p63_10, p63_11, p63_13, p63_14, p63_16, p63_18, p63_22, p63_23, p63_24, p63_30, p63_31, p63_32, p63_33]; omega))) only [s184_67, s184_68, s184_71, s184_72, s184_74, s184_75, ltI, geL, leL, not_true_eq_false, not_false_eq_true, if_true, if_false, and_self, and_true, true_and, and_false, false_and, or_self, or_true, true_or, or_false, false_or, bo_T, bo_F, bo_e0, nI10, nI00, nI11, nI01, bo_e1, nem, eqL, af_v, af_0, rf_s, rf_n, nn, ite_self, ly63, p63_0, p63_1, p63_2, p63_7, p63_10, p63_11, p63_13, p63_14, p63_16, p63_18, p63_22, p63_23, p63_24, p63_30, p63_31, p63_32, p63_33, k3, sm_cl]
  exact hl
theorem m_tellPairs (hw : w ≤ 4) (h1 : okp o1) (h2 : okp o2) : sm_ex (d + 1) 185 [.int x, .int (oI o1), .int (oI o2), .int (nI w)] 81 I L (pX sw) = some (some (.int (tl (x, o1, o2) w)), 81, I, L, pX sw) := by
  have z6 : ¬ nI 6 = 0 := by decide
  have z2 : ¬ nI 2 = 0 := by decide
  have key : ∀ o : Option Nat, okp o → ∀ c, o = some c → (nI c = -1) = False ∧ nI c / nI 6 = nI (c / 6) ∧ nI c - nI (c / 6) * nI 6 = nI (c % 6) := fun o ho c hc => by
    have := ho c hc
    have e2 : nI c / nI 6 = nI (c / 6) := divN (by omega) (by decide) (by decide)
    exact ⟨neN1 (by omega), e2, by rw [← e2]; exact remN (by omega) (by decide) (by decide)⟩
  rw [e185]
  rcases (show w = 0 ∨ w = 1 ∨ w = 2 ∨ w = 3 ∨ w = 4 by omega) with rfl | rfl | rfl | rfl | rfl
  · simp (decide := true) only [s185_0, s185_1, s185_2, s185_5, s185_6, s185_9, s185_10, s185_12, s185_13, s185_16, s185_17, s185_20, s185_22, s185_23, s185_26, s185_27, s185_30, s185_31, s185_32, s185_33, s185_34, s185_37, s185_39, s185_41, s185_42, s185_45, s185_47, s185_49, s185_50, ltI, geL, leL, not_true_eq_false, not_false_eq_true, if_true, if_false, and_self, and_true, true_and, and_false, false_and, or_self, or_true, true_or, or_false, false_or, bo_T, bo_F, bo_e0, nI10, nI00, nI11, nI01, bo_e1, nem, eqL, af_v, af_0, rf_s, rf_n, nn, ite_self, tl, sm_cl]
  all_goals
    cases o1 with
    | none =>
      cases o2 with
      | none => simp (decide := true) only [s185_0, s185_1, s185_2, s185_5, s185_6, s185_9, s185_10, s185_12, s185_13, s185_16, s185_17, s185_20, s185_22, s185_23, s185_26, s185_27, s185_30, s185_31, s185_32, s185_33, s185_34, s185_37, s185_39, s185_41, s185_42, s185_45, s185_47, s185_49, s185_50, ltI, geL, leL, not_true_eq_false, not_false_eq_true, if_true, if_false, and_self, and_true, true_and, and_false, false_and, or_self, or_true, true_or, or_false, false_or, bo_T, bo_F, bo_e0, nI10, nI00, nI11, nI01, bo_e1, nem, eqL, af_v, af_0, rf_s, rf_n, nn, ite_self, tl, oI, sm_cl]
      | some c =>
        obtain ⟨e1, e2, e3⟩ := key _ h2 c rfl
        simp (decide := true) only [s185_0, s185_1, s185_2, s185_5, s185_6, s185_9, s185_10, s185_12, s185_13, s185_16, s185_17, s185_20, s185_22, s185_23, s185_26, s185_27, s185_30, s185_31, s185_32, s185_33, s185_34, s185_37, s185_39, s185_41, s185_42, s185_45, s185_47, s185_49, s185_50, ltI, geL, leL, not_true_eq_false, not_false_eq_true, if_true, if_false, and_self, and_true, true_and, and_false, false_and, or_self, or_true, true_or, or_false, false_or, bo_T, bo_F, bo_e0, nI10, nI00, nI11, nI01, bo_e1, nem, eqL, af_v, af_0, rf_s, rf_n, nn, ite_self, tl, oI, sm_cl, e1, e2, e3, z6, z2]
    | some c =>
      obtain ⟨e1, e2, e3⟩ := key _ h1 c rfl
      cases o2 with
      | none => simp (decide := true) only [s185_0, s185_1, s185_2, s185_5, s185_6, s185_9, s185_10, s185_12, s185_13, s185_16, s185_17, s185_20, s185_22, s185_23, s185_26, s185_27, s185_30, s185_31, s185_32, s185_33, s185_34, s185_37, s185_39, s185_41, s185_42, s185_45, s185_47, s185_49, s185_50, ltI, geL, leL, not_true_eq_false, not_false_eq_true, if_true, if_false, and_self, and_true, true_and, and_false, false_and, or_self, or_true, true_or, or_false, false_or, bo_T, bo_F, bo_e0, nI10, nI00, nI11, nI01, bo_e1, nem, eqL, af_v, af_0, rf_s, rf_n, nn, ite_self, tl, oI, sm_cl, e1, e2, e3, z6, z2]
      | some c' =>
        obtain ⟨e1', e2', e3'⟩ := key _ h2 c' rfl
        simp (decide := true) only [s185_0, s185_1, s185_2, s185_5, s185_6, s185_9, s185_10, s185_12, s185_13, s185_16, s185_17, s185_20, s185_22, s185_23, s185_26, s185_27, s185_30, s185_31, s185_32, s185_33, s185_34, s185_37, s185_39, s185_41, s185_42, s185_45, s185_47, s185_49, s185_50, ltI, geL, leL, not_true_eq_false, not_false_eq_true, if_true, if_false, and_self, and_true, true_and, and_false, false_and, or_self, or_true, true_or, or_false, false_or, bo_T, bo_F, bo_e0, nI10, nI00, nI11, nI01, bo_e1, nem, eqL, af_v, af_0, rf_s, rf_n, nn, ite_self, tl, oI, sm_cl, e1, e2, e3, e1', e2', e3', z6, z2]
end KP3
