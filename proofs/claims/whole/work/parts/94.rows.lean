section RWS
variable {d N : Nat} {I J : sm_Im} {L : sm_Lm} {P : sm_Pm} {sw : Bool} {x y z u v : Int32} {a b m n q i j p k c s w o : Nat} {lk : Nat → Nat → Bool} {al : Nat → Nat}
theorem pw16 (h : k ≤ 16) : 2 ^ k ≤ 65536 := Nat.pow_le_pow_right (n := 2) (by decide) h
theorem sh1 (h : k ≤ 16) : nI 1 <<< (nI k &&& 31) = nI (2 ^ k) := by
  have := pw16 h
  rw [shlN (by omega) (by omega), Nat.one_mul]
theorem c_rl_loop (ha : a < 16) (hn : n ≤ 16) (hq : q ≤ 4) : ∀ (g i : Nat), i + g = n → ∀ (l5 l6 : Option Value), sm_at (sm_ex (d + 1)) none 71 5 [some (.int (nI a)), some (.int (nI n)), some (.int (nI q)), some (.int (nI (rl (lkb q a) i))), some (.int (nI i)), l5, l6] [] N I L P = some (some (.int (nI (rl (lkb q a) n))), N, I, L, P) := by
  intro g
  induction g with
  | zero =>
    intro i hi l5 l6
    obtain rfl : i = n := by omega
    rw [s71_5]
    simp (discharger := first | omega | decide) only [s71_0, s71_1, s71_2, s71_3, s71_7, s71_8, s71_11, s71_12, s71_14, s71_15, s71_16, s71_17, s71_20, s71_22, s71_24, s71_25, s71_26, s71_27, s71_28, s71_31, s71_33, s71_35, s71_36, s71_39, s71_41, s71_42, s71_45, s71_46, s71_47, s71_49, s71_50, s71_51, s71_52, s71_55, s71_58, s71_59, ltI, geL, leL, not_true_eq_false, not_false_eq_true, if_true, if_false, and_self, and_true, true_and, and_false, false_and, or_self, or_true, true_or, or_false, false_or, bo_T, bo_F, bo_e0, nI10, nI00, nI11, nI01, bo_e1, nem, eqL, af_v, af_0, rf_s, rf_n, nn, ite_self, leN, Nat.le_refl]
  | succ g ih =>
    intro i hi l5 l6
    have c1 : ¬ n ≤ i := by omega
    have e1 : nI a &&& (nI i ^^^ -1) = nI (adn a i) := adnI (by omega) (by omega)
    have e2 : nI i &&& (nI a ^^^ -1) = nI (adn i a) := adnI (by omega) (by omega)
    have b1 : adn a i ≤ a := adn_le
    have b2 : adn i a ≤ i := adn_le
    have p1 := pop_le (adn a i) 16
    have p2 := pop_le (adn i a) 16
    have j1 : sm_ex (d + 1) 213 [.int (nI (adn a i))] N I L P = some (some (.int (nI (pop (adn a i) 16))), N, I, L, P) := j_bitCount (by omega)
    have j2 : sm_ex (d + 1) 213 [.int (nI (adn i a))] N I L P = some (some (.int (nI (pop (adn i a) 16))), N, I, L, P) := j_bitCount (by omega)
    have h1 := rl_lt (lkb q a) i
    have h2 := pw16 (show i ≤ 16 by omega)
    have e3 := sh1 (show i ≤ 16 by omega)
    have e4 : nI (rl (lkb q a) i) ||| nI (2 ^ i) = nI (rl (lkb q a) i ||| 2 ^ i) := orI (by omega) (by omega)
    rw [s71_5]
    by_cases q1 : pop (adn a i) 16 ≤ q
    · by_cases q2 : pop (adn i a) 16 ≤ q
      · have e5 := rl_or (lkb q a) i (decide_eq_true ⟨q1, q2⟩)
        simp (discharger := first | omega | decide) only [s71_0, s71_1, s71_2, s71_3, s71_7, s71_8, s71_11, s71_12, s71_14, s71_15, s71_16, s71_17, s71_20, s71_22, s71_24, s71_25, s71_26, s71_27, s71_28, s71_31, s71_33, s71_35, s71_36, s71_39, s71_41, s71_42, s71_45, s71_46, s71_47, s71_49, s71_50, s71_51, s71_52, s71_55, s71_58, s71_59, ltI, geL, leL, not_true_eq_false, not_false_eq_true, if_true, if_false, and_self, and_true, true_and, and_false, false_and, or_self, or_true, true_or, or_false, false_or, bo_T, bo_F, bo_e0, nI10, nI00, nI11, nI01, bo_e1, nem, eqL, af_v, af_0, rf_s, rf_n, nn, ite_self, leN, c1, e1, e2, j1, j2, q1, q2, e3, e4, e5, addN, sm_cl]
        exact ih (i + 1) (by omega) _ _
      · have e5 : rl (lkb q a) (i + 1) = rl (lkb q a) i := by rw [rl_s, if_neg (by unfold lkb; rw [decide_eq_true_eq]; exact fun z => q2 z.2), Nat.add_zero]
        simp (discharger := first | omega | decide) only [s71_0, s71_1, s71_2, s71_3, s71_7, s71_8, s71_11, s71_12, s71_14, s71_15, s71_16, s71_17, s71_20, s71_22, s71_24, s71_25, s71_26, s71_27, s71_28, s71_31, s71_33, s71_35, s71_36, s71_39, s71_41, s71_42, s71_45, s71_46, s71_47, s71_49, s71_50, s71_51, s71_52, s71_55, s71_58, s71_59, ltI, geL, leL, not_true_eq_false, not_false_eq_true, if_true, if_false, and_self, and_true, true_and, and_false, false_and, or_self, or_true, true_or, or_false, false_or, bo_T, bo_F, bo_e0, nI10, nI00, nI11, nI01, bo_e1, nem, eqL, af_v, af_0, rf_s, rf_n, nn, ite_self, leN, c1, e1, e2, j1, j2, q1, q2, addN, sm_cl]
        rw [← e5]
        exact ih (i + 1) (by omega) _ _
    · have e5 : rl (lkb q a) (i + 1) = rl (lkb q a) i := by rw [rl_s, if_neg (by unfold lkb; rw [decide_eq_true_eq]; exact fun z => q1 z.1), Nat.add_zero]
      simp (discharger := first | omega | decide) only [s71_0, s71_1, s71_2, s71_3, s71_7, s71_8, s71_11, s71_12, s71_14, s71_15, s71_16, s71_17, s71_20, s71_22, s71_24, s71_25, s71_26, s71_27, s71_28, s71_31, s71_33, s71_35, s71_36, s71_39, s71_41, s71_42, s71_45, s71_46, s71_47, s71_49, s71_50, s71_51, s71_52, s71_55, s71_58, s71_59, ltI, geL, leL, not_true_eq_false, not_false_eq_true, if_true, if_false, and_self, and_true, true_and, and_false, false_and, or_self, or_true, true_or, or_false, false_or, bo_T, bo_F, bo_e0, nI10, nI00, nI11, nI01, bo_e1, nem, eqL, af_v, af_0, rf_s, rf_n, nn, ite_self, leN, c1, e1, e2, j1, j2, q1, addN, sm_cl]
      rw [← e5]
      exact ih (i + 1) (by omega) _ _
theorem c_rowsLike (ha : a < 16) (hn : n ≤ 16) (hq : q ≤ 4) : sm_ex (d + 2) 71 [.int (nI a), .int (nI n), .int (nI q)] N I L P = some (some (.int (nI (rl (lkb q a) n))), N, I, L, P) := by
  rw [e71]
  simp only [s71_0, s71_1, s71_2, s71_3, s71_7, s71_8, s71_11, s71_12, s71_14, s71_15, s71_16, s71_17, s71_20, s71_22, s71_24, s71_25, s71_26, s71_27, s71_28, s71_31, s71_33, s71_35, s71_36, s71_39, s71_41, s71_42, s71_45, s71_46, s71_47, s71_49, s71_50, s71_51, s71_52, s71_55, s71_58, s71_59, ltI, geL, leL, not_true_eq_false, not_false_eq_true, if_true, if_false, and_self, and_true, true_and, and_false, false_and, or_self, or_true, true_or, or_false, false_or, bo_T, bo_F, bo_e0, nI10, nI00, nI11, nI01, bo_e1, nem, eqL, af_v, af_0, rf_s, rf_n, nn, ite_self, sm_cl]
  exact c_rl_loop ha hn hq n 0 (Nat.zero_add n) _ _
/-- the row below -/
def rwI (k : Nat) : Int32 := match k with
  | 0 => -1
  | k + 1 => nI k
theorem rwI_s (k : Nat) : nI k - nI 1 = rwI k := by
  cases k with
  | zero => decide
  | succ k => rw [subN (by omega)]; rfl
theorem c_choose (hn : n ≤ 16) (hal : ∀ x, x < n → I 22 x = nI (al x) ∧ al x < 65536 ∧ (al x).testBit x = true ∧ ∀ y, y < n → (al x).testBit y = lk x y) (hs : ∀ x y, lk x y = lk y x) : ∀ (k : Nat), k ≤ n → ∀ (d f st mn : Nat) (b : Nat × Nat) (J : sm_Im), f < 2 ^ k → st + 2 ^ k ≤ 65536 → st % 2 ^ k = 0 → mn + k ≤ 16 → b.1 ≤ 16 → (∀ c, c ≠ 21 → J c = I c) → J 21 1 = nI b.1 → J 21 2 = nI b.2 → ∃ J1 : sm_Im, (∀ c, c ≠ 21 → J1 c = I c) ∧ J1 21 1 = nI (ch lk k f st mn b).1 ∧ J1 21 2 = nI (ch lk k f st mn b).2 ∧ sm_ex (d + k + 2) 72 [.ref 21, .int (rwI k), .int (nI f), .int (nI st), .int (nI mn)] 81 J L (pX sw) = some (none, 81, J1, L, pX sw) := by
  intro k
  induction k with
  | zero =>
    intro hk d f st mn b J hf hst hst2 hmn hb hJ h1 h2
    obtain rfl : f = 0 := by omega
    have jb : sm_ex (d + 0 + 1) 213 [.int (nI 0)] 81 J L (pX sw) = some (some (.int (nI 0)), 81, J, L, pX sw) := j_bitCount (s := 0) (by decide)
    rw [ch_0, show rwI 0 = -1 from rfl]
    by_cases c : mn ≤ b.1
    · rw [if_neg (by omega)]
      refine ⟨J, hJ, h1, h2, ?_⟩
      rw [e72]
      simp (discharger := (first | omega | decide | assumption | exact rg_lt | exact rg_ly | (simp only [ly21, p21_0, ly22, al22]; omega))) only [s72_0, s72_2, s72_3, s72_6, s72_7, s72_8, s72_11, s72_14, s72_15, s72_16, s72_19, s72_20, s72_21, s72_25, s72_28, s72_29, s72_31, s72_34, s72_35, s72_36, s72_39, s72_40, s72_41, s72_42, s72_43, s72_44, s72_45, s72_46, s72_47, s72_48, s72_49, s72_50, s72_51, s72_52, s72_54, s72_57, s72_58, s72_59, s72_62, s72_65, s72_66, s72_67, s72_68, s72_69, s72_70, s72_71, s72_74, s72_75, s72_76, s72_77, s72_78, s72_79, s72_80, s72_81, s72_82, s72_83, s72_84, s72_86, s72_87, s72_88, s72_91, s72_24a, ltI, geL, leL, not_true_eq_false, not_false_eq_true, if_true, if_false, and_self, and_true, true_and, and_false, false_and, or_self, or_true, true_or, or_false, false_or, bo_T, bo_F, bo_e0, nI10, nI00, nI11, nI01, bo_e1, nem, eqL, af_v, af_0, rf_s, rf_n, nn, ite_self, ly21, p21_0, ly22, al22, jb, addN, Nat.add_zero, h1, leN, c]
    · rw [if_pos (by omega)]
      refine ⟨sm_up (sm_up J 21 1 (nI mn)) 21 2 (nI st), fun c hc => by rw [up_row hc, up_row hc]; exact hJ c hc, by rw [up_cell (by decide)]; exact up_same, up_same, ?_⟩
      rw [e72]
      simp (discharger := (first | omega | decide | assumption | exact rg_lt | exact rg_ly | (simp only [ly21, p21_0, ly22, al22]; omega))) only [s72_0, s72_2, s72_3, s72_6, s72_7, s72_8, s72_11, s72_14, s72_15, s72_16, s72_19, s72_20, s72_21, s72_25, s72_28, s72_29, s72_31, s72_34, s72_35, s72_36, s72_39, s72_40, s72_41, s72_42, s72_43, s72_44, s72_45, s72_46, s72_47, s72_48, s72_49, s72_50, s72_51, s72_52, s72_54, s72_57, s72_58, s72_59, s72_62, s72_65, s72_66, s72_67, s72_68, s72_69, s72_70, s72_71, s72_74, s72_75, s72_76, s72_77, s72_78, s72_79, s72_80, s72_81, s72_82, s72_83, s72_84, s72_86, s72_87, s72_88, s72_91, s72_24a, ltI, geL, leL, not_true_eq_false, not_false_eq_true, if_true, if_false, and_self, and_true, true_and, and_false, false_and, or_self, or_true, true_or, or_false, false_or, bo_T, bo_F, bo_e0, nI10, nI00, nI11, nI01, bo_e1, nem, eqL, af_v, af_0, rf_s, rf_n, nn, ite_self, ly21, p21_0, ly22, al22, jb, addN, Nat.add_zero, h1, leN, c, neg1]
  | succ k ih =>
    intro hk d f st mn b J hf hst hst2 hmn hb hJ h1 h2
    have hp : 2 ^ (k + 1) = 2 ^ k + 2 ^ k := by rw [Nat.pow_succ]; omega
    have hp16 := pw16 (show k + 1 ≤ 16 by omega)
    have hpos : 0 < 2 ^ k := Nat.two_pow_pos k
    have hf16 : f < 65536 := by omega
    have hpf := pop_le f 16
    have jb : sm_ex (d + k + 1 + 1) 213 [.int (nI f)] 81 J L (pX sw) = some (some (.int (nI (pop f 16))), 81, J, L, pX sw) := j_bitCount hf16
    have c16 : ¬ 16 ≤ k := by omega
    rw [show d + (k + 1) + 2 = (d + k + 1 + 1) + 1 by omega, show rwI (k + 1) = nI k from rfl]
    by_cases c : mn + pop f 16 ≤ b.1
    · rw [ch_p c]
      refine ⟨J, hJ, h1, h2, ?_⟩
      rw [e72]
      simp (discharger := (first | omega | decide | assumption | exact rg_lt | exact rg_ly | (simp only [ly21, p21_0, ly22, al22]; omega))) only [s72_0, s72_2, s72_3, s72_6, s72_7, s72_8, s72_11, s72_14, s72_15, s72_16, s72_19, s72_20, s72_21, s72_25, s72_28, s72_29, s72_31, s72_34, s72_35, s72_36, s72_39, s72_40, s72_41, s72_42, s72_43, s72_44, s72_45, s72_46, s72_47, s72_48, s72_49, s72_50, s72_51, s72_52, s72_54, s72_57, s72_58, s72_59, s72_62, s72_65, s72_66, s72_67, s72_68, s72_69, s72_70, s72_71, s72_74, s72_75, s72_76, s72_77, s72_78, s72_79, s72_80, s72_81, s72_82, s72_83, s72_84, s72_86, s72_87, s72_88, s72_91, s72_24a, ltI, geL, leL, not_true_eq_false, not_false_eq_true, if_true, if_false, and_self, and_true, true_and, and_false, false_and, or_self, or_true, true_or, or_false, false_or, bo_T, bo_F, bo_e0, nI10, nI00, nI11, nI01, bo_e1, nem, eqL, af_v, af_0, rf_s, rf_n, nn, ite_self, ly21, p21_0, ly22, al22, jb, addN, h1, leN, c]
    · obtain ⟨a1, a2, a3, a4⟩ := hal k (by omega)
      obtain ⟨m1, m2⟩ := md_pw hst2
      rw [ch_s (show k < n by omega) hn hf16 a2 a4 hs]
      have e1 := sh1 (show k ≤ 16 by omega)
      have e2 : nI f &&& (nI (2 ^ k) ^^^ -1) = nI (adn f (2 ^ k)) := adnI (by omega) (by omega)
      have e3 : nI f &&& (nI (al k) ^^^ -1) = nI (adn f (al k)) := adnI (by omega) (by omega)
      have e4 : nI st ||| nI (2 ^ k) = nI (st + 2 ^ k) := by rw [orI (by omega) (by omega), or_pw hst2]
      have e5 : ((nI f >>> (nI k &&& 31)) &&& nI 1 = 0) = ¬ f.testBit k = true := bitT (by omega) (by omega)
      obtain ⟨J1, g1, g2, g3, g4⟩ := ih (by omega) d (adn f (2 ^ k)) st mn b J (adn_lt hf (by omega) (by omega) Nat.testBit_two_pow_self) (by omega) m1 (by omega) hb hJ h1 h2
      have hk22 : J1 22 k = nI (al k) := by rw [g1 22 (by decide)]; exact a1
      have hin : sm_ex (d + k + 1 + 1) 140 [.int (nI f), .int (nI k)] 81 J1 L (pX sw) = some (some (.int (bo (¬ (nI f >>> (nI k &&& 31)) &&& nI 1 = 0))), 81, J1, L, pX sw) := h_isIn
      by_cases cb : f.testBit k = true
      · rw [if_pos cb]
        obtain ⟨J2, k1, k2, k3, k4⟩ := ih (by omega) d (adn f (al k)) (st + 2 ^ k) (mn + 1) (ch lk k (adn f (2 ^ k)) st mn b) J1 (adn_lt hf (by omega) a2 a3) (by omega) m2 (by omega) (ch_le (by omega) (by omega) hb) g1 g2 g3
        refine ⟨J2, k1, k2, k3, ?_⟩
        rw [e72]
        simp (discharger := (first | omega | decide | assumption | exact rg_lt | exact rg_ly | (simp only [ly21, p21_0, ly22, al22]; omega))) only [s72_0, s72_2, s72_3, s72_6, s72_7, s72_8, s72_11, s72_14, s72_15, s72_16, s72_19, s72_20, s72_21, s72_25, s72_28, s72_29, s72_31, s72_34, s72_35, s72_36, s72_39, s72_40, s72_41, s72_42, s72_43, s72_44, s72_45, s72_46, s72_47, s72_48, s72_49, s72_50, s72_51, s72_52, s72_54, s72_57, s72_58, s72_59, s72_62, s72_65, s72_66, s72_67, s72_68, s72_69, s72_70, s72_71, s72_74, s72_75, s72_76, s72_77, s72_78, s72_79, s72_80, s72_81, s72_82, s72_83, s72_84, s72_86, s72_87, s72_88, s72_91, s72_24a, ltI, geL, leL, not_true_eq_false, not_false_eq_true, if_true, if_false, and_self, and_true, true_and, and_false, false_and, or_self, or_true, true_or, or_false, false_or, bo_T, bo_F, bo_e0, nI10, nI00, nI11, nI01, bo_e1, nem, eqL, af_v, af_0, rf_s, rf_n, nn, ite_self, ly21, p21_0, ly22, al22, jb, addN, h1, leN, c, c16, le0, rwI_s, e1, e2, g4, hin, e5, cb, hk22, e3, e4, k4]
      · rw [if_neg cb]
        refine ⟨J1, g1, g2, g3, ?_⟩
        rw [e72]
        simp (discharger := (first | omega | decide | assumption | exact rg_lt | exact rg_ly | (simp only [ly21, p21_0, ly22, al22]; omega))) only [s72_0, s72_2, s72_3, s72_6, s72_7, s72_8, s72_11, s72_14, s72_15, s72_16, s72_19, s72_20, s72_21, s72_25, s72_28, s72_29, s72_31, s72_34, s72_35, s72_36, s72_39, s72_40, s72_41, s72_42, s72_43, s72_44, s72_45, s72_46, s72_47, s72_48, s72_49, s72_50, s72_51, s72_52, s72_54, s72_57, s72_58, s72_59, s72_62, s72_65, s72_66, s72_67, s72_68, s72_69, s72_70, s72_71, s72_74, s72_75, s72_76, s72_77, s72_78, s72_79, s72_80, s72_81, s72_82, s72_83, s72_84, s72_86, s72_87, s72_88, s72_91, s72_24a, ltI, geL, leL, not_true_eq_false, not_false_eq_true, if_true, if_false, and_self, and_true, true_and, and_false, false_and, or_self, or_true, true_or, or_false, false_or, bo_T, bo_F, bo_e0, nI10, nI00, nI11, nI01, bo_e1, nem, eqL, af_v, af_0, rf_s, rf_n, nn, ite_self, ly21, p21_0, ly22, al22, jb, addN, h1, leN, c, c16, le0, rwI_s, e1, e2, g4, hin, e5, cb, Bool.false_eq_true]
theorem c_search_loop (hn : n ≤ 16) (hq : q ≤ 4) : ∀ (g i : Nat), i + g = n → ∀ (J : sm_Im) (l1 : Option Value), (∀ c, c ≠ 21 → c ≠ 22 → J c = I c) → (∀ x, x < i → J 22 x = nI (rl (lkb q x) n)) → ∃ J1 : sm_Im, (∀ c, c ≠ 21 → c ≠ 22 → J1 c = I c) ∧ (∀ x, x < n → J1 22 x = nI (rl (lkb q x) n)) ∧ sm_at (sm_ex (d + 2)) none 70 15 [some (.ref 21), l1, some (.int (nI q)), some (.int (nI n)), some (.int (nI i))] [] 81 J L (pX sw) = sm_at (sm_ex (d + 2)) none 70 41 [some (.ref 21), l1, some (.int (nI q)), some (.int (nI n)), some (.int (nI n))] [] 81 J1 L (pX sw) := by
  intro g
  induction g with
  | zero =>
    intro i hi J l1 hJ h
    obtain rfl : i = n := by omega
    refine ⟨J, hJ, h, ?_⟩
    rw [s70_15]
    simp (discharger := first | omega | decide) only [s70_17, s70_18, ltI, geL, leL, not_true_eq_false, not_false_eq_true, if_true, if_false, and_self, and_true, true_and, and_false, false_and, or_self, or_true, true_or, or_false, false_or, bo_T, bo_F, bo_e0, nI10, nI00, nI11, nI01, bo_e1, nem, eqL, af_v, af_0, rf_s, rf_n, nn, ite_self, leN, Nat.le_refl]
  | succ g ih =>
    intro i hi J l1 hJ h
    have c1 : ¬ n ≤ i := by omega
    have hr : sm_ex (d + 2) 71 [.int (nI i), .int (nI n), .int (nI q)] 81 J L (pX sw) = some (some (.int (nI (rl (lkb q i) n))), 81, J, L, pX sw) := c_rowsLike (by omega) hn hq
    obtain ⟨J1, g1, g2, g3⟩ := ih (i + 1) (by omega) (sm_up J 22 i (nI (rl (lkb q i) n))) l1 (fun c h1 h2 => by rw [up_row h2]; exact hJ c h1 h2) (fun x hx => by
      rw [up_at]
      by_cases e : x = i
      · rw [if_pos e, e]
      · rw [if_neg e]; exact h x (by omega))
    refine ⟨J1, g1, g2, ?_⟩
    rw [← g3, s70_15]
    simp (discharger := (first | omega | decide | assumption | exact rg_lt | exact rg_ly | (simp only [ly21, p21_0, ly22, al22]; omega))) only [s70_0, s70_1, s70_2, s70_3, s70_4, s70_8, s70_11, s70_12, s70_13, s70_17, s70_18, s70_21, s70_22, s70_25, s70_27, s70_29, s70_30, s70_31, s70_34, s70_35, s70_38, s70_41, s70_42, s70_43, s70_46, s70_47, s70_48, s70_51, s70_52, s70_53, s70_54, s70_55, s70_56, s70_57, s70_58, s70_59, s70_60, s70_61, s70_62, s70_65, s70_7a, ltI, geL, leL, not_true_eq_false, not_false_eq_true, if_true, if_false, and_self, and_true, true_and, and_false, false_and, or_self, or_true, true_or, or_false, false_or, bo_T, bo_F, bo_e0, nI10, nI00, nI11, nI01, bo_e1, nem, eqL, af_v, af_0, rf_s, rf_n, nn, ite_self, ly21, p21_0, ly22, al22, leN, c1, hr, addN, sm_cl]
theorem c_search (hm : nI 1 <<< (nI m &&& 31) = nI n) (hn : n ≤ 16) (hq : q ≤ 4) : ∃ J1 : sm_Im, (∀ c, c ≠ 21 → c ≠ 22 → J1 c = I c) ∧ J1 21 1 = nI (mres q n).1 ∧ J1 21 2 = nI (mres q n).2 ∧ sm_ex (d + 19) 70 [.ref 21, .int (nI m), .int (nI q)] 81 I L (pX sw) = some (none, 81, J1, L, pX sw) := by
  obtain ⟨J0, g1, g2, g3⟩ := c_search_loop (d := d + 16) (L := L) (sw := sw) (q := q) hn hq n 0 (Nat.zero_add n) I (some (.int (nI m))) (fun c _ _ => rfl) (fun x hx => by omega)
  have hp16 := pw16 hn
  have hpos : 0 < 2 ^ n := Nat.two_pow_pos n
  have hJJ : ∀ c, c ≠ 21 → sm_up (sm_up J0 21 1 (nI 0)) 21 2 (nI 0) c = J0 c := fun c hc => by rw [up_row hc, up_row hc]
  obtain ⟨J1, k1, k2, k3, k4⟩ := c_choose (L := L) (sw := sw) (I := sm_up (sm_up J0 21 1 (nI 0)) 21 2 (nI 0)) (lk := lkb q) (al := fun x => rl (lkb q x) n) hn (fun x hx => by
    have := rl_lt (lkb q x) n
    refine ⟨by rw [hJJ 22 (by decide)]; exact g2 x hx, by show rl (lkb q x) n < 65536; omega, ?_, fun y hy => ?_⟩
    · show (rl (lkb q x) n).testBit x = true
      rw [rl_tb, decide_eq_true hx, lkb_r q x (by omega)]; rfl
    · show (rl (lkb q x) n).testBit y = _
      rw [rl_tb, decide_eq_true hy, Bool.true_and]) (lkb_s q) n (Nat.le_refl _) (d + 16 - n) (2 ^ n - 1) 0 0 (0, 0) (sm_up (sm_up J0 21 1 (nI 0)) 21 2 (nI 0)) (by omega) (by omega) (Nat.zero_mod _) (by omega) (Nat.zero_le _) (fun c _ => rfl) (by rw [up_cell (by decide)]; exact up_same) up_same
  rw [ch_top q hn] at k2 k3
  refine ⟨J1, fun c h1 h2 => by rw [k1 c h1, hJJ c h1]; exact g1 c h1 h2, k2, k3, ?_⟩
  rw [show d + 16 - n + n + 2 = d + 18 by omega] at k4
  have e1 := sh1 hn
  have e2 : nI (2 ^ n) - nI 1 = nI (2 ^ n - 1) := subN (by omega)
  have e3 : (if nI n ≤ nI 16 then nI n else nI 16) = nI n := by rw [if_pos]; rw [leN (by omega) (by decide)]; exact hn
  have jm : sm_ex (d + 18) 214 [.int (nI n), .int (nI 16)] 81 I L (pX sw) = some (some (.int (nI n)), 81, I, L, pX sw) := by rw [j_min (d := d + 17), e3]
  rw [e70]
  simp (discharger := (first | omega | decide | assumption | exact rg_lt | exact rg_ly | (simp only [ly21, p21_0, ly22, al22]; omega))) only [s70_0, s70_1, s70_2, s70_3, s70_4, s70_8, s70_11, s70_12, s70_13, s70_17, s70_18, s70_21, s70_22, s70_25, s70_27, s70_29, s70_30, s70_31, s70_34, s70_35, s70_38, s70_42, s70_43, s70_46, s70_47, s70_48, s70_51, s70_52, s70_53, s70_54, s70_55, s70_56, s70_57, s70_58, s70_59, s70_60, s70_61, s70_62, s70_65, s70_7a, ltI, geL, leL, not_true_eq_false, not_false_eq_true, if_true, if_false, and_self, and_true, true_and, and_false, false_and, or_self, or_true, true_or, or_false, false_or, bo_T, bo_F, bo_e0, nI10, nI00, nI11, nI01, bo_e1, nem, eqL, af_v, af_0, rf_s, rf_n, nn, ite_self, ly21, p21_0, ly22, al22, hm, jm, sm_cl]
  rw [g3]
  simp (discharger := (first | omega | decide | assumption | exact rg_lt | exact rg_ly | (simp only [ly21, p21_0, ly22, al22]; omega))) only [s70_0, s70_1, s70_2, s70_3, s70_4, s70_8, s70_11, s70_12, s70_13, s70_17, s70_18, s70_21, s70_22, s70_25, s70_27, s70_29, s70_30, s70_31, s70_34, s70_35, s70_38, s70_41, s70_42, s70_43, s70_46, s70_47, s70_48, s70_51, s70_52, s70_53, s70_54, s70_55, s70_56, s70_57, s70_58, s70_59, s70_60, s70_61, s70_62, s70_65, s70_7a, ltI, geL, leL, not_true_eq_false, not_false_eq_true, if_true, if_false, and_self, and_true, true_and, and_false, false_and, or_self, or_true, true_or, or_false, false_or, bo_T, bo_F, bo_e0, nI10, nI00, nI11, nI01, bo_e1, nem, eqL, af_v, af_0, rf_s, rf_n, nn, ite_self, ly21, p21_0, ly22, al22, rwI_s, e1, e2, k4]
theorem p4 (h1 : 1 ≤ m) (h2 : m ≤ 4) : 2 ^ m ≤ 16 := Nat.pow_le_pow_right (n := 2) (by decide) h2
theorem c_missed_1 (h : ¬ ((nI 1 ≤ x ∧ x ≤ nI 4) ∧ (nI 0 ≤ y ∧ y ≤ nI 4) ∧ nI 0 ≤ z ∧ z ≤ nI 1)) : sm_ex (d + 20) 113 [.ref 0, .int x, .int y, .int z] 81 I L (pX sw) = some (some (.int (-102)), 81, I, L, pX sw) := by
  rw [e113]
  by_cases h1 : (nI 1 ≤ x ∧ x ≤ nI 4)
  · by_cases h2 : (nI 0 ≤ y ∧ y ≤ nI 4)
    · have h3 : ¬ (nI 0 ≤ z ∧ z ≤ nI 1) := fun q => h ⟨h1, h2, q⟩
      simp only [s113_0, s113_1, s113_2, s113_3, s113_6, s113_9, s113_10, s113_11, s113_12, s113_15, s113_18, s113_19, s113_20, s113_21, s113_24, s113_27, s113_29, s113_30, s113_31, s113_34, s113_35, s113_36, s113_39, s113_40, s113_43, s113_44, s113_47, s113_50, s113_53, s113_54, s113_57, s113_60, ltI, geL, leL, not_true_eq_false, not_false_eq_true, if_true, if_false, and_self, and_true, true_and, and_false, false_and, or_self, or_true, true_or, or_false, false_or, bo_T, bo_F, bo_e0, nI10, nI00, nI11, nI01, bo_e1, nem, eqL, af_v, af_0, rf_s, rf_n, nn, ite_self, h_isWithin, h1, h2, h3]
    · simp only [s113_0, s113_1, s113_2, s113_3, s113_6, s113_9, s113_10, s113_11, s113_12, s113_15, s113_18, s113_19, s113_20, s113_21, s113_24, s113_27, s113_29, s113_30, s113_31, s113_34, s113_35, s113_36, s113_39, s113_40, s113_43, s113_44, s113_47, s113_50, s113_53, s113_54, s113_57, s113_60, ltI, geL, leL, not_true_eq_false, not_false_eq_true, if_true, if_false, and_self, and_true, true_and, and_false, false_and, or_self, or_true, true_or, or_false, false_or, bo_T, bo_F, bo_e0, nI10, nI00, nI11, nI01, bo_e1, nem, eqL, af_v, af_0, rf_s, rf_n, nn, ite_self, h_isWithin, h1, h2]
  · simp only [s113_0, s113_1, s113_2, s113_3, s113_6, s113_9, s113_10, s113_11, s113_12, s113_15, s113_18, s113_19, s113_20, s113_21, s113_24, s113_27, s113_29, s113_30, s113_31, s113_34, s113_35, s113_36, s113_39, s113_40, s113_43, s113_44, s113_47, s113_50, s113_53, s113_54, s113_57, s113_60, ltI, geL, leL, not_true_eq_false, not_false_eq_true, if_true, if_false, and_self, and_true, true_and, and_false, false_and, or_self, or_true, true_or, or_false, false_or, bo_T, bo_F, bo_e0, nI10, nI00, nI11, nI01, bo_e1, nem, eqL, af_v, af_0, rf_s, rf_n, nn, ite_self, h_isWithin, h1]
theorem c_missed_2 (h1 : 1 ≤ m) (h2 : m ≤ 4) (hq : q ≤ 4) (hp : p ≤ 1) : ∃ J1 : sm_Im, (∀ c, c ≠ 21 → c ≠ 22 → J1 c = I c) ∧ sm_ex (d + 20) 113 [.ref 0, .int (nI m), .int (nI q), .int (nI p)] 81 I L (pX sw) = some (some (.int (nI (if p = 0 then (mres q (2 ^ m)).1 else (mres q (2 ^ m)).2))), 81, J1, L, pX sw) := by
  obtain ⟨J1, g1, g2, g3, g4⟩ := c_search (I := I) (d := d) (L := L) (sw := sw) (sh1 (show m ≤ 16 by omega)) (p4 h1 h2) hq
  have m1 : sm_ex (d + 19) 68 [.ref 21] 81 J1 L (pX sw) = some (some (.int (J1 21 1)), 81, J1, L, pX sw) := by
    rw [e68]
    simp (discharger := (first | omega | decide | assumption | exact rg_lt | exact rg_ly | (simp only [ly21, p21_0]; omega))) only [s68_0, s68_1, s68_4, ltI, geL, leL, not_true_eq_false, not_false_eq_true, if_true, if_false, and_self, and_true, true_and, and_false, false_and, or_self, or_true, true_or, or_false, false_or, bo_T, bo_F, bo_e0, nI10, nI00, nI11, nI01, bo_e1, nem, eqL, af_v, af_0, rf_s, rf_n, nn, ite_self, ly21, p21_0]
  have m2 : sm_ex (d + 19) 69 [.ref 21] 81 J1 L (pX sw) = some (some (.int (J1 21 2)), 81, J1, L, pX sw) := by
    rw [e69]
    simp (discharger := (first | omega | decide | assumption | exact rg_lt | exact rg_ly | (simp only [ly21, p21_0]; omega))) only [s69_0, s69_1, s69_4, ltI, geL, leL, not_true_eq_false, not_false_eq_true, if_true, if_false, and_self, and_true, true_and, and_false, false_and, or_self, or_true, true_or, or_false, false_or, bo_T, bo_F, bo_e0, nI10, nI00, nI11, nI01, bo_e1, nem, eqL, af_v, af_0, rf_s, rf_n, nn, ite_self, ly21, p21_0]
  refine ⟨J1, g1, ?_⟩
  rw [e113]
  rcases (show p = 0 ∨ p = 1 by omega) with rfl | rfl
  · rw [if_pos rfl, ← g2]
    simp (discharger := (first | omega | decide | assumption | exact rg_lt | exact rg_ly | (simp only [ly0, p0_0, p0_1, p0_2, p0_3, p0_4, p0_5, p0_6, p0_7, p0_8, p0_9, ly21, p21_0]; omega))) only [s113_0, s113_1, s113_2, s113_3, s113_6, s113_9, s113_10, s113_11, s113_12, s113_15, s113_18, s113_19, s113_20, s113_21, s113_24, s113_27, s113_29, s113_30, s113_31, s113_34, s113_35, s113_36, s113_39, s113_40, s113_43, s113_44, s113_47, s113_50, s113_53, s113_54, s113_57, s113_60, ltI, geL, leL, not_true_eq_false, not_false_eq_true, if_true, if_false, and_self, and_true, true_and, and_false, false_and, or_self, or_true, true_or, or_false, false_or, bo_T, bo_F, bo_e0, nI10, nI00, nI11, nI01, bo_e1, nem, eqL, af_v, af_0, rf_s, rf_n, nn, ite_self, ly0, p0_0, p0_1, p0_2, p0_3, p0_4, p0_5, p0_6, p0_7, p0_8, p0_9, ly21, p21_0, h_isWithin, ixt, ixt2, g4, m1]
  · rw [if_neg (by decide), ← g3]
    simp (discharger := (first | omega | decide | assumption | exact rg_lt | exact rg_ly | (simp only [ly0, p0_0, p0_1, p0_2, p0_3, p0_4, p0_5, p0_6, p0_7, p0_8, p0_9, ly21, p21_0]; omega))) only [s113_0, s113_1, s113_2, s113_3, s113_6, s113_9, s113_10, s113_11, s113_12, s113_15, s113_18, s113_19, s113_20, s113_21, s113_24, s113_27, s113_29, s113_30, s113_31, s113_34, s113_35, s113_36, s113_39, s113_40, s113_43, s113_44, s113_47, s113_50, s113_53, s113_54, s113_57, s113_60, ltI, geL, leL, not_true_eq_false, not_false_eq_true, if_true, if_false, and_self, and_true, true_and, and_false, false_and, or_self, or_true, true_or, or_false, false_or, bo_T, bo_F, bo_e0, nI10, nI00, nI11, nI01, bo_e1, nem, eqL, af_v, af_0, rf_s, rf_n, nn, ite_self, ly0, p0_0, p0_1, p0_2, p0_3, p0_4, p0_5, p0_6, p0_7, p0_8, p0_9, ly21, p21_0, h_isWithin, ixt, ixt2, g4, m2]
end RWS
