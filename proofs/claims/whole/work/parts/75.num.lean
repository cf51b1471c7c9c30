section NU
variable {d N : Nat} {I J : sm_Im} {L : sm_Lm} {P : sm_Pm} {sw : Bool} {x y z u v : Int32} {a b m n q kd am mn j p r k nb t f c g u' : Nat} {w : Int64} {β τ : Nat → Nat → Nat}
theorem mulL (a b : Nat) : lN a * lN b = lN (a * b) := lN_mul a b
theorem remL {a b : Nat} (ha : a < 9223372036854775808) (h0 : 0 < b) (hb : b < 9223372036854775808) : lN a - lN a / lN b * lN b = lN (a % b) := pk_lRem ha h0 hb
theorem divL {a b : Nat} (ha : a < 9223372036854775808) (h0 : 0 < b) (hb : b < 9223372036854775808) : lN a / lN b = lN (a / b) := pk_lDiv ha h0 hb
theorem eqLN {a b : Nat} (ha : a < 9223372036854775808) (hb : b < 9223372036854775808) : (lN a = lN b) = (a = b) := by rw [eq_iff_iff]; exact pk_lEQ ha hb
theorem zL0 : (0 : Int64) = lN 0 := rfl
theorem h_power_loop : ∀ (k i : Nat), i + k = n → n < 1000 → sm_at (sm_ex d) none 142 5 [some (.long (lN b)), none, some (.int (nI n)), some (.long (lN (b ^ i))), none, some (.int (nI i))] [] N I L P = some (some (.long (lN (b ^ n))), N, I, L, P) := by
  intro k
  induction k with
  | zero =>
    intro i hi hn
    obtain rfl : i = n := by omega
    rw [s142_5]
    simp only [s142_0, s142_1, s142_2, s142_3, s142_7, s142_8, s142_11, s142_12, s142_13, s142_14, s142_15, s142_18, s142_21, s142_22, ltI, geL, leL, not_true_eq_false, not_false_eq_true, if_true, if_false, and_self, and_true, true_and, and_false, false_and, or_self, or_true, true_or, or_false, false_or, bo_T, bo_F, bo_e0, nI10, nI00, nI11, nI01, bo_e1, nem, eqL, af_v, af_0, rf_s, rf_n, nn, ite_self, Int32.le_refl]
  | succ k ih =>
    intro i hi hn
    have c1 : ¬ n ≤ i := by omega
    have := ih (i + 1) (by omega) hn
    rw [Nat.pow_succ] at this
    rw [s142_5]
    simp (discharger := first | assumption | omega | decide) only [s142_0, s142_1, s142_2, s142_3, s142_7, s142_8, s142_11, s142_12, s142_13, s142_14, s142_15, s142_18, s142_21, s142_22, ltI, geL, leL, not_true_eq_false, not_false_eq_true, if_true, if_false, and_self, and_true, true_and, and_false, false_and, or_self, or_true, true_or, or_false, false_or, bo_T, bo_F, bo_e0, nI10, nI00, nI11, nI01, bo_e1, nem, eqL, af_v, af_0, rf_s, rf_n, nn, ite_self, leN, c1, mulL, addN, sm_cl]
    exact this
theorem h_power (hn : n < 1000) : sm_ex (d + 1) 142 [.long (lN b), .int (nI n)] N I L P = some (some (.long (lN (b ^ n))), N, I, L, P) := by
  rw [e142]
  simp only [s142_0, s142_1, s142_2, s142_3, s142_7, s142_8, s142_11, s142_12, s142_13, s142_14, s142_15, s142_18, s142_21, s142_22, ltI, geL, leL, not_true_eq_false, not_false_eq_true, if_true, if_false, and_self, and_true, true_and, and_false, false_and, or_self, or_true, true_or, or_false, false_or, bo_T, bo_F, bo_e0, nI10, nI00, nI11, nI01, bo_e1, nem, eqL, af_v, af_0, rf_s, rf_n, nn, ite_self, sm_cl]
  exact h_power_loop n 0 (Nat.zero_add _) hn
theorem half {g l : Nat} (hl : 0 < l) (hr : 0 < g % l) : 2 * (l % (g % l)) < l := by
  have h1 : g % l < l := Nat.mod_lt _ hl
  have h2 : l % (g % l) < g % l := Nat.mod_lt _ hr
  by_cases c : 2 * (g % l) ≤ l
  · omega
  · have : l % (g % l) = l - g % l := by rw [Nat.mod_eq_sub_mod (by omega), Nat.mod_eq_of_lt (by omega)]
    omega
theorem gcdr (g l : Nat) : Nat.gcd g l = Nat.gcd l (g % l) := by rw [Nat.gcd_comm g l, Nat.gcd_rec l g, Nat.gcd_comm]
theorem h_cd_loop : ∀ (k i g l : Nat), l < 2 ^ k → i + 2 * k ≤ 98 → g < 9223372036854775808 → l < 9223372036854775808 → ∀ (l0 l2 l9 : Option Value), sm_at (sm_ex d) none 144 9 [l0, none, l2, none, some (.long (lN g)), none, some (.long (lN l)), none, some (.int (nI i)), l9, none] [] N I L P = some (some (.long (lN (Nat.gcd g l))), N, I, L, P) := by
  intro k
  induction k with
  | zero =>
    intro i g l hl hi hg hl2 l0 l2 l9
    obtain rfl : l = 0 := by omega
    have c1 : ¬ 100 ≤ i := by omega
    rw [s144_9]
    simp (discharger := first | assumption | omega | decide) only [s144_0, s144_1, s144_3, s144_4, s144_6, s144_7, s144_11, s144_13, s144_16, s144_18, s144_19, s144_20, s144_23, s144_25, s144_27, s144_28, s144_30, s144_32, s144_34, s144_36, s144_38, s144_41, s144_44, s144_46, ltI, geL, leL, not_true_eq_false, not_false_eq_true, if_true, if_false, and_self, and_true, true_and, and_false, false_and, or_self, or_true, true_or, or_false, false_or, bo_T, bo_F, bo_e0, nI10, nI00, nI11, nI01, bo_e1, nem, eqL, af_v, af_0, rf_s, rf_n, nn, ite_self, leN, c1, Nat.gcd_zero_right]
  | succ k ih =>
    intro i g l hl hi hg hl2 l0 l2 l9
    have c1 : ¬ 100 ≤ i := by omega
    have c2 : ¬ 100 ≤ i + 1 := by omega
    by_cases h0 : l = 0
    · subst h0
      rw [s144_9]
      simp (discharger := first | assumption | omega | decide) only [s144_0, s144_1, s144_3, s144_4, s144_6, s144_7, s144_11, s144_13, s144_16, s144_18, s144_19, s144_20, s144_23, s144_25, s144_27, s144_28, s144_30, s144_32, s144_34, s144_36, s144_38, s144_41, s144_44, s144_46, ltI, geL, leL, not_true_eq_false, not_false_eq_true, if_true, if_false, and_self, and_true, true_and, and_false, false_and, or_self, or_true, true_or, or_false, false_or, bo_T, bo_F, bo_e0, nI10, nI00, nI11, nI01, bo_e1, nem, eqL, af_v, af_0, rf_s, rf_n, nn, ite_self, leN, c1, Nat.gcd_zero_right]
    · have z0 : ¬ lN l = 0 := by rw [zL0, eqLN hl2 (by decide)]; exact h0
      have z0' : (lN l = lN 0) = False := by rw [eqLN hl2 (by decide)]; exact eq_false h0
      have hrl : g % l < l := Nat.mod_lt _ (by omega)
      rw [s144_9]
      simp (discharger := first | assumption | omega | decide) only [s144_0, s144_1, s144_3, s144_4, s144_6, s144_7, s144_11, s144_13, s144_16, s144_18, s144_19, s144_20, s144_23, s144_25, s144_27, s144_28, s144_30, s144_32, s144_34, s144_36, s144_38, s144_41, s144_44, s144_46, ltI, geL, leL, not_true_eq_false, not_false_eq_true, if_true, if_false, and_self, and_true, true_and, and_false, false_and, or_self, or_true, true_or, or_false, false_or, bo_T, bo_F, bo_e0, nI10, nI00, nI11, nI01, bo_e1, nem, eqL, af_v, af_0, rf_s, rf_n, nn, ite_self, leN, c1, z0', remL, sm_cl, addN]
      rw [gcdr]
      by_cases h1 : g % l = 0
      · rw [h1, s144_9]
        simp (discharger := first | assumption | omega | decide) only [s144_0, s144_1, s144_3, s144_4, s144_6, s144_7, s144_11, s144_13, s144_16, s144_18, s144_19, s144_20, s144_23, s144_25, s144_27, s144_28, s144_30, s144_32, s144_34, s144_36, s144_38, s144_41, s144_44, s144_46, ltI, geL, leL, not_true_eq_false, not_false_eq_true, if_true, if_false, and_self, and_true, true_and, and_false, false_and, or_self, or_true, true_or, or_false, false_or, bo_T, bo_F, bo_e0, nI10, nI00, nI11, nI01, bo_e1, nem, eqL, af_v, af_0, rf_s, rf_n, nn, ite_self, leN, c2, Nat.gcd_zero_right]
      · have z1 : ¬ lN (g % l) = 0 := by rw [zL0, eqLN (by omega) (by decide)]; exact h1
        have z1' : (lN (g % l) = lN 0) = False := by rw [eqLN (by omega) (by decide)]; exact eq_false h1
        have hh := half (g := g) (l := l) (by omega) (by omega)
        rw [s144_9]
        simp (discharger := first | assumption | omega | decide) only [s144_0, s144_1, s144_3, s144_4, s144_6, s144_7, s144_11, s144_13, s144_16, s144_18, s144_19, s144_20, s144_23, s144_25, s144_27, s144_28, s144_30, s144_32, s144_34, s144_36, s144_38, s144_41, s144_44, s144_46, ltI, geL, leL, not_true_eq_false, not_false_eq_true, if_true, if_false, and_self, and_true, true_and, and_false, false_and, or_self, or_true, true_or, or_false, false_or, bo_T, bo_F, bo_e0, nI10, nI00, nI11, nI01, bo_e1, nem, eqL, af_v, af_0, rf_s, rf_n, nn, ite_self, leN, c2, z1', remL, sm_cl, addN]
        rw [gcdr]
        exact ih (i + 1 + 1) _ _ (by rw [Nat.pow_succ] at hl; omega) (by omega) (by omega) (by omega) _ _ _
def lw (u l part : Nat) : Nat := if part = 0 then u / Nat.gcd u l else l / Nat.gcd u l
theorem h_low (hu : u' ≤ 1000000000000) (hl : q ≤ 1000000000000) (hq : 0 < q) (hp : p ≤ 1) : sm_ex (d + 2) 143 [.long (lN u'), .long (lN q), .int (nI p)] N I L P = some (some (.long (lN (lw u' q p))), N, I, L, P) := by
  have hcd : sm_ex (d + 1) 144 [.long (lN u'), .long (lN q)] N I L P = some (some (.long (lN (Nat.gcd u' q))), N, I, L, P) := by
    rw [e144]
    simp only [s144_0, s144_1, s144_3, s144_4, s144_6, s144_7, s144_11, s144_13, s144_16, s144_18, s144_19, s144_20, s144_23, s144_25, s144_27, s144_28, s144_30, s144_32, s144_34, s144_36, s144_38, s144_41, s144_44, s144_46, ltI, geL, leL, not_true_eq_false, not_false_eq_true, if_true, if_false, and_self, and_true, true_and, and_false, false_and, or_self, or_true, true_or, or_false, false_or, bo_T, bo_F, bo_e0, nI10, nI00, nI11, nI01, bo_e1, nem, eqL, af_v, af_0, rf_s, rf_n, nn, ite_self, sm_cl]
    exact h_cd_loop 40 0 u' q (by omega) (by decide) (by omega) (by omega) _ _ _
  have hg : 0 < Nat.gcd u' q := Nat.gcd_pos_of_pos_right _ hq
  have hg2 : Nat.gcd u' q ≤ q := Nat.gcd_le_right _ hq
  have z0 : ¬ lN (Nat.gcd u' q) = 0 := by rw [zL0, eqLN (by omega) (by decide)]; omega
  have z0' : (lN (Nat.gcd u' q) = lN 0) = False := by rw [eqLN (by omega) (by decide)]; exact eq_false (by omega)
  rw [e143]
  unfold lw
  rcases (show p = 0 ∨ p = 1 by omega) with rfl | rfl
  · simp (discharger := first | assumption | omega | decide) only [s143_0, s143_1, s143_2, s143_5, s143_7, s143_9, s143_12, s143_13, s143_16, s143_17, s143_19, s143_21, s143_22, s143_23, s143_26, s143_28, s143_31, s143_33, s143_35, s143_36, ltI, geL, leL, not_true_eq_false, not_false_eq_true, if_true, if_false, and_self, and_true, true_and, and_false, false_and, or_self, or_true, true_or, or_false, false_or, bo_T, bo_F, bo_e0, nI10, nI00, nI11, nI01, bo_e1, nem, eqL, af_v, af_0, rf_s, rf_n, nn, ite_self, hcd, sm_cl, z0', divL]
  · simp (discharger := first | assumption | omega | decide) only [s143_0, s143_1, s143_2, s143_5, s143_7, s143_9, s143_12, s143_13, s143_16, s143_17, s143_19, s143_21, s143_22, s143_23, s143_26, s143_28, s143_31, s143_33, s143_35, s143_36, ltI, geL, leL, not_true_eq_false, not_false_eq_true, if_true, if_false, and_self, and_true, true_and, and_false, false_and, or_self, or_true, true_or, or_false, false_or, bo_T, bo_F, bo_e0, nI10, nI00, nI11, nI01, bo_e1, nem, eqL, af_v, af_0, rf_s, rf_n, nn, ite_self, hcd, sm_cl, z0', divL, show (1 = 0) = False by decide]
theorem m_term_loop : ∀ (x y : Nat), x < 9223372036854775808 → y < 9223372036854775808 → ∀ (l0 l2 l9 : Option Value) (y4 : Int32) (Z : Option sm_Rs), (∀ l9 : Option Value, sm_at (sm_ex d) none 171 31 [l0, none, l2, none, some (.int y4), some (.long (lN 0)), none, some (.long (lN (Nat.gcd y x))), none, l9, none] [] N I L P = Z) → sm_at (sm_ex d) none 171 6 [l0, none, l2, none, some (.int y4), some (.long (lN x)), none, some (.long (lN y)), none, l9, none] [] N I L P = Z := by
  intro x
  induction x using Nat.strongRecOn with
  | _ x ih =>
    intro y hx hy l0 l2 l9 y4 Z hZ
    rw [s171_6]
    by_cases h0 : x = 0
    · subst h0
      simp (discharger := first | assumption | omega | decide) only [s171_8, s171_9, s171_10, ltI, geL, leL, not_true_eq_false, not_false_eq_true, if_true, if_false, and_self, and_true, true_and, and_false, false_and, or_self, or_true, true_or, or_false, false_or, bo_T, bo_F, bo_e0, nI10, nI00, nI11, nI01, bo_e1, nem, eqL, af_v, af_0, rf_s, rf_n, nn, ite_self]
      rw [Nat.gcd_zero_right] at hZ
      exact hZ _
    · have z0 : ¬ lN x = 0 := by rw [zL0, eqLN hx (by decide)]; exact h0
      have z0' : (lN x = lN 0) = False := by rw [eqLN hx (by decide)]; exact eq_false h0
      have hr : y % x < x := Nat.mod_lt _ (by omega)
      simp (discharger := first | assumption | omega | decide) only [s171_0, s171_1, s171_3, s171_4, s171_8, s171_9, s171_10, s171_13, s171_15, s171_17, s171_18, s171_20, s171_22, s171_24, s171_26, s171_28, s171_31, s171_33, s171_36, s171_37, s171_39, s171_40, s171_43, s171_44, s171_46, s171_47, ltI, geL, leL, not_true_eq_false, not_false_eq_true, if_true, if_false, and_self, and_true, true_and, and_false, false_and, or_self, or_true, true_or, or_false, false_or, bo_T, bo_F, bo_e0, nI10, nI00, nI11, nI01, bo_e1, nem, eqL, af_v, af_0, rf_s, rf_n, nn, ite_self, z0', remL, sm_cl]
      rw [gcdr] at hZ
      exact ih (y % x) hr x (by omega) hx _ _ _ _ Z hZ
theorem m_term (hu : u' ≤ 1000000000000) (hl : q ≤ 1000000000000) (hq : 0 < q) (hp : p ≤ 1) : sm_ex (d + 1) 171 [.long (lN u'), .long (lN q), .int (nI p)] N I L P = some (some (.long (lN (lw u' q p))), N, I, L, P) := by
  have hg : 0 < Nat.gcd u' q := Nat.gcd_pos_of_pos_right _ hq
  have hg2 : Nat.gcd u' q ≤ q := Nat.gcd_le_right _ hq
  have z0 : ¬ lN (Nat.gcd u' q) = 0 := by rw [zL0, eqLN (by omega) (by decide)]; omega
  rw [e171]
  simp only [s171_0, s171_1, s171_3, s171_4, s171_8, s171_9, s171_10, s171_13, s171_15, s171_17, s171_18, s171_20, s171_22, s171_24, s171_26, s171_28, s171_31, s171_33, s171_36, s171_37, s171_39, s171_40, s171_43, s171_44, s171_46, s171_47, ltI, geL, leL, not_true_eq_false, not_false_eq_true, if_true, if_false, and_self, and_true, true_and, and_false, false_and, or_self, or_true, true_or, or_false, false_or, bo_T, bo_F, bo_e0, nI10, nI00, nI11, nI01, bo_e1, nem, eqL, af_v, af_0, rf_s, rf_n, nn, ite_self, sm_cl]
  refine m_term_loop u' q (by omega) (by omega) _ _ _ _ _ (fun l9 => ?_)
  rw [Nat.gcd_comm q u']
  unfold lw
  rcases (show p = 0 ∨ p = 1 by omega) with rfl | rfl
  · simp (discharger := first | assumption | omega | decide) only [s171_0, s171_1, s171_3, s171_4, s171_8, s171_9, s171_10, s171_13, s171_15, s171_17, s171_18, s171_20, s171_22, s171_24, s171_26, s171_28, s171_31, s171_33, s171_36, s171_37, s171_39, s171_40, s171_43, s171_44, s171_46, s171_47, ltI, geL, leL, not_true_eq_false, not_false_eq_true, if_true, if_false, and_self, and_true, true_and, and_false, false_and, or_self, or_true, true_or, or_false, false_or, bo_T, bo_F, bo_e0, nI10, nI00, nI11, nI01, bo_e1, nem, eqL, af_v, af_0, rf_s, rf_n, nn, ite_self, divL]
  · simp (discharger := first | assumption | omega | decide) only [s171_0, s171_1, s171_3, s171_4, s171_8, s171_9, s171_10, s171_13, s171_15, s171_17, s171_18, s171_20, s171_22, s171_24, s171_26, s171_28, s171_31, s171_33, s171_36, s171_37, s171_39, s171_40, s171_43, s171_44, s171_46, s171_47, ltI, geL, leL, not_true_eq_false, not_false_eq_true, if_true, if_false, and_self, and_true, true_and, and_false, false_and, or_self, or_true, true_or, or_false, false_or, bo_T, bo_F, bo_e0, nI10, nI00, nI11, nI01, bo_e1, nem, eqL, af_v, af_0, rf_s, rf_n, nn, ite_self, divL, show (1 = 0) = False by decide]
theorem pow12 {b n : Nat} (hb : b ≤ 10) (hn : n ≤ 12) : b ^ n ≤ 1000000000000 := Nat.le_trans (Nat.pow_le_pow_left hb n) (Nat.le_trans (Nat.pow_le_pow_right (by decide) hn) (by decide))
theorem tn_le (B : BOk β) : tn β p ≤ 10 := by
  unfold tn
  split
  · rename_i h
    have := (B.2.1 _ h).2.1
    split <;> omega
  · omega
def sur (β τ : Nat → Nat → Nat) (p : Nat) (u v : Int32) (part : Nat) : Nat := lw (10 ^ cn (fl β τ p u v) (τ 0 0) - (10 - tn β p) ^ cn (fl β τ p u v) (τ 0 0)) (10 ^ cn (fl β τ p u v) (τ 0 0)) part
theorem subL {a b : Nat} (h : b ≤ a) : lN a - lN b = lN (a - b) := lN_sub h
theorem lI {n : Nat} (h : n < 2147483648) : (nI n).toInt64 = lN n := nI_l h
theorem c_surely_1 (h : ¬ (nI 0 ≤ x ∧ x ≤ nI 9)) : sm_ex (d + 5) 106 [.ref 0, .int x, .int u, .int v, .int y] 81 I L (pX sw) = some (some (.long (-101)), 81, I, L, pX sw) := by
  rw [e106]
  simp only [s106_0, s106_1, s106_4, s106_7, s106_10, s106_11, s106_12, s106_13, s106_16, s106_19, s106_21, s106_24, s106_27, s106_30, s106_31, s106_32, s106_35, s106_36, s106_39, s106_40, s106_41, s106_42, s106_45, s106_47, s106_50, s106_52, s106_55, s106_57, s106_59, s106_60, s106_63, s106_64, s106_67, s106_68, s106_69, s106_71, s106_74, s106_76, s106_78, s106_80, s106_81, s106_83, s106_85, s106_88, ltI, geL, leL, not_true_eq_false, not_false_eq_true, if_true, if_false, and_self, and_true, true_and, and_false, false_and, or_self, or_true, true_or, or_false, false_or, bo_T, bo_F, bo_e0, nI10, nI00, nI11, nI01, bo_e1, nem, eqL, af_v, af_0, rf_s, rf_n, nn, ite_self, h_isPerson, h]
theorem c_surely_2 (h : (nI 0 ≤ x ∧ x ≤ nI 9)) (h2 : ¬ (((nI 0 ≤ u ∧ u ≤ nI 1999) ∧ u ≤ v ∧ v ≤ nI 1999) ∧ nI 0 ≤ y ∧ y ≤ nI 1)) : sm_ex (d + 5) 106 [.ref 0, .int x, .int u, .int v, .int y] 81 I L (pX sw) = some (some (.long (-102)), 81, I, L, pX sw) := by
  rw [e106]
  by_cases h3 : ((nI 0 ≤ u ∧ u ≤ nI 1999) ∧ u ≤ v ∧ v ≤ nI 1999)
  · have h4 : ¬ (nI 0 ≤ y ∧ y ≤ nI 1) := fun q => h2 ⟨h3, q⟩
    simp only [s106_0, s106_1, s106_4, s106_7, s106_10, s106_11, s106_12, s106_13, s106_16, s106_19, s106_21, s106_24, s106_27, s106_30, s106_31, s106_32, s106_35, s106_36, s106_39, s106_40, s106_41, s106_42, s106_45, s106_47, s106_50, s106_52, s106_55, s106_57, s106_59, s106_60, s106_63, s106_64, s106_67, s106_68, s106_69, s106_71, s106_74, s106_76, s106_78, s106_80, s106_81, s106_83, s106_85, s106_88, ltI, geL, leL, not_true_eq_false, not_false_eq_true, if_true, if_false, and_self, and_true, true_and, and_false, false_and, or_self, or_true, true_or, or_false, false_or, bo_T, bo_F, bo_e0, nI10, nI00, nI11, nI01, bo_e1, nem, eqL, af_v, af_0, rf_s, rf_n, nn, ite_self, h_isPerson, h_isSpan, h_isPart, h, h3, h4]
  · simp only [s106_0, s106_1, s106_4, s106_7, s106_10, s106_11, s106_12, s106_13, s106_16, s106_19, s106_21, s106_24, s106_27, s106_30, s106_31, s106_32, s106_35, s106_36, s106_39, s106_40, s106_41, s106_42, s106_45, s106_47, s106_50, s106_52, s106_55, s106_57, s106_59, s106_60, s106_63, s106_64, s106_67, s106_68, s106_69, s106_71, s106_74, s106_76, s106_78, s106_80, s106_81, s106_83, s106_85, s106_88, ltI, geL, leL, not_true_eq_false, not_false_eq_true, if_true, if_false, and_self, and_true, true_and, and_false, false_and, or_self, or_true, true_or, or_false, false_or, bo_T, bo_F, bo_e0, nI10, nI00, nI11, nI01, bo_e1, nem, eqL, af_v, af_0, rf_s, rf_n, nn, ite_self, h_isPerson, h_isSpan, h, h3]
theorem c_surely_3 (R : RB (rg sw) I β) (B : BOk β) (T : RTC I τ) (O : TOk τ) (hp : p < 10) (h2 : ((nI 0 ≤ u ∧ u ≤ nI 1999) ∧ u ≤ v ∧ v ≤ nI 1999)) (hq : q ≤ 1) : sm_ex (d + 5) 106 [.ref 0, .int (nI p), .int u, .int v, .int (nI q)] 81 I L (pX sw) = some (some (.long (lN (sur β τ p u v q))), 81, I, L, pX sw) := by
  have A1 := (RA_rg sw).1
  have A2 := (RA_rg sw).2.1
  have hn : cn (fl β τ p u v) (τ 0 0) ≤ 12 := Nat.le_trans (cn_le _ _) O.1
  have ht := tn_le (p := p) B
  rw [e106]
  unfold sur
  generalize hng : cn (fl β τ p u v) (τ 0 0) = n at hn ⊢
  have ct : sm_ex (d + 4) 79 [.ref 3, .ref (rg sw), .int (nI p), .int u, .int v] 81 I L (pX sw) = some (some (.int (nI n)), 81, I, L, pX sw) := by rw [← hng]; exact c_timesFelt (RA_rg sw) R B T O hp
  have b1 : 10 ^ n ≤ 1000000000000 := pow12 (by decide) hn
  have b2 : (10 - tn β p) ^ n ≤ 10 ^ n := Nat.pow_le_pow_left (by omega) n
  have b3 : 0 < 10 ^ n := Nat.pow_pos (by decide)
  simp (discharger := first | assumption | omega | decide | (simp only [ly0, p0_0, p0_1, p0_2, p0_3, p0_4, p0_5, p0_6, p0_7, p0_8, p0_9, ly3, p3_0, p3_1, p3_2]; omega)) only [s106_0, s106_1, s106_4, s106_7, s106_10, s106_11, s106_12, s106_13, s106_16, s106_19, s106_21, s106_24, s106_27, s106_30, s106_31, s106_32, s106_35, s106_36, s106_39, s106_40, s106_41, s106_42, s106_45, s106_47, s106_50, s106_52, s106_55, s106_57, s106_59, s106_60, s106_63, s106_64, s106_67, s106_68, s106_69, s106_71, s106_74, s106_76, s106_78, s106_80, s106_81, s106_83, s106_85, s106_88, ltI, geL, leL, not_true_eq_false, not_false_eq_true, if_true, if_false, and_self, and_true, true_and, and_false, false_and, or_self, or_true, true_or, or_false, false_or, bo_T, bo_F, bo_e0, nI10, nI00, nI11, nI01, bo_e1, nem, eqL, af_v, af_0, rf_s, rf_n, nn, ite_self, ly0, p0_0, p0_1, p0_2, p0_3, p0_4, p0_5, p0_6, p0_7, p0_8, p0_9, ly3, p3_0, p3_1, p3_2, h_isPerson, h_isSpan, h_isPart, ixt, h2, ct, sm_cl, h_power, r_tenthsOf (RA_rg sw) R B hp, subN, lI, subL, h_low]
theorem lw_self (h : 0 < a) (hq : q ≤ 1) : lw a a q = lw 1 1 q := by
  unfold lw
  rw [Nat.gcd_self, Nat.gcd_self, Nat.div_self h]
theorem m_surely_1 (h : ¬ (nI 0 ≤ x ∧ x ≤ nI 9)) : sm_ex (d + 5) 173 [.ref 63, .int x, .int u, .int v, .int y] 81 I L (pX sw) = some (some (.long (-101)), 81, I, L, pX sw) := by
  rw [e173]
  simp only [s173_0, s173_1, s173_4, s173_7, s173_10, s173_11, s173_12, s173_13, s173_16, s173_19, s173_21, s173_24, s173_27, s173_30, s173_31, s173_32, s173_33, s173_34, s173_35, s173_36, s173_39, s173_42, s173_44, s173_45, s173_48, s173_49, s173_50, s173_51, s173_54, s173_55, s173_58, s173_60, s173_61, s173_64, s173_65, s173_66, s173_67, s173_68, s173_69, s173_72, s173_73, s173_76, s173_77, s173_79, s173_81, s173_84, s173_86, s173_89, s173_91, s173_94, s173_95, s173_98, s173_99, s173_100, s173_102, s173_105, s173_106, s173_107, s173_109, s173_110, s173_112, s173_113, s173_117, s173_119, s173_122, s173_124, s173_126, s173_127, s173_130, s173_132, s173_133, s173_136, s173_137, s173_138, s173_139, s173_140, s173_141, s173_142, s173_143, s173_144, s173_145, s173_147, s173_149, s173_152, s173_153, s173_155, s173_158, s173_161, s173_163, s173_165, s173_166, s173_168, s173_170, s173_173, ltI, geL, leL, not_true_eq_false, not_false_eq_true, if_true, if_false, and_self, and_true, true_and, and_false, false_and, or_self, or_true, true_or, or_false, false_or, bo_T, bo_F, bo_e0, nI10, nI00, nI11, nI01, bo_e1, nem, eqL, af_v, af_0, rf_s, rf_n, nn, ite_self, m_isPerson, h]
theorem m_surely_2 (h : (nI 0 ≤ x ∧ x ≤ nI 9)) (h2 : ¬ (((nI 0 ≤ u ∧ u ≤ nI 1999) ∧ u ≤ v ∧ v ≤ nI 1999) ∧ nI 0 ≤ y ∧ y ≤ nI 1)) : sm_ex (d + 5) 173 [.ref 63, .int x, .int u, .int v, .int y] 81 I L (pX sw) = some (some (.long (-102)), 81, I, L, pX sw) := by
  rw [e173]
  by_cases h3 : ((nI 0 ≤ u ∧ u ≤ nI 1999) ∧ u ≤ v ∧ v ≤ nI 1999)
  · have h4 : ¬ (nI 0 ≤ y ∧ y ≤ nI 1) := fun q => h2 ⟨h3, q⟩
    simp only [s173_0, s173_1, s173_4, s173_7, s173_10, s173_11, s173_12, s173_13, s173_16, s173_19, s173_21, s173_24, s173_27, s173_30, s173_31, s173_32, s173_33, s173_34, s173_35, s173_36, s173_39, s173_42, s173_44, s173_45, s173_48, s173_49, s173_50, s173_51, s173_54, s173_55, s173_58, s173_60, s173_61, s173_64, s173_65, s173_66, s173_67, s173_68, s173_69, s173_72, s173_73, s173_76, s173_77, s173_79, s173_81, s173_84, s173_86, s173_89, s173_91, s173_94, s173_95, s173_98, s173_99, s173_100, s173_102, s173_105, s173_106, s173_107, s173_109, s173_110, s173_112, s173_113, s173_117, s173_119, s173_122, s173_124, s173_126, s173_127, s173_130, s173_132, s173_133, s173_136, s173_137, s173_138, s173_139, s173_140, s173_141, s173_142, s173_143, s173_144, s173_145, s173_147, s173_149, s173_152, s173_153, s173_155, s173_158, s173_161, s173_163, s173_165, s173_166, s173_168, s173_170, s173_173, ltI, geL, leL, not_true_eq_false, not_false_eq_true, if_true, if_false, and_self, and_true, true_and, and_false, false_and, or_self, or_true, true_or, or_false, false_or, bo_T, bo_F, bo_e0, nI10, nI00, nI11, nI01, bo_e1, nem, eqL, af_v, af_0, rf_s, rf_n, nn, ite_self, m_isPerson, m_areMinutes, m_isPart, h, h3, h4]
  · simp only [s173_0, s173_1, s173_4, s173_7, s173_10, s173_11, s173_12, s173_13, s173_16, s173_19, s173_21, s173_24, s173_27, s173_30, s173_31, s173_32, s173_33, s173_34, s173_35, s173_36, s173_39, s173_42, s173_44, s173_45, s173_48, s173_49, s173_50, s173_51, s173_54, s173_55, s173_58, s173_60, s173_61, s173_64, s173_65, s173_66, s173_67, s173_68, s173_69, s173_72, s173_73, s173_76, s173_77, s173_79, s173_81, s173_84, s173_86, s173_89, s173_91, s173_94, s173_95, s173_98, s173_99, s173_100, s173_102, s173_105, s173_106, s173_107, s173_109, s173_110, s173_112, s173_113, s173_117, s173_119, s173_122, s173_124, s173_126, s173_127, s173_130, s173_132, s173_133, s173_136, s173_137, s173_138, s173_139, s173_140, s173_141, s173_142, s173_143, s173_144, s173_145, s173_147, s173_149, s173_152, s173_153, s173_155, s173_158, s173_161, s173_163, s173_165, s173_166, s173_168, s173_170, s173_173, ltI, geL, leL, not_true_eq_false, not_false_eq_true, if_true, if_false, and_self, and_true, true_and, and_false, false_and, or_self, or_true, true_or, or_false, false_or, bo_T, bo_F, bo_e0, nI10, nI00, nI11, nI01, bo_e1, nem, eqL, af_v, af_0, rf_s, rf_n, nn, ite_self, m_isPerson, m_areMinutes, h, h3]
theorem m_surely_loop (R : RMB I β) (B : BOk β) (hp : p < 10) (hb : β 4 p < β 0 0) (hn : n ≤ 12) (hq : q ≤ 1) : ∀ (k i : Nat), i + k = n → ∀ (l2 l3 l6 : Option Value), sm_at (sm_ex (d + 4)) none 173 115 [some (.ref 63), some (.int (nI p)), l2, l3, some (.int (nI q)), some (.int (nI n)), l6, some (.long (lN ((10 - β 2 (β 4 p)) ^ i))), none, some (.long (lN (10 ^ i))), none, some (.int (nI i))] [] 81 I L (pX sw) = some (some (.long (lN (lw (10 ^ n - (10 - β 2 (β 4 p)) ^ n) (10 ^ n) q))), 81, I, L, pX sw) := by
  have o2 := B.2.1 _ hb
  have r3 := R.2.2 p hp
  rw [if_pos hb] at r3
  have rr := (R.2.1 _ hb).2.2.1
  have o1 := B.1
  intro k
  induction k with
  | zero =>
    intro i hi l2 l3 l6
    obtain rfl : i = n := by omega
    have b1 : 10 ^ i ≤ 1000000000000 := pow12 (by decide) hn
    have b2 : (10 - β 2 (β 4 p)) ^ i ≤ 10 ^ i := Nat.pow_le_pow_left (by omega) i
    have b3 : 0 < 10 ^ i := Nat.pow_pos (by decide)
    rw [s173_115]
    simp (discharger := first | assumption | omega | decide) only [s173_0, s173_1, s173_4, s173_7, s173_10, s173_11, s173_12, s173_13, s173_16, s173_19, s173_21, s173_24, s173_27, s173_30, s173_31, s173_32, s173_33, s173_34, s173_35, s173_36, s173_39, s173_42, s173_44, s173_45, s173_48, s173_49, s173_50, s173_51, s173_54, s173_55, s173_58, s173_60, s173_61, s173_64, s173_65, s173_66, s173_67, s173_68, s173_69, s173_72, s173_73, s173_76, s173_77, s173_79, s173_81, s173_84, s173_86, s173_89, s173_91, s173_94, s173_95, s173_98, s173_99, s173_100, s173_102, s173_105, s173_106, s173_107, s173_109, s173_110, s173_112, s173_113, s173_117, s173_119, s173_122, s173_124, s173_126, s173_127, s173_130, s173_132, s173_133, s173_136, s173_137, s173_138, s173_139, s173_140, s173_141, s173_142, s173_143, s173_144, s173_145, s173_147, s173_149, s173_152, s173_153, s173_155, s173_158, s173_161, s173_163, s173_165, s173_166, s173_168, s173_170, s173_173, ltI, geL, leL, not_true_eq_false, not_false_eq_true, if_true, if_false, and_self, and_true, true_and, and_false, false_and, or_self, or_true, true_or, or_false, false_or, bo_T, bo_F, bo_e0, nI10, nI00, nI11, nI01, bo_e1, nem, eqL, af_v, af_0, rf_s, rf_n, nn, ite_self, Int32.le_refl, subL, m_term]
  | succ k ih =>
    intro i hi l2 l3 l6
    have c1 : ¬ n ≤ i := by omega
    have := ih (i + 1) (by omega) l2 l3 (sm_cl l6)
    rw [Nat.pow_succ, Nat.pow_succ] at this
    rw [s173_115]
    simp (discharger := first | assumption | omega | decide | (simp only [ly63, p63_0, p63_1, p63_2, p63_7, p63_10, p63_11, p63_13, p63_14, p63_16, p63_18, p63_22, p63_23, p63_24, p63_30, p63_31, p63_32, p63_33, ly68, al68, ly69, al69]; omega)) only [s173_0, s173_1, s173_4, s173_7, s173_10, s173_11, s173_12, s173_13, s173_16, s173_19, s173_21, s173_24, s173_27, s173_30, s173_31, s173_32, s173_33, s173_34, s173_35, s173_36, s173_39, s173_42, s173_44, s173_45, s173_48, s173_49, s173_50, s173_51, s173_54, s173_55, s173_58, s173_60, s173_61, s173_64, s173_65, s173_66, s173_67, s173_68, s173_69, s173_72, s173_73, s173_76, s173_77, s173_79, s173_81, s173_84, s173_86, s173_89, s173_91, s173_94, s173_95, s173_98, s173_99, s173_100, s173_102, s173_105, s173_106, s173_107, s173_109, s173_110, s173_112, s173_113, s173_117, s173_119, s173_122, s173_124, s173_126, s173_127, s173_130, s173_132, s173_133, s173_136, s173_137, s173_138, s173_139, s173_140, s173_141, s173_142, s173_143, s173_144, s173_145, s173_147, s173_149, s173_152, s173_153, s173_155, s173_158, s173_161, s173_163, s173_165, s173_166, s173_168, s173_170, s173_173, ltI, geL, leL, not_true_eq_false, not_false_eq_true, if_true, if_false, and_self, and_true, true_and, and_false, false_and, or_self, or_true, true_or, or_false, false_or, bo_T, bo_F, bo_e0, nI10, nI00, nI11, nI01, bo_e1, nem, eqL, af_v, af_0, rf_s, rf_n, nn, ite_self, ly63, p63_0, p63_1, p63_2, p63_7, p63_10, p63_11, p63_13, p63_14, p63_16, p63_18, p63_22, p63_23, p63_24, p63_30, p63_31, p63_32, p63_33, ly68, al68, ly69, al69, leN, c1, r3, mulN, addN, rr, subN, lI, mulL]
    exact this
theorem m_surely_3 (R : RMB I β) (B : BOk β) (T : RTM I τ) (O : TOk τ) (hp : p < 10) (h2 : ((nI 0 ≤ u ∧ u ≤ nI 1999) ∧ u ≤ v ∧ v ≤ nI 1999)) (hq : q ≤ 1) : sm_ex (d + 5) 173 [.ref 63, .int (nI p), .int u, .int v, .int (nI q)] 81 I L (pX sw) = some (some (.long (lN (sur β τ p u v q))), 81, I, L, pX sw) := by
  have hn : cn (fl β τ p u v) (τ 0 0) ≤ 12 := Nat.le_trans (cn_le _ _) O.1
  have o1 := B.1
  have r3 := R.2.2 p hp
  rw [e173]
  unfold sur tn
  generalize hng : cn (fl β τ p u v) (τ 0 0) = n at hn ⊢
  have ct : sm_ex (d + 4) 168 [.ref 63, .int (nI p), .int u, .int v, .int (nI (τ 0 0))] 81 I L (pX sw) = some (some (.int (nI n)), 81, I, L, pX sw) := by rw [← hng]; exact m_feltOf R B T O hp (Nat.le_refl _)
  have simple : ∀ t, t = 10 → lw (10 ^ n - (10 - t) ^ n) (10 ^ n) q = if n = 0 then lw 0 1 q else lw 1 1 q := by
    intro t ht
    subst ht
    by_cases h0 : n = 0
    · subst h0; rfl
    · rw [if_neg h0, Nat.sub_self, Nat.zero_pow (by omega), Nat.sub_zero, lw_self (Nat.pow_pos (by decide)) hq]
  by_cases hb : β 4 p < β 0 0
  · have rr := (R.2.1 _ hb).1
    have o2 := B.2.1 _ hb
    have n1 : (nI (β 4 p) = -1) = False := neN1 (by omega)
    rw [if_pos hb] at r3 ⊢
    by_cases hk : β 1 (β 4 p) = 2
    · rw [if_pos hk]
      by_cases h0 : n = 0
      · subst h0
        simp (discharger := first | assumption | omega | decide | (simp only [ly63, p63_0, p63_1, p63_2, p63_7, p63_10, p63_11, p63_13, p63_14, p63_16, p63_18, p63_22, p63_23, p63_24, p63_30, p63_31, p63_32, p63_33, ly68, al68, ly69, al69]; omega)) only [s173_0, s173_1, s173_4, s173_7, s173_10, s173_11, s173_12, s173_13, s173_16, s173_19, s173_21, s173_24, s173_27, s173_30, s173_31, s173_32, s173_33, s173_34, s173_35, s173_36, s173_39, s173_42, s173_44, s173_45, s173_48, s173_49, s173_50, s173_51, s173_54, s173_55, s173_58, s173_60, s173_61, s173_64, s173_65, s173_66, s173_67, s173_68, s173_69, s173_72, s173_73, s173_76, s173_77, s173_79, s173_81, s173_84, s173_86, s173_89, s173_91, s173_94, s173_95, s173_98, s173_99, s173_100, s173_102, s173_105, s173_106, s173_107, s173_109, s173_110, s173_112, s173_113, s173_117, s173_119, s173_122, s173_124, s173_126, s173_127, s173_130, s173_132, s173_133, s173_136, s173_137, s173_138, s173_139, s173_140, s173_141, s173_142, s173_143, s173_144, s173_145, s173_147, s173_149, s173_152, s173_153, s173_155, s173_158, s173_161, s173_163, s173_165, s173_166, s173_168, s173_170, s173_173, ltI, geL, leL, not_true_eq_false, not_false_eq_true, if_true, if_false, and_self, and_true, true_and, and_false, false_and, or_self, or_true, true_or, or_false, false_or, bo_T, bo_F, bo_e0, nI10, nI00, nI11, nI01, bo_e1, nem, eqL, af_v, af_0, rf_s, rf_n, nn, ite_self, ly63, p63_0, p63_1, p63_2, p63_7, p63_10, p63_11, p63_13, p63_14, p63_16, p63_18, p63_22, p63_23, p63_24, p63_30, p63_31, p63_32, p63_33, ly68, al68, ly69, al69, m_isPerson, m_areMinutes, m_isPart, ixt, h2, T.1, ct, sm_cl, r3, n1, mulN, rr, hk, eq00, le00, m_term, show ((1 : Nat) = 0) = False from by decide]
        rfl
      · simp (discharger := first | assumption | omega | decide | (simp only [ly63, p63_0, p63_1, p63_2, p63_7, p63_10, p63_11, p63_13, p63_14, p63_16, p63_18, p63_22, p63_23, p63_24, p63_30, p63_31, p63_32, p63_33, ly68, al68, ly69, al69]; omega)) only [s173_0, s173_1, s173_4, s173_7, s173_10, s173_11, s173_12, s173_13, s173_16, s173_19, s173_21, s173_24, s173_27, s173_30, s173_31, s173_32, s173_33, s173_34, s173_35, s173_36, s173_39, s173_42, s173_44, s173_45, s173_48, s173_49, s173_50, s173_51, s173_54, s173_55, s173_58, s173_60, s173_61, s173_64, s173_65, s173_66, s173_67, s173_68, s173_69, s173_72, s173_73, s173_76, s173_77, s173_79, s173_81, s173_84, s173_86, s173_89, s173_91, s173_94, s173_95, s173_98, s173_99, s173_100, s173_102, s173_105, s173_106, s173_107, s173_109, s173_110, s173_112, s173_113, s173_117, s173_119, s173_122, s173_124, s173_126, s173_127, s173_130, s173_132, s173_133, s173_136, s173_137, s173_138, s173_139, s173_140, s173_141, s173_142, s173_143, s173_144, s173_145, s173_147, s173_149, s173_152, s173_153, s173_155, s173_158, s173_161, s173_163, s173_165, s173_166, s173_168, s173_170, s173_173, ltI, geL, leL, not_true_eq_false, not_false_eq_true, if_true, if_false, and_self, and_true, true_and, and_false, false_and, or_self, or_true, true_or, or_false, false_or, bo_T, bo_F, bo_e0, nI10, nI00, nI11, nI01, bo_e1, nem, eqL, af_v, af_0, rf_s, rf_n, nn, ite_self, ly63, p63_0, p63_1, p63_2, p63_7, p63_10, p63_11, p63_13, p63_14, p63_16, p63_18, p63_22, p63_23, p63_24, p63_30, p63_31, p63_32, p63_33, ly68, al68, ly69, al69, m_isPerson, m_areMinutes, m_isPart, ixt, h2, T.1, ct, sm_cl, r3, n1, mulN, rr, hk, eq00, h0]
        exact m_surely_loop R B hp hb hn hq n 0 (Nat.zero_add _) _ _ _
    · rw [if_neg hk, simple 10 rfl]
      by_cases h0 : n = 0
      · subst h0
        simp (discharger := first | assumption | omega | decide | (simp only [ly63, p63_0, p63_1, p63_2, p63_7, p63_10, p63_11, p63_13, p63_14, p63_16, p63_18, p63_22, p63_23, p63_24, p63_30, p63_31, p63_32, p63_33, ly68, al68, ly69, al69]; omega)) only [s173_0, s173_1, s173_4, s173_7, s173_10, s173_11, s173_12, s173_13, s173_16, s173_19, s173_21, s173_24, s173_27, s173_30, s173_31, s173_32, s173_33, s173_34, s173_35, s173_36, s173_39, s173_42, s173_44, s173_45, s173_48, s173_49, s173_50, s173_51, s173_54, s173_55, s173_58, s173_60, s173_61, s173_64, s173_65, s173_66, s173_67, s173_68, s173_69, s173_72, s173_73, s173_76, s173_77, s173_79, s173_81, s173_84, s173_86, s173_89, s173_91, s173_94, s173_95, s173_98, s173_99, s173_100, s173_102, s173_105, s173_106, s173_107, s173_109, s173_110, s173_112, s173_113, s173_117, s173_119, s173_122, s173_124, s173_126, s173_127, s173_130, s173_132, s173_133, s173_136, s173_137, s173_138, s173_139, s173_140, s173_141, s173_142, s173_143, s173_144, s173_145, s173_147, s173_149, s173_152, s173_153, s173_155, s173_158, s173_161, s173_163, s173_165, s173_166, s173_168, s173_170, s173_173, ltI, geL, leL, not_true_eq_false, not_false_eq_true, if_true, if_false, and_self, and_true, true_and, and_false, false_and, or_self, or_true, true_or, or_false, false_or, bo_T, bo_F, bo_e0, nI10, nI00, nI11, nI01, bo_e1, nem, eqL, af_v, af_0, rf_s, rf_n, nn, ite_self, ly63, p63_0, p63_1, p63_2, p63_7, p63_10, p63_11, p63_13, p63_14, p63_16, p63_18, p63_22, p63_23, p63_24, p63_30, p63_31, p63_32, p63_33, ly68, al68, ly69, al69, m_isPerson, m_areMinutes, m_isPart, ixt, h2, T.1, ct, sm_cl, r3, n1, mulN, rr, hk, eqN, eq00, le00, m_term, show ((1 : Nat) = 0) = False from by decide]
      · simp (discharger := first | assumption | omega | decide | (simp only [ly63, p63_0, p63_1, p63_2, p63_7, p63_10, p63_11, p63_13, p63_14, p63_16, p63_18, p63_22, p63_23, p63_24, p63_30, p63_31, p63_32, p63_33, ly68, al68, ly69, al69]; omega)) only [s173_0, s173_1, s173_4, s173_7, s173_10, s173_11, s173_12, s173_13, s173_16, s173_19, s173_21, s173_24, s173_27, s173_30, s173_31, s173_32, s173_33, s173_34, s173_35, s173_36, s173_39, s173_42, s173_44, s173_45, s173_48, s173_49, s173_50, s173_51, s173_54, s173_55, s173_58, s173_60, s173_61, s173_64, s173_65, s173_66, s173_67, s173_68, s173_69, s173_72, s173_73, s173_76, s173_77, s173_79, s173_81, s173_84, s173_86, s173_89, s173_91, s173_94, s173_95, s173_98, s173_99, s173_100, s173_102, s173_105, s173_106, s173_107, s173_109, s173_110, s173_112, s173_113, s173_117, s173_119, s173_122, s173_124, s173_126, s173_127, s173_130, s173_132, s173_133, s173_136, s173_137, s173_138, s173_139, s173_140, s173_141, s173_142, s173_143, s173_144, s173_145, s173_147, s173_149, s173_152, s173_153, s173_155, s173_158, s173_161, s173_163, s173_165, s173_166, s173_168, s173_170, s173_173, ltI, geL, leL, not_true_eq_false, not_false_eq_true, if_true, if_false, and_self, and_true, true_and, and_false, false_and, or_self, or_true, true_or, or_false, false_or, bo_T, bo_F, bo_e0, nI10, nI00, nI11, nI01, bo_e1, nem, eqL, af_v, af_0, rf_s, rf_n, nn, ite_self, ly63, p63_0, p63_1, p63_2, p63_7, p63_10, p63_11, p63_13, p63_14, p63_16, p63_18, p63_22, p63_23, p63_24, p63_30, p63_31, p63_32, p63_33, ly68, al68, ly69, al69, m_isPerson, m_areMinutes, m_isPart, ixt, h2, T.1, ct, sm_cl, r3, n1, mulN, rr, hk, eqN, eq00, le00, h0, m_term, show ((1 : Nat) = 0) = False from by decide]
  · rw [if_neg hb] at r3 ⊢
    rw [simple 10 rfl]
    by_cases h0 : n = 0
    · subst h0
      simp (discharger := first | assumption | omega | decide | (simp only [ly63, p63_0, p63_1, p63_2, p63_7, p63_10, p63_11, p63_13, p63_14, p63_16, p63_18, p63_22, p63_23, p63_24, p63_30, p63_31, p63_32, p63_33, ly68, al68, ly69, al69]; omega)) only [s173_0, s173_1, s173_4, s173_7, s173_10, s173_11, s173_12, s173_13, s173_16, s173_19, s173_21, s173_24, s173_27, s173_30, s173_31, s173_32, s173_33, s173_34, s173_35, s173_36, s173_39, s173_42, s173_44, s173_45, s173_48, s173_49, s173_50, s173_51, s173_54, s173_55, s173_58, s173_60, s173_61, s173_64, s173_65, s173_66, s173_67, s173_68, s173_69, s173_72, s173_73, s173_76, s173_77, s173_79, s173_81, s173_84, s173_86, s173_89, s173_91, s173_94, s173_95, s173_98, s173_99, s173_100, s173_102, s173_105, s173_106, s173_107, s173_109, s173_110, s173_112, s173_113, s173_117, s173_119, s173_122, s173_124, s173_126, s173_127, s173_130, s173_132, s173_133, s173_136, s173_137, s173_138, s173_139, s173_140, s173_141, s173_142, s173_143, s173_144, s173_145, s173_147, s173_149, s173_152, s173_153, s173_155, s173_158, s173_161, s173_163, s173_165, s173_166, s173_168, s173_170, s173_173, ltI, geL, leL, not_true_eq_false, not_false_eq_true, if_true, if_false, and_self, and_true, true_and, and_false, false_and, or_self, or_true, true_or, or_false, false_or, bo_T, bo_F, bo_e0, nI10, nI00, nI11, nI01, bo_e1, nem, eqL, af_v, af_0, rf_s, rf_n, nn, ite_self, ly63, p63_0, p63_1, p63_2, p63_7, p63_10, p63_11, p63_13, p63_14, p63_16, p63_18, p63_22, p63_23, p63_24, p63_30, p63_31, p63_32, p63_33, ly68, al68, ly69, al69, m_isPerson, m_areMinutes, m_isPart, ixt, h2, T.1, ct, sm_cl, r3, eq00, le00, m_term, show ((1 : Nat) = 0) = False from by decide]
    · simp (discharger := first | assumption | omega | decide | (simp only [ly63, p63_0, p63_1, p63_2, p63_7, p63_10, p63_11, p63_13, p63_14, p63_16, p63_18, p63_22, p63_23, p63_24, p63_30, p63_31, p63_32, p63_33, ly68, al68, ly69, al69]; omega)) only [s173_0, s173_1, s173_4, s173_7, s173_10, s173_11, s173_12, s173_13, s173_16, s173_19, s173_21, s173_24, s173_27, s173_30, s173_31, s173_32, s173_33, s173_34, s173_35, s173_36, s173_39, s173_42, s173_44, s173_45, s173_48, s173_49, s173_50, s173_51, s173_54, s173_55, s173_58, s173_60, s173_61, s173_64, s173_65, s173_66, s173_67, s173_68, s173_69, s173_72, s173_73, s173_76, s173_77, s173_79, s173_81, s173_84, s173_86, s173_89, s173_91, s173_94, s173_95, s173_98, s173_99, s173_100, s173_102, s173_105, s173_106, s173_107, s173_109, s173_110, s173_112, s173_113, s173_117, s173_119, s173_122, s173_124, s173_126, s173_127, s173_130, s173_132, s173_133, s173_136, s173_137, s173_138, s173_139, s173_140, s173_141, s173_142, s173_143, s173_144, s173_145, s173_147, s173_149, s173_152, s173_153, s173_155, s173_158, s173_161, s173_163, s173_165, s173_166, s173_168, s173_170, s173_173, ltI, geL, leL, not_true_eq_false, not_false_eq_true, if_true, if_false, and_self, and_true, true_and, and_false, false_and, or_self, or_true, true_or, or_false, false_or, bo_T, bo_F, bo_e0, nI10, nI00, nI11, nI01, bo_e1, nem, eqL, af_v, af_0, rf_s, rf_n, nn, ite_self, ly63, p63_0, p63_1, p63_2, p63_7, p63_10, p63_11, p63_13, p63_14, p63_16, p63_18, p63_22, p63_23, p63_24, p63_30, p63_31, p63_32, p63_33, ly68, al68, ly69, al69, m_isPerson, m_areMinutes, m_isPart, ixt, h2, T.1, ct, sm_cl, r3, eq00, le00, h0, m_term, show ((1 : Nat) = 0) = False from by decide]
end NU
