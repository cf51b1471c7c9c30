section DI
variable {d : Nat} {I J : sm_Im} {L : sm_Lm} {sw : Bool} {x y z : Int32} {a b m n q c k j p v s : Nat} {h : Int64} {β τ κ : Nat → Nat → Nat} {r t : Nat → Nat} {W : Mx}
/-- a row of numbers into the digest -/
def hf (f : Nat → Int32) : Nat → Int64 → Int64
  | 0, h => h
  | n + 1, h => lN 31 * hf f n h + (f n).toInt64
theorem hf_s (f : Nat → Int32) (n : Nat) (h : Int64) : hf f (n + 1) h = lN 31 * hf f n h + (f n).toInt64 := rfl
theorem hf_cong {f g : Nat → Int32} : ∀ n, (∀ k, k < n → f k = g k) → ∀ h, hf f n h = hf g n h := by
  intro n
  induction n with
  | zero => intro _ h; rfl
  | succ n ih => intro e h; rw [hf_s, hf_s, ih (fun k hk => e k (by omega)), e n (by omega)]
def fB (β : Nat → Nat → Nat) (k : Nat) : Int32 := bf β (k / 7) (k % 7)
theorem fB_e (hj : j < 7) : fB β (7 * k + j) = bf β k j := by
  unfold fB
  rw [show (7 * k + j) / 7 = k by omega, show (7 * k + j) % 7 = j by omega]
theorem c_mB_1 (R : RB (rg sw) I β) (B : BOk β) (hk : k < β 0 0) {l1 : Option Value} : ∀ (g j : Nat), j + g = 7 → sm_at (sm_ex (d + 4)) none 125 20 [some (.ref 0), l1, none, some (.long (hf (fB β) (7 * k + j) h)), none, some (.int (nI k)), some (.int (nI j))] [] 81 I L (pX sw) = sm_at (sm_ex (d + 4)) none 125 47 [some (.ref 0), l1, none, some (.long (hf (fB β) (7 * (k + 1)) h)), none, some (.int (nI k)), some (.int (nI 7))] [] 81 I L (pX sw) := by
  intro g
  induction g with
  | zero =>
    intro j hj
    obtain rfl : j = 7 := by omega
    rw [s125_20]
    simp (discharger := first | omega | decide) only [s125_0, s125_1, s125_2, s125_3, s125_7, s125_8, s125_11, s125_14, s125_17, s125_18, s125_22, s125_24, s125_27, s125_28, s125_29, s125_31, s125_33, s125_36, s125_37, s125_40, s125_41, s125_44, s125_50, s125_53, s125_54, ltI, geL, leL, not_true_eq_false, not_false_eq_true, if_true, if_false, and_self, and_true, true_and, and_false, false_and, or_self, or_true, true_or, or_false, false_or, bo_T, bo_F, bo_e0, nI10, nI00, nI11, nI01, bo_e1, nem, eqL, af_v, af_0, rf_s, rf_n, nn, ite_self, Int32.le_refl, Nat.mul_succ]
  | succ g ih =>
    intro j hj
    have c1 : ¬ 7 ≤ j := by omega
    have cb : sm_ex (d + 4) 100 [.ref 0, .int (nI k), .int (nI j)] 81 I L (pX sw) = _ := c_birth_3 R B hk (show j < 7 by omega)
    have := ih (j + 1) (by omega)
    rw [show 7 * k + (j + 1) = 7 * k + j + 1 by omega, hf_s, fB_e (by omega)] at this
    rw [s125_20]
    simp (discharger := (first | omega | decide | assumption | exact rg_lt | exact rg_ly | (simp only [ly0, p0_0, p0_1, p0_2, p0_3, p0_4, p0_5, p0_6, p0_7, p0_8, p0_9]; omega))) only [s125_0, s125_1, s125_2, s125_3, s125_7, s125_8, s125_11, s125_14, s125_17, s125_18, s125_22, s125_24, s125_27, s125_28, s125_29, s125_31, s125_33, s125_36, s125_37, s125_40, s125_41, s125_44, s125_50, s125_53, s125_54, ltI, geL, leL, not_true_eq_false, not_false_eq_true, if_true, if_false, and_self, and_true, true_and, and_false, false_and, or_self, or_true, true_or, or_false, false_or, bo_T, bo_F, bo_e0, nI10, nI00, nI11, nI01, bo_e1, nem, eqL, af_v, af_0, rf_s, rf_n, nn, ite_self, ly0, p0_0, p0_1, p0_2, p0_3, p0_4, p0_5, p0_6, p0_7, p0_8, p0_9, leN, c1, cb, h_mix, addN, sm_cl]
    exact this
theorem c_mB_2 (R : RB (rg sw) I β) (B : BOk β) {l1 : Option Value} : ∀ (g k : Nat), k + g = β 0 0 → ∀ l6 : Option Value, sm_at (sm_ex (d + 4)) none 125 5 [some (.ref 0), l1, none, some (.long (hf (fB β) (7 * k) h)), none, some (.int (nI k)), l6] [] 81 I L (pX sw) = some (some (.long (hf (fB β) (7 * β 0 0) h)), 81, I, L, pX sw) := by
  have B5 := B.1
  intro g
  induction g with
  | zero =>
    intro k hk l6
    obtain rfl : k = β 0 0 := by omega
    rw [s125_5]
    simp (discharger := (first | omega | decide | assumption | exact rg_lt | exact rg_ly | (simp only [ly0, p0_0, p0_1, p0_2, p0_3, p0_4, p0_5, p0_6, p0_7, p0_8, p0_9]; omega))) only [s125_0, s125_1, s125_2, s125_3, s125_7, s125_8, s125_11, s125_14, s125_17, s125_18, s125_22, s125_24, s125_27, s125_28, s125_29, s125_31, s125_33, s125_36, s125_37, s125_40, s125_41, s125_44, s125_47, s125_50, s125_53, s125_54, ltI, geL, leL, not_true_eq_false, not_false_eq_true, if_true, if_false, and_self, and_true, true_and, and_false, false_and, or_self, or_true, true_or, or_false, false_or, bo_T, bo_F, bo_e0, nI10, nI00, nI11, nI01, bo_e1, nem, eqL, af_v, af_0, rf_s, rf_n, nn, ite_self, ly0, p0_0, p0_1, p0_2, p0_3, p0_4, p0_5, p0_6, p0_7, p0_8, p0_9, r_size (RA_rg sw), R.1, Int32.le_refl]
  | succ g ih =>
    intro k hk l6
    have c1 : ¬ β 0 0 ≤ k := by omega
    have := c_mB_1 (d := d) (h := h) (L := L) (l1 := l1) R B (show k < β 0 0 by omega) 7 0 rfl
    rw [Nat.add_zero (7 * k)] at this
    rw [s125_5]
    simp (discharger := (first | omega | decide | assumption | exact rg_lt | exact rg_ly | (simp only [ly0, p0_0, p0_1, p0_2, p0_3, p0_4, p0_5, p0_6, p0_7, p0_8, p0_9]; omega))) only [s125_0, s125_1, s125_2, s125_3, s125_7, s125_8, s125_11, s125_14, s125_17, s125_18, s125_22, s125_24, s125_27, s125_28, s125_29, s125_31, s125_33, s125_36, s125_37, s125_40, s125_41, s125_44, s125_47, s125_50, s125_53, s125_54, ltI, geL, leL, not_true_eq_false, not_false_eq_true, if_true, if_false, and_self, and_true, true_and, and_false, false_and, or_self, or_true, true_or, or_false, false_or, bo_T, bo_F, bo_e0, nI10, nI00, nI11, nI01, bo_e1, nem, eqL, af_v, af_0, rf_s, rf_n, nn, ite_self, ly0, p0_0, p0_1, p0_2, p0_3, p0_4, p0_5, p0_6, p0_7, p0_8, p0_9, r_size (RA_rg sw), R.1, leN, c1, sm_cl]
    rw [this]
    simp (discharger := (first | omega | decide | assumption | exact rg_lt | exact rg_ly | (simp only [ly0, p0_0, p0_1, p0_2, p0_3, p0_4, p0_5, p0_6, p0_7, p0_8, p0_9]; omega))) only [s125_0, s125_1, s125_2, s125_3, s125_7, s125_8, s125_11, s125_14, s125_17, s125_18, s125_22, s125_24, s125_27, s125_28, s125_29, s125_31, s125_33, s125_36, s125_37, s125_40, s125_41, s125_44, s125_47, s125_50, s125_53, s125_54, ltI, geL, leL, not_true_eq_false, not_false_eq_true, if_true, if_false, and_self, and_true, true_and, and_false, false_and, or_self, or_true, true_or, or_false, false_or, bo_T, bo_F, bo_e0, nI10, nI00, nI11, nI01, bo_e1, nem, eqL, af_v, af_0, rf_s, rf_n, nn, ite_self, addN, sm_cl]
    exact ih (k + 1) (by omega) _
theorem c_mixBirths (R : RB (rg sw) I β) (B : BOk β) : sm_ex (d + 5) 125 [.ref 0, .long h] 81 I L (pX sw) = some (some (.long (hf (fB β) (7 * β 0 0) h)), 81, I, L, pX sw) := by
  rw [e125]
  simp only [s125_0, s125_1, s125_2, s125_3, s125_7, s125_8, s125_11, s125_14, s125_17, s125_18, s125_22, s125_24, s125_27, s125_28, s125_29, s125_31, s125_33, s125_36, s125_37, s125_40, s125_41, s125_44, s125_47, s125_50, s125_53, s125_54, ltI, geL, leL, not_true_eq_false, not_false_eq_true, if_true, if_false, and_self, and_true, true_and, and_false, false_and, or_self, or_true, true_or, or_false, false_or, bo_T, bo_F, bo_e0, nI10, nI00, nI11, nI01, bo_e1, nem, eqL, af_v, af_0, rf_s, rf_n, nn, ite_self, sm_cl]
  exact c_mB_2 R B (β 0 0) 0 (Nat.zero_add _) _
def fP (β τ : Nat → Nat → Nat) (f : Nat → Int32) (k : Nat) : Int32 := if k % 4 = 3 then nI (cn (fl β τ (k / 4) (nI 0) (nI 1999)) (τ 0 0)) else ab β τ (f (k / 4)) (k / 4) (k % 4)
theorem fP_e {f : Nat → Int32} (hj : j < 3) : fP β τ f (4 * p + j) = ab β τ (f p) p j := by
  unfold fP
  rw [show (4 * p + j) / 4 = p by omega, show (4 * p + j) % 4 = j by omega, if_neg (by omega)]
theorem fP_3 {f : Nat → Int32} : fP β τ f (4 * p + 3) = nI (cn (fl β τ p (nI 0) (nI 1999)) (τ 0 0)) := by
  unfold fP
  rw [show (4 * p + 3) / 4 = p by omega, show (4 * p + 3) % 4 = 3 by omega, if_pos rfl]
theorem c_mP_1 (R : RB (rg sw) I β) (B : BOk β) (T : RTC I τ) (O : TOk τ) (hp : p < 10) {l1 : Option Value} : ∀ (g j : Nat), j + g = 3 → sm_at (sm_ex (d + 5)) none 126 15 [some (.ref 0), l1, none, some (.long (hf (fP β τ (I 36)) (4 * p + j) h)), none, some (.int (nI p)), some (.int (nI j))] [] 81 I L (pX sw) = sm_at (sm_ex (d + 5)) none 126 41 [some (.ref 0), l1, none, some (.long (hf (fP β τ (I 36)) (4 * p + 3) h)), none, some (.int (nI p)), some (.int (nI 3))] [] 81 I L (pX sw) := by
  intro g
  induction g with
  | zero =>
    intro j hj
    obtain rfl : j = 3 := by omega
    rw [s126_15]
    simp (discharger := first | omega | decide) only [s126_0, s126_1, s126_2, s126_3, s126_7, s126_9, s126_12, s126_13, s126_17, s126_18, s126_21, s126_22, s126_23, s126_25, s126_27, s126_30, s126_31, s126_34, s126_35, s126_38, s126_42, s126_43, s126_45, s126_46, s126_49, s126_52, s126_53, s126_56, s126_57, s126_60, s126_63, s126_64, ltI, geL, leL, not_true_eq_false, not_false_eq_true, if_true, if_false, and_self, and_true, true_and, and_false, false_and, or_self, or_true, true_or, or_false, false_or, bo_T, bo_F, bo_e0, nI10, nI00, nI11, nI01, bo_e1, nem, eqL, af_v, af_0, rf_s, rf_n, nn, ite_self, Int32.le_refl]
  | succ g ih =>
    intro j hj
    have c1 : ¬ 3 ≤ j := by omega
    have cb : sm_ex (d + 5) 102 [.ref 0, .int (nI p), .int (nI j)] 81 I L (pX sw) = _ := c_about_3 R T O hp (show j < 3 by omega)
    have := ih (j + 1) (by omega)
    rw [show 4 * p + (j + 1) = 4 * p + j + 1 by omega, hf_s, fP_e (by omega)] at this
    rw [s126_15]
    simp (discharger := (first | omega | decide | assumption | exact rg_lt | exact rg_ly | (simp only [ly0, p0_0, p0_1, p0_2, p0_3, p0_4, p0_5, p0_6, p0_7, p0_8, p0_9]; omega))) only [s126_0, s126_1, s126_2, s126_3, s126_7, s126_9, s126_12, s126_13, s126_17, s126_18, s126_21, s126_22, s126_23, s126_25, s126_27, s126_30, s126_31, s126_34, s126_35, s126_38, s126_42, s126_43, s126_45, s126_46, s126_49, s126_52, s126_53, s126_56, s126_57, s126_60, s126_63, s126_64, ltI, geL, leL, not_true_eq_false, not_false_eq_true, if_true, if_false, and_self, and_true, true_and, and_false, false_and, or_self, or_true, true_or, or_false, false_or, bo_T, bo_F, bo_e0, nI10, nI00, nI11, nI01, bo_e1, nem, eqL, af_v, af_0, rf_s, rf_n, nn, ite_self, ly0, p0_0, p0_1, p0_2, p0_3, p0_4, p0_5, p0_6, p0_7, p0_8, p0_9, leN, c1, cb, h_mix, addN, sm_cl]
    exact this
theorem c_mP_2 (R : RB (rg sw) I β) (B : BOk β) (T : RTC I τ) (O : TOk τ) {l1 : Option Value} : ∀ (g p : Nat), p + g = 10 → ∀ l6 : Option Value, sm_at (sm_ex (d + 5)) none 126 5 [some (.ref 0), l1, none, some (.long (hf (fP β τ (I 36)) (4 * p) h)), none, some (.int (nI p)), l6] [] 81 I L (pX sw) = some (some (.long (hf (fP β τ (I 36)) 40 h)), 81, I, L, pX sw) := by
  intro g
  induction g with
  | zero =>
    intro p hp l6
    obtain rfl : p = 10 := by omega
    rw [s126_5]
    simp (discharger := (first | omega | decide | assumption | exact rg_lt | exact rg_ly | (simp only [ly0, p0_0, p0_1, p0_2, p0_3, p0_4, p0_5, p0_6, p0_7, p0_8, p0_9]; omega))) only [s126_0, s126_1, s126_2, s126_3, s126_7, s126_9, s126_12, s126_13, s126_17, s126_18, s126_21, s126_22, s126_23, s126_25, s126_27, s126_30, s126_31, s126_34, s126_35, s126_38, s126_41, s126_42, s126_43, s126_45, s126_46, s126_49, s126_52, s126_53, s126_56, s126_57, s126_60, s126_63, s126_64, ltI, geL, leL, not_true_eq_false, not_false_eq_true, if_true, if_false, and_self, and_true, true_and, and_false, false_and, or_self, or_true, true_or, or_false, false_or, bo_T, bo_F, bo_e0, nI10, nI00, nI11, nI01, bo_e1, nem, eqL, af_v, af_0, rf_s, rf_n, nn, ite_self, Int32.le_refl]
  | succ g ih =>
    intro p hp l6
    have c1 : ¬ 10 ≤ p := by omega
    have := c_mP_1 (d := d) (h := h) (L := L) (l1 := l1) R B T O (show p < 10 by omega) 3 0 rfl
    rw [Nat.add_zero (4 * p)] at this
    have cf : sm_ex (d + 5) 105 [.ref 0, .int (nI p), .int (nI 0), .int (nI 1999)] 81 I L (pX sw) = _ := c_felt_3 R B T O (show p < 10 by omega) (by decide)
    have nx := ih (p + 1) (by omega) (some (.int (nI 3)))
    rw [show 4 * (p + 1) = 4 * p + 3 + 1 by omega, hf_s, fP_3] at nx
    rw [s126_5]
    simp (discharger := (first | omega | decide | assumption | exact rg_lt | exact rg_ly | (simp only [ly0, p0_0, p0_1, p0_2, p0_3, p0_4, p0_5, p0_6, p0_7, p0_8, p0_9]; omega))) only [s126_0, s126_1, s126_2, s126_3, s126_7, s126_9, s126_12, s126_13, s126_17, s126_18, s126_21, s126_22, s126_23, s126_25, s126_27, s126_30, s126_31, s126_34, s126_35, s126_38, s126_41, s126_42, s126_43, s126_45, s126_46, s126_49, s126_52, s126_53, s126_56, s126_57, s126_60, s126_63, s126_64, ltI, geL, leL, not_true_eq_false, not_false_eq_true, if_true, if_false, and_self, and_true, true_and, and_false, false_and, or_self, or_true, true_or, or_false, false_or, bo_T, bo_F, bo_e0, nI10, nI00, nI11, nI01, bo_e1, nem, eqL, af_v, af_0, rf_s, rf_n, nn, ite_self, ly0, p0_0, p0_1, p0_2, p0_3, p0_4, p0_5, p0_6, p0_7, p0_8, p0_9, leN, c1, sm_cl]
    rw [this]
    simp (discharger := (first | omega | decide | assumption | exact rg_lt | exact rg_ly | (simp only [ly0, p0_0, p0_1, p0_2, p0_3, p0_4, p0_5, p0_6, p0_7, p0_8, p0_9]; omega))) only [s126_0, s126_1, s126_2, s126_3, s126_7, s126_9, s126_12, s126_13, s126_17, s126_18, s126_21, s126_22, s126_23, s126_25, s126_27, s126_30, s126_31, s126_34, s126_35, s126_38, s126_41, s126_42, s126_43, s126_45, s126_46, s126_49, s126_52, s126_53, s126_56, s126_57, s126_60, s126_63, s126_64, ltI, geL, leL, not_true_eq_false, not_false_eq_true, if_true, if_false, and_self, and_true, true_and, and_false, false_and, or_self, or_true, true_or, or_false, false_or, bo_T, bo_F, bo_e0, nI10, nI00, nI11, nI01, bo_e1, nem, eqL, af_v, af_0, rf_s, rf_n, nn, ite_self, ly0, p0_0, p0_1, p0_2, p0_3, p0_4, p0_5, p0_6, p0_7, p0_8, p0_9, cf, h_mix, addN, sm_cl]
    exact nx
theorem c_mixPeople (R : RB (rg sw) I β) (B : BOk β) (T : RTC I τ) (O : TOk τ) : sm_ex (d + 6) 126 [.ref 0, .long h] 81 I L (pX sw) = some (some (.long (hf (fP β τ (I 36)) 40 h)), 81, I, L, pX sw) := by
  rw [e126]
  simp only [s126_0, s126_1, s126_2, s126_3, s126_7, s126_9, s126_12, s126_13, s126_17, s126_18, s126_21, s126_22, s126_23, s126_25, s126_27, s126_30, s126_31, s126_34, s126_35, s126_38, s126_41, s126_42, s126_43, s126_45, s126_46, s126_49, s126_52, s126_53, s126_56, s126_57, s126_60, s126_63, s126_64, ltI, geL, leL, not_true_eq_false, not_false_eq_true, if_true, if_false, and_self, and_true, true_and, and_false, false_and, or_self, or_true, true_or, or_false, false_or, bo_T, bo_F, bo_e0, nI10, nI00, nI11, nI01, bo_e1, nem, eqL, af_v, af_0, rf_s, rf_n, nn, ite_self, sm_cl]
  exact c_mP_2 R B T O 10 0 rfl _
def fN (W : Mx) (k : Nat) : Int32 := sC (W (k / 6) (k % 6))
theorem fN_e (hj : b < 6) : fN W (6 * a + b) = sC (W a b) := by
  unfold fN
  rw [show (6 * a + b) / 6 = a by omega, show (6 * a + b) % 6 = b by omega]
theorem c_mN_1 (hR : RW (I 10) W) (hW : ∀ a b, W a b ≤ 100000) (ha : a < 6) {l1 : Option Value} : ∀ (g b : Nat), b + g = 6 → sm_at (sm_ex (d + 5)) none 127 31 [some (.ref 0), l1, none, some (.long (hf (fN W) (6 * a + b) h)), none, some (.int (nI a)), some (.int (nI b))] [] 81 I L (pX sw) = sm_at (sm_ex (d + 5)) none 127 61 [some (.ref 0), l1, none, some (.long (hf (fN W) (6 * (a + 1)) h)), none, some (.int (nI a)), some (.int (nI 6))] [] 81 I L (pX sw) := by
  intro g
  induction g with
  | zero =>
    intro b hb
    obtain rfl : b = 6 := by omega
    rw [s127_31]
    simp (discharger := first | omega | decide) only [s127_0, s127_1, s127_2, s127_3, s127_6, s127_7, s127_10, s127_11, s127_14, s127_15, s127_18, s127_19, s127_23, s127_25, s127_28, s127_29, s127_33, s127_35, s127_38, s127_39, s127_40, s127_43, s127_45, s127_47, s127_50, s127_51, s127_54, s127_55, s127_58, s127_64, s127_67, s127_68, ltI, geL, leL, not_true_eq_false, not_false_eq_true, if_true, if_false, and_self, and_true, true_and, and_false, false_and, or_self, or_true, true_or, or_false, false_or, bo_T, bo_F, bo_e0, nI10, nI00, nI11, nI01, bo_e1, nem, eqL, af_v, af_0, rf_s, rf_n, nn, ite_self, Int32.le_refl, Nat.mul_succ]
  | succ g ih =>
    intro b hb
    have c1 : ¬ 6 ≤ b := by omega
    have cb : sm_ex (d + 5) 43 [.ref 7, .int (nI a), .int (nI b)] 81 I L (pX sw) = _ := c_minutesBetween (d := d + 2) hR (hW a b) ha (show b < 6 by omega)
    have := ih (b + 1) (by omega)
    rw [show 6 * a + (b + 1) = 6 * a + b + 1 by omega, hf_s, fN_e (by omega)] at this
    rw [s127_31]
    simp (discharger := (first | omega | decide | assumption | exact rg_lt | exact rg_ly | (simp only [ly0, p0_0, p0_1, p0_2, p0_3, p0_4, p0_5, p0_6, p0_7, p0_8, p0_9, ly7, p7_0, p7_1, p7_2, p7_3]; omega))) only [s127_0, s127_1, s127_2, s127_3, s127_6, s127_7, s127_10, s127_11, s127_14, s127_15, s127_18, s127_19, s127_23, s127_25, s127_28, s127_29, s127_33, s127_35, s127_38, s127_39, s127_40, s127_43, s127_45, s127_47, s127_50, s127_51, s127_54, s127_55, s127_58, s127_64, s127_67, s127_68, ltI, geL, leL, not_true_eq_false, not_false_eq_true, if_true, if_false, and_self, and_true, true_and, and_false, false_and, or_self, or_true, true_or, or_false, false_or, bo_T, bo_F, bo_e0, nI10, nI00, nI11, nI01, bo_e1, nem, eqL, af_v, af_0, rf_s, rf_n, nn, ite_self, ly0, p0_0, p0_1, p0_2, p0_3, p0_4, p0_5, p0_6, p0_7, p0_8, p0_9, ly7, p7_0, p7_1, p7_2, p7_3, leN, c1, cb, h_mix, addN, sm_cl]
    exact this
theorem c_mN_2 (hR : RW (I 10) W) (hW : ∀ a b, W a b ≤ 100000) {l1 : Option Value} : ∀ (g a : Nat), a + g = 6 → ∀ l6 : Option Value, sm_at (sm_ex (d + 5)) none 127 21 [some (.ref 0), l1, none, some (.long (hf (fN W) (6 * a) h)), none, some (.int (nI a)), l6] [] 81 I L (pX sw) = some (some (.long (hf (fN W) 36 h)), 81, I, L, pX sw) := by
  intro g
  induction g with
  | zero =>
    intro a ha l6
    obtain rfl : a = 6 := by omega
    rw [s127_21]
    simp (discharger := (first | omega | decide | assumption | exact rg_lt | exact rg_ly | (simp only [ly0, p0_0, p0_1, p0_2, p0_3, p0_4, p0_5, p0_6, p0_7, p0_8, p0_9]; omega))) only [s127_0, s127_1, s127_2, s127_3, s127_6, s127_7, s127_10, s127_11, s127_14, s127_15, s127_18, s127_19, s127_23, s127_25, s127_28, s127_29, s127_33, s127_35, s127_38, s127_39, s127_40, s127_43, s127_45, s127_47, s127_50, s127_51, s127_54, s127_55, s127_58, s127_61, s127_64, s127_67, s127_68, ltI, geL, leL, not_true_eq_false, not_false_eq_true, if_true, if_false, and_self, and_true, true_and, and_false, false_and, or_self, or_true, true_or, or_false, false_or, bo_T, bo_F, bo_e0, nI10, nI00, nI11, nI01, bo_e1, nem, eqL, af_v, af_0, rf_s, rf_n, nn, ite_self, Int32.le_refl]
  | succ g ih =>
    intro a ha l6
    have c1 : ¬ 6 ≤ a := by omega
    have := c_mN_1 (d := d) (h := h) (L := L) (sw := sw) (l1 := l1) hR hW (show a < 6 by omega) 6 0 rfl
    rw [Nat.add_zero (6 * a)] at this
    rw [s127_21]
    simp (discharger := (first | omega | decide | assumption | exact rg_lt | exact rg_ly | (simp only [ly0, p0_0, p0_1, p0_2, p0_3, p0_4, p0_5, p0_6, p0_7, p0_8, p0_9]; omega))) only [s127_0, s127_1, s127_2, s127_3, s127_6, s127_7, s127_10, s127_11, s127_14, s127_15, s127_18, s127_19, s127_23, s127_25, s127_28, s127_29, s127_33, s127_35, s127_38, s127_39, s127_40, s127_43, s127_45, s127_47, s127_50, s127_51, s127_54, s127_55, s127_58, s127_61, s127_64, s127_67, s127_68, ltI, geL, leL, not_true_eq_false, not_false_eq_true, if_true, if_false, and_self, and_true, true_and, and_false, false_and, or_self, or_true, true_or, or_false, false_or, bo_T, bo_F, bo_e0, nI10, nI00, nI11, nI01, bo_e1, nem, eqL, af_v, af_0, rf_s, rf_n, nn, ite_self, ly0, p0_0, p0_1, p0_2, p0_3, p0_4, p0_5, p0_6, p0_7, p0_8, p0_9, leN, c1, sm_cl]
    rw [this]
    simp (discharger := (first | omega | decide | assumption | exact rg_lt | exact rg_ly | (simp only [ly0, p0_0, p0_1, p0_2, p0_3, p0_4, p0_5, p0_6, p0_7, p0_8, p0_9]; omega))) only [s127_0, s127_1, s127_2, s127_3, s127_6, s127_7, s127_10, s127_11, s127_14, s127_15, s127_18, s127_19, s127_23, s127_25, s127_28, s127_29, s127_33, s127_35, s127_38, s127_39, s127_40, s127_43, s127_45, s127_47, s127_50, s127_51, s127_54, s127_55, s127_58, s127_61, s127_64, s127_67, s127_68, ltI, geL, leL, not_true_eq_false, not_false_eq_true, if_true, if_false, and_self, and_true, true_and, and_false, false_and, or_self, or_true, true_or, or_false, false_or, bo_T, bo_F, bo_e0, nI10, nI00, nI11, nI01, bo_e1, nem, eqL, af_v, af_0, rf_s, rf_n, nn, ite_self, addN, sm_cl]
    exact ih (a + 1) (by omega) _
theorem c_mixNews (B : RB (rg sw) I β) (O : BOk β) (ht : ∀ p, p < 10 → I 36 p = nI (t p) ∧ t p < 6) (hr : ∀ k, k < 36 → I 8 k = nI (r k) ∧ r k ≤ 99) (h3 : ∀ a, a < 6 → r (7 * a) = 0) : ∃ (J1 : sm_Im) (W : Mx), (∀ c, c ≠ 10 → J1 c = I c) ∧ PW W 100000 r t β (CF β (nI 0)) ∧ sm_ex (d + 6) 127 [.ref 0, .long h] 81 I L (pX sw) = some (some (.long (hf (fN (fw W 6)) 36 h)), 81, J1, L, pX sw) := by
  obtain ⟨J1, W, c1, c2, c3, c4⟩ := c_reckon (d := d) (x := nI 0) (L := L) (sw := sw) (rg_ge sw) (RA_rg sw) B O ht hr h3
  refine ⟨J1, W, c1, c2, ?_⟩
  rw [e127]
  simp (discharger := (first | omega | decide | assumption | exact rg_lt | exact rg_ly | (simp only [ly0, p0_0, p0_1, p0_2, p0_3, p0_4, p0_5, p0_6, p0_7, p0_8, p0_9, ly7, p7_0, p7_1, p7_2, p7_3, ly36, al36]; omega))) only [s127_0, s127_1, s127_2, s127_3, s127_6, s127_7, s127_10, s127_11, s127_14, s127_15, s127_18, s127_19, s127_23, s127_25, s127_28, s127_29, s127_33, s127_35, s127_38, s127_39, s127_40, s127_43, s127_45, s127_47, s127_50, s127_51, s127_54, s127_55, s127_58, s127_61, s127_64, s127_67, s127_68, ltI, geL, leL, not_true_eq_false, not_false_eq_true, if_true, if_false, and_self, and_true, true_and, and_false, false_and, or_self, or_true, true_or, or_false, false_or, bo_T, bo_F, bo_e0, nI10, nI00, nI11, nI01, bo_e1, nem, eqL, af_v, af_0, rf_s, rf_n, nn, ite_self, ly0, p0_0, p0_1, p0_2, p0_3, p0_4, p0_5, p0_6, p0_7, p0_8, p0_9, ly7, p7_0, p7_1, p7_2, p7_3, ly36, al36, c4, sm_cl]
  exact c_mN_2 c3 (fun a b => Nat.le_trans (fw_le 6 a b) (c2.1 a b)) 6 0 rfl _
theorem c_mBk (hn : I 14 1 = nI n) (hn4 : n ≤ 4) {l1 : Option Value} : ∀ (g k : Nat), k + g = n → sm_at (sm_ex (d + 1)) none 128 5 [some (.ref 0), l1, none, some (.long (hf (I 15) k h)), none, some (.int (nI k))] [] 81 I L (pX sw) = some (some (.long (hf (I 15) n h)), 81, I, L, pX sw) := by
  intro g
  induction g with
  | zero =>
    intro k hk
    obtain rfl : k = n := by omega
    rw [s128_5]
    simp (discharger := (first | omega | decide | assumption | exact rg_lt | exact rg_ly | (simp only [ly0, p0_0, p0_1, p0_2, p0_3, p0_4, p0_5, p0_6, p0_7, p0_8, p0_9, ly14, p14_0]; omega))) only [s128_0, s128_1, s128_2, s128_3, s128_7, s128_8, s128_11, s128_14, s128_17, s128_18, s128_19, s128_22, s128_24, s128_27, s128_28, s128_31, s128_32, s128_35, s128_38, s128_39, ltI, geL, leL, not_true_eq_false, not_false_eq_true, if_true, if_false, and_self, and_true, true_and, and_false, false_and, or_self, or_true, true_or, or_false, false_or, bo_T, bo_F, bo_e0, nI10, nI00, nI11, nI01, bo_e1, nem, eqL, af_v, af_0, rf_s, rf_n, nn, ite_self, ly0, p0_0, p0_1, p0_2, p0_3, p0_4, p0_5, p0_6, p0_7, p0_8, p0_9, ly14, p14_0, c_bsize, hn, Int32.le_refl]
  | succ g ih =>
    intro k hk
    have c1 : ¬ n ≤ k := by omega
    have := ih (k + 1) (by omega)
    rw [hf_s] at this
    rw [s128_5]
    simp (discharger := (first | omega | decide | assumption | exact rg_lt | exact rg_ly | (simp only [ly0, p0_0, p0_1, p0_2, p0_3, p0_4, p0_5, p0_6, p0_7, p0_8, p0_9, ly14, p14_0]; omega))) only [s128_0, s128_1, s128_2, s128_3, s128_7, s128_8, s128_11, s128_14, s128_17, s128_18, s128_19, s128_22, s128_24, s128_27, s128_28, s128_31, s128_32, s128_35, s128_38, s128_39, ltI, geL, leL, not_true_eq_false, not_false_eq_true, if_true, if_false, and_self, and_true, true_and, and_false, false_and, or_self, or_true, true_or, or_false, false_or, bo_T, bo_F, bo_e0, nI10, nI00, nI11, nI01, bo_e1, nem, eqL, af_v, af_0, rf_s, rf_n, nn, ite_self, ly0, p0_0, p0_1, p0_2, p0_3, p0_4, p0_5, p0_6, p0_7, p0_8, p0_9, ly14, p14_0, c_bsize, hn, leN, c1, c_bat hn hn4 (show k < n by omega), h_mix, addN, sm_cl]
    exact this
theorem c_mixBook (hn : I 14 1 = nI n) (hn4 : n ≤ 4) : sm_ex (d + 2) 128 [.ref 0, .long h] 81 I L (pX sw) = some (some (.long (hf (I 15) n h)), 81, I, L, pX sw) := by
  rw [e128]
  simp only [s128_0, s128_1, s128_2, s128_3, s128_7, s128_8, s128_11, s128_14, s128_17, s128_18, s128_19, s128_22, s128_24, s128_27, s128_28, s128_31, s128_32, s128_35, s128_38, s128_39, ltI, geL, leL, not_true_eq_false, not_false_eq_true, if_true, if_false, and_self, and_true, true_and, and_false, false_and, or_self, or_true, true_or, or_false, false_or, bo_T, bo_F, bo_e0, nI10, nI00, nI11, nI01, bo_e1, nem, eqL, af_v, af_0, rf_s, rf_n, nn, ite_self, sm_cl]
  exact c_mBk hn hn4 n 0 (Nat.zero_add _)
theorem c_mPg (hn : I 1 1 = nI n) (hn4 : n ≤ 32) {l1 : Option Value} : ∀ (g k : Nat), k + g = n → sm_at (sm_ex (d + 1)) none 130 5 [some (.ref 0), l1, none, some (.long (hf (I 2) k h)), none, some (.int (nI k))] [] 81 I L (pX sw) = some (some (.long (hf (I 2) n h)), 81, I, L, pX sw) := by
  intro g
  induction g with
  | zero =>
    intro k hk
    obtain rfl : k = n := by omega
    rw [s130_5]
    simp (discharger := (first | omega | decide | assumption | exact rg_lt | exact rg_ly | (simp only [ly0, p0_0, p0_1, p0_2, p0_3, p0_4, p0_5, p0_6, p0_7, p0_8, p0_9, ly1, p1_0]; omega))) only [s130_0, s130_1, s130_2, s130_3, s130_7, s130_8, s130_11, s130_14, s130_17, s130_18, s130_19, s130_22, s130_24, s130_27, s130_28, s130_31, s130_32, s130_35, s130_38, s130_39, ltI, geL, leL, not_true_eq_false, not_false_eq_true, if_true, if_false, and_self, and_true, true_and, and_false, false_and, or_self, or_true, true_or, or_false, false_or, bo_T, bo_F, bo_e0, nI10, nI00, nI11, nI01, bo_e1, nem, eqL, af_v, af_0, rf_s, rf_n, nn, ite_self, ly0, p0_0, p0_1, p0_2, p0_3, p0_4, p0_5, p0_6, p0_7, p0_8, p0_9, ly1, p1_0, c_psize, hn, Int32.le_refl]
  | succ g ih =>
    intro k hk
    have c1 : ¬ n ≤ k := by omega
    have := ih (k + 1) (by omega)
    rw [hf_s] at this
    rw [s130_5]
    simp (discharger := (first | omega | decide | assumption | exact rg_lt | exact rg_ly | (simp only [ly0, p0_0, p0_1, p0_2, p0_3, p0_4, p0_5, p0_6, p0_7, p0_8, p0_9, ly1, p1_0]; omega))) only [s130_0, s130_1, s130_2, s130_3, s130_7, s130_8, s130_11, s130_14, s130_17, s130_18, s130_19, s130_22, s130_24, s130_27, s130_28, s130_31, s130_32, s130_35, s130_38, s130_39, ltI, geL, leL, not_true_eq_false, not_false_eq_true, if_true, if_false, and_self, and_true, true_and, and_false, false_and, or_self, or_true, true_or, or_false, false_or, bo_T, bo_F, bo_e0, nI10, nI00, nI11, nI01, bo_e1, nem, eqL, af_v, af_0, rf_s, rf_n, nn, ite_self, ly0, p0_0, p0_1, p0_2, p0_3, p0_4, p0_5, p0_6, p0_7, p0_8, p0_9, ly1, p1_0, c_psize, hn, leN, c1, c_pat hn hn4 (show k < n by omega), h_mix, addN, sm_cl]
    exact this
theorem c_mixPage (hn : I 1 1 = nI n) (hn4 : n ≤ 32) : sm_ex (d + 2) 130 [.ref 0, .long h] 81 I L (pX sw) = some (some (.long (hf (I 2) n h)), 81, I, L, pX sw) := by
  rw [e130]
  simp only [s130_0, s130_1, s130_2, s130_3, s130_7, s130_8, s130_11, s130_14, s130_17, s130_18, s130_19, s130_22, s130_24, s130_27, s130_28, s130_31, s130_32, s130_35, s130_38, s130_39, ltI, geL, leL, not_true_eq_false, not_false_eq_true, if_true, if_false, and_self, and_true, true_and, and_false, false_and, or_self, or_true, true_or, or_false, false_or, bo_T, bo_F, bo_e0, nI10, nI00, nI11, nI01, bo_e1, nem, eqL, af_v, af_0, rf_s, rf_n, nn, ite_self, sm_cl]
  exact c_mPg hn hn4 n 0 (Nat.zero_add _)
def fC (κ : Nat → Nat → Nat) (k : Nat) : Int32 := oI (tn8 (tws κ k))
theorem c_mCr (h1 : I 16 4 = nI (κ 0 0)) (O : COk κ) (h2 : ∀ x, x < κ 0 0 → I 20 x = nI (tws κ x)) {l1 : Option Value} : ∀ (g k : Nat), k + g = κ 0 0 → sm_at (sm_ex (d + 8)) none 129 16 [some (.ref 0), l1, none, some (.long (hf (fC κ) k h)), none, some (.int (nI k))] [] 81 I L (pX sw) = some (some (.long (hf (fC κ) (κ 0 0) h)), 81, I, L, pX sw) := by
  have nk := n4_ok O.1
  intro g
  induction g with
  | zero =>
    intro k hk
    obtain rfl : k = κ 0 0 := by omega
    rw [s129_16]
    simp (discharger := (first | omega | decide | assumption | exact rg_lt | exact rg_ly | (simp only [ly0, p0_0, p0_1, p0_2, p0_3, p0_4, p0_5, p0_6, p0_7, p0_8, p0_9, ly16, p16_0, p16_1, p16_2, p16_3]; omega))) only [s129_0, s129_1, s129_2, s129_5, s129_8, s129_9, s129_12, s129_13, s129_14, s129_18, s129_19, s129_22, s129_25, s129_28, s129_29, s129_30, s129_33, s129_35, s129_38, s129_39, s129_42, s129_43, s129_46, s129_49, s129_50, ltI, geL, leL, not_true_eq_false, not_false_eq_true, if_true, if_false, and_self, and_true, true_and, and_false, false_and, or_self, or_true, true_or, or_false, false_or, bo_T, bo_F, bo_e0, nI10, nI00, nI11, nI01, bo_e1, nem, eqL, af_v, af_0, rf_s, rf_n, nn, ite_self, ly0, p0_0, p0_1, p0_2, p0_3, p0_4, p0_5, p0_6, p0_7, p0_8, p0_9, ly16, p16_0, p16_1, p16_2, p16_3, c_csize, h1, Int32.le_refl]
  | succ g ih =>
    intro k hk
    have c1 : ¬ κ 0 0 ≤ k := by omega
    have := ih (k + 1) (by omega)
    rw [hf_s] at this
    have ho : sm_ex (d + 8) 29 [.ref 16, .int (nI k)] 81 I L (pX sw) = some (some (.int (fC κ k)), 81, I, L, pX sw) := c_onlyTwin h1 nk.1 (by omega) (h2 k (by omega)) (tws_lt O (by omega))
    rw [s129_16]
    simp (discharger := (first | omega | decide | assumption | exact rg_lt | exact rg_ly | (simp only [ly0, p0_0, p0_1, p0_2, p0_3, p0_4, p0_5, p0_6, p0_7, p0_8, p0_9, ly16, p16_0, p16_1, p16_2, p16_3]; omega))) only [s129_0, s129_1, s129_2, s129_5, s129_8, s129_9, s129_12, s129_13, s129_14, s129_18, s129_19, s129_22, s129_25, s129_28, s129_29, s129_30, s129_33, s129_35, s129_38, s129_39, s129_42, s129_43, s129_46, s129_49, s129_50, ltI, geL, leL, not_true_eq_false, not_false_eq_true, if_true, if_false, and_self, and_true, true_and, and_false, false_and, or_self, or_true, true_or, or_false, false_or, bo_T, bo_F, bo_e0, nI10, nI00, nI11, nI01, bo_e1, nem, eqL, af_v, af_0, rf_s, rf_n, nn, ite_self, ly0, p0_0, p0_1, p0_2, p0_3, p0_4, p0_5, p0_6, p0_7, p0_8, p0_9, ly16, p16_0, p16_1, p16_2, p16_3, c_csize, h1, leN, c1, ho, h_mix, addN, sm_cl]
    exact this
theorem c_mixCrowd (Rr : RCC I κ) (O : COk κ) : ∃ J1 : sm_Im, (∀ c, c ≠ 19 → c ≠ 20 → J1 c = I c) ∧ sm_ex (d + 9) 129 [.ref 0, .long h] 81 I L (pX sw) = some (some (.long (hf (fC κ) (κ 0 0) (lN 31 * h + (nI (pgs κ)).toInt64))), 81, J1, L, pX sw) := by
  obtain ⟨J1, h1, h2, h3⟩ := c_survey_2 (d := d) (L := L) (sw := sw) Rr O
  refine ⟨J1, h1, ?_⟩
  rw [e129]
  simp (discharger := (first | omega | decide | assumption | exact rg_lt | exact rg_ly | (simp only [ly0, p0_0, p0_1, p0_2, p0_3, p0_4, p0_5, p0_6, p0_7, p0_8, p0_9, ly16, p16_0, p16_1, p16_2, p16_3]; omega))) only [s129_0, s129_1, s129_2, s129_5, s129_8, s129_9, s129_12, s129_13, s129_14, s129_18, s129_19, s129_22, s129_25, s129_28, s129_29, s129_30, s129_33, s129_35, s129_38, s129_39, s129_42, s129_43, s129_46, s129_49, s129_50, ltI, geL, leL, not_true_eq_false, not_false_eq_true, if_true, if_false, and_self, and_true, true_and, and_false, false_and, or_self, or_true, true_or, or_false, false_or, bo_T, bo_F, bo_e0, nI10, nI00, nI11, nI01, bo_e1, nem, eqL, af_v, af_0, rf_s, rf_n, nn, ite_self, ly0, p0_0, p0_1, p0_2, p0_3, p0_4, p0_5, p0_6, p0_7, p0_8, p0_9, ly16, p16_0, p16_1, p16_2, p16_3, h3, h_mix, sm_cl]
  exact c_mCr (by rw [h1 16 (by decide) (by decide)]; exact Rr.1) O h2 (κ 0 0) 0 (Nat.zero_add _)
theorem c_dg_loop (h1 : ∀ k, k < 36 → I 8 k = nI (r k) ∧ r k ≤ 99) : ∀ (g k : Nat), k + g = 9 → sm_at (sm_ex (d + 3)) none 124 52 [some (.ref 0), some (.long (hf (ctC sw I r) k h)), none, some (.int (nI k))] [] 81 I L (pX sw) = some (some (.long (hf (ctC sw I r) 9 h)), 81, I, L, pX sw) := by
  intro g
  induction g with
  | zero =>
    intro k hk
    obtain rfl : k = 9 := by omega
    rw [s124_52]
    simp (discharger := (first | omega | decide | assumption | exact rg_lt | exact rg_ly | (simp only [ly0, p0_0, p0_1, p0_2, p0_3, p0_4, p0_5, p0_6, p0_7, p0_8, p0_9]; omega))) only [s124_0, s124_3, s124_4, s124_5, s124_6, s124_9, s124_10, s124_11, s124_12, s124_15, s124_16, s124_17, s124_18, s124_21, s124_22, s124_25, s124_26, s124_27, s124_28, s124_31, s124_32, s124_33, s124_34, s124_37, s124_38, s124_39, s124_40, s124_43, s124_44, s124_45, s124_46, s124_49, s124_50, s124_51, s124_53, s124_55, s124_58, s124_59, s124_60, s124_61, s124_64, s124_65, s124_68, s124_69, s124_72, s124_75, s124_76, ltI, geL, leL, not_true_eq_false, not_false_eq_true, if_true, if_false, and_self, and_true, true_and, and_false, false_and, or_self, or_true, true_or, or_false, false_or, bo_T, bo_F, bo_e0, nI10, nI00, nI11, nI01, bo_e1, nem, eqL, af_v, af_0, rf_s, rf_n, nn, ite_self, ly0, p0_0, p0_1, p0_2, p0_3, p0_4, p0_5, p0_6, p0_7, p0_8, p0_9, Int32.le_refl]
  | succ g ih =>
    intro k hk
    have c1 : ¬ 9 ≤ k := by omega
    have := ih (k + 1) (by omega)
    rw [hf_s] at this
    rw [s124_52]
    simp (discharger := (first | omega | decide | assumption | exact rg_lt | exact rg_ly | (simp only [ly0, p0_0, p0_1, p0_2, p0_3, p0_4, p0_5, p0_6, p0_7, p0_8, p0_9]; omega))) only [s124_0, s124_3, s124_4, s124_5, s124_6, s124_9, s124_10, s124_11, s124_12, s124_15, s124_16, s124_17, s124_18, s124_21, s124_22, s124_25, s124_26, s124_27, s124_28, s124_31, s124_32, s124_33, s124_34, s124_37, s124_38, s124_39, s124_40, s124_43, s124_44, s124_45, s124_46, s124_49, s124_50, s124_51, s124_53, s124_55, s124_58, s124_59, s124_60, s124_61, s124_64, s124_65, s124_68, s124_69, s124_72, s124_75, s124_76, ltI, geL, leL, not_true_eq_false, not_false_eq_true, if_true, if_false, and_self, and_true, true_and, and_false, false_and, or_self, or_true, true_or, or_false, false_or, bo_T, bo_F, bo_e0, nI10, nI00, nI11, nI01, bo_e1, nem, eqL, af_v, af_0, rf_s, rf_n, nn, ite_self, ly0, p0_0, p0_1, p0_2, p0_3, p0_4, p0_5, p0_6, p0_7, p0_8, p0_9, leN, c1, c_count_2 h1 (show k < 9 by omega), h_mix, addN, sm_cl]
    exact this
theorem c_dg (h1 : ∀ k, k < 36 → I 8 k = nI (r k) ∧ r k ≤ 99) : sm_at (sm_ex (d + 3)) none 124 52 [some (.ref 0), some (.long h), none, some (.int (nI 0))] [] 81 I L (pX sw) = some (some (.long (hf (ctC sw I r) 9 h)), 81, I, L, pX sw) := c_dg_loop h1 9 0 rfl
/-- what both digests are -/
def dgs (β τ κ : Nat → Nat → Nat) (fT fW fBk fPg fCt : Nat → Int32) (ov : Int32) (nBk nPg : Nat) : Int64 := hf fCt 9 (hf fPg nPg (hf (fC κ) (κ 0 0) (lN 31 * (hf fBk nBk (hf fW 36 (lN 31 * (hf (fP β τ fT) 40 (hf (fB β) (7 * β 0 0) (lN 577))) + ov.toInt64))) + (nI (pgs κ)).toInt64)))
theorem c_digest (R : RB (rg sw) I β) (B : BOk β) (T : RTC I τ) (O : TOk τ) (ht : ∀ p, p < 10 → I 36 p = nI (t p) ∧ t p < 6) (hr : ∀ k, k < 36 → I 8 k = nI (r k) ∧ r k ≤ 99) (h3 : ∀ a, a < 6 → r (7 * a) = 0) (hn : I 14 1 = nI n) (hn4 : n ≤ 4) (hm : I 1 1 = nI m) (hm4 : m ≤ 32) (Rr : RCC I κ) (Oc : COk κ) : ∃ (J1 : sm_Im) (W : Mx), (∀ c, c ≠ 6 → c ≠ 10 → c ≠ 19 → c ≠ 20 → J1 c = I c) ∧ PW W 100000 r t β (CF β (nI 0)) ∧ sm_ex (d + 10) 124 [.ref 0] 81 I L (pX sw) = some (some (.long (dgs β τ κ (I 36) (fN (fw W 6)) (I 15) (I 2) (ctC sw I r) (oI (firstF (fun k => anyN (ovA β τ k) 10) (τ 0 0) 0)) n m)), 81, J1, L, pX sw) := by
  have hge := rg_ge sw
  have m1 := c_mixBirths (d := d + 4) (L := L) (h := lN 577) R B
  have m2 := c_mixPeople (d := d + 3) (L := L) (h := hf (fB β) (7 * β 0 0) (lN 577)) R B T O
  obtain ⟨J1, f1, f2⟩ := c_over (d := d + 3) (L := L) R B T O
  obtain ⟨J2, W, g1, g2, g3⟩ := c_mixNews (d := d + 3) (L := L) (sw := sw) (I := J1) (β := β) (r := r) (t := t) (h := lN 31 * (hf (fP β τ (I 36)) 40 (hf (fB β) (7 * β 0 0) (lN 577))) + (oI (firstF (fun k => anyN (ovA β τ k) 10) (τ 0 0) 0)).toInt64) (RB_cong hge (fun b hb => f1 b (by omega)) R) B (fun p hp => by rw [f1 36 (by decide)]; exact ht p hp) (fun k hk => by rw [f1 8 (by decide)]; exact hr k hk) h3
  have e2 : ∀ c, c ≠ 6 → c ≠ 10 → J2 c = I c := fun c a b => (g1 c b).trans (f1 c a)
  have m4 := fun h => c_mixBook (d := d + 7) (L := L) (sw := sw) (I := J2) (n := n) (h := h) (by rw [e2 14 (by decide) (by decide)]; exact hn) hn4
  obtain ⟨J3, k1, k2⟩ := c_mixCrowd (d := d) (L := L) (sw := sw) (I := J2) (κ := κ) (h := hf (J2 15) n (hf (fN (fw W 6)) 36 (lN 31 * (hf (fP β τ (I 36)) 40 (hf (fB β) (7 * β 0 0) (lN 577))) + (oI (firstF (fun k => anyN (ovA β τ k) 10) (τ 0 0) 0)).toInt64))) (by unfold RCC; rw [e2 16 (by decide) (by decide), e2 17 (by decide) (by decide), e2 18 (by decide) (by decide)]; exact Rr) Oc
  have e3 : ∀ c, c ≠ 6 → c ≠ 10 → c ≠ 19 → c ≠ 20 → J3 c = I c := fun c a b e f => (k1 c e f).trans (e2 c a b)
  have m6 := fun h => c_mixPage (d := d + 7) (L := L) (sw := sw) (I := J3) (n := m) (h := h) (by rw [e3 1 (by decide) (by decide) (by decide) (by decide)]; exact hm) hm4
  have m7 := fun h => c_dg (d := d + 6) (L := L) (sw := sw) (I := J3) (r := r) (h := h) (fun k hk => by rw [e3 8 (by decide) (by decide) (by decide) (by decide)]; exact hr k hk)
  refine ⟨J3, W, e3, g2, ?_⟩
  have ect : ctC sw J3 r = ctC sw I r := by
    funext j
    unfold ctC
    rw [e3 3 (by decide) (by decide) (by decide) (by decide), e3 14 (by decide) (by decide) (by decide) (by decide), e3 16 (by decide) (by decide) (by decide) (by decide), e3 1 (by decide) (by decide) (by decide) (by decide), e3 0 (by decide) (by decide) (by decide) (by decide), e3 (rg sw) (by omega) (by omega) (by omega) (by omega)]
  rw [e2 15 (by decide) (by decide)] at k2 m4
  rw [e3 2 (by decide) (by decide) (by decide) (by decide)] at m6
  rw [ect] at m7
  unfold dgs
  rw [e124]
  simp (discharger := (first | omega | decide | assumption | exact rg_lt | exact rg_ly | (simp only [ly0, p0_0, p0_1, p0_2, p0_3, p0_4, p0_5, p0_6, p0_7, p0_8, p0_9]; omega))) only [s124_0, s124_3, s124_4, s124_5, s124_6, s124_9, s124_10, s124_11, s124_12, s124_15, s124_16, s124_17, s124_18, s124_21, s124_22, s124_25, s124_26, s124_27, s124_28, s124_31, s124_32, s124_33, s124_34, s124_37, s124_38, s124_39, s124_40, s124_43, s124_44, s124_45, s124_46, s124_49, s124_50, s124_51, s124_53, s124_55, s124_58, s124_59, s124_60, s124_61, s124_64, s124_65, s124_68, s124_69, s124_72, s124_75, s124_76, ltI, geL, leL, not_true_eq_false, not_false_eq_true, if_true, if_false, and_self, and_true, true_and, and_false, false_and, or_self, or_true, true_or, or_false, false_or, bo_T, bo_F, bo_e0, nI10, nI00, nI11, nI01, bo_e1, nem, eqL, af_v, af_0, rf_s, rf_n, nn, ite_self, ly0, p0_0, p0_1, p0_2, p0_3, p0_4, p0_5, p0_6, p0_7, p0_8, p0_9, m1, m2, f2, h_mix, g3, m4, k2, m6, sm_cl]
  exact m7 _
end DI
