section KP
variable {d N : Nat} {I J : sm_Im} {L : sm_Lm} {P : sm_Pm} {sw : Bool} {x y z u v : Int32} {a b m n q i j p k c s w o R : Nat} {f : Nat → Int32} {D E W V : Mx}
/-- is a way too long -/
def exc (D : Mx) (m : Nat) : Bool := anyN (fun i => decide (m < D (i / 6) (i % 6))) 36
theorem anyN_cong {f g : Nat → Bool} : ∀ n, (∀ i, i < n → f i = g i) → anyN f n = anyN g n := by
  intro n
  induction n with
  | zero => intro _; rfl
  | succ n ih => intro h; rw [anyN_s, anyN_s, ih (fun i hi => h i (by omega)), h n (by omega)]
theorem exc_cong (h : ∀ a b, a < 6 → b < 6 → D a b = E a b) : exc D m = exc E m := anyN_cong 36 (fun i hi => by rw [h (i / 6) (i % 6) (by omega) (by omega)])
theorem exc_cap (hm : m < N) : exc (fun a b => min N (D a b)) m = exc D m := anyN_cong 36 (fun i hi => by
  have : (m < min N (D (i / 6) (i % 6))) = (m < D (i / 6) (i % 6)) := by rw [eq_iff_iff]; omega
  simp only [this])
theorem c_areWithin_loop (A : WA w) (hR : RW (I (w + 1)) D) (hB : ∀ a b, D a b ≤ 1000000) (hm : m ≤ 999) : ∀ (g i : Nat), i + g = 36 → anyN (fun i => decide (m < D (i / 6) (i % 6))) i = false → sm_at (sm_ex d) none 90 2 [some (.ref w), some (.int (nI m)), some (.int (nI i))] [] 81 I L (pX sw) = some (some (.int (bo (exc D m = false))), 81, I, L, pX sw) := by
  obtain ⟨A1, A2, A3, A4, A5⟩ := A
  have A6 : sm_lay (w + 1) = .inr (.inl 36) := by rw [← A5]; exact sm_lay_al (by omega)
  intro g
  induction g with
  | zero =>
    intro i hi hn
    obtain rfl : i = 36 := by omega
    have e : exc D m = false := hn
    rw [s90_2]
    simp (discharger := first | assumption | omega | decide) only [s90_0, s90_1, s90_3, s90_4, s90_8, s90_11, s90_12, s90_15, s90_16, s90_17, s90_18, s90_21, s90_22, s90_23, s90_26, s90_29, s90_30, s90_7a, ltI, geL, leL, not_true_eq_false, not_false_eq_true, if_true, if_false, and_self, and_true, true_and, and_false, false_and, or_self, or_true, true_or, or_false, false_or, bo_T, bo_F, bo_e0, nI10, nI00, nI11, nI01, bo_e1, nem, eqL, af_v, af_0, rf_s, rf_n, nn, ite_self, A3, A5, Int32.le_refl, e]
  | succ g ih =>
    intro i hi hn
    have c1 : ¬ 36 ≤ i := by omega
    have h := hR (i / 6) (i % 6) (by omega) (by omega)
    rw [Nat.div_add_mod] at h
    have b1 := hB (i / 6) (i % 6)
    rw [s90_2]
    by_cases c : D (i / 6) (i % 6) ≤ m
    · have e : anyN (fun i => decide (m < D (i / 6) (i % 6))) (i + 1) = false := by rw [anyN_s, hn]; simp; omega
      simp (discharger := first | assumption | omega | decide) only [s90_0, s90_1, s90_3, s90_4, s90_8, s90_11, s90_12, s90_15, s90_16, s90_17, s90_18, s90_21, s90_22, s90_23, s90_26, s90_29, s90_30, s90_7a, ltI, geL, leL, not_true_eq_false, not_false_eq_true, if_true, if_false, and_self, and_true, true_and, and_false, false_and, or_self, or_true, true_or, or_false, false_or, bo_T, bo_F, bo_e0, nI10, nI00, nI11, nI01, bo_e1, nem, eqL, af_v, af_0, rf_s, rf_n, nn, ite_self, A3, A5, leN, c1, h, c, addN, sm_cl]
      exact ih (i + 1) (by omega) e
    · have e : exc D m = true := anyN_t (i := i) (by simp; omega) 36 (by omega)
      simp (discharger := first | assumption | omega | decide) only [s90_0, s90_1, s90_3, s90_4, s90_8, s90_11, s90_12, s90_15, s90_16, s90_17, s90_18, s90_21, s90_22, s90_23, s90_26, s90_29, s90_30, s90_7a, ltI, geL, leL, not_true_eq_false, not_false_eq_true, if_true, if_false, and_self, and_true, true_and, and_false, false_and, or_self, or_true, true_or, or_false, false_or, bo_T, bo_F, bo_e0, nI10, nI00, nI11, nI01, bo_e1, nem, eqL, af_v, af_0, rf_s, rf_n, nn, ite_self, A3, A5, leN, c1, h, c, e, Bool.true_eq_false]
theorem c_areWithin (A : WA w) (hR : RW (I (w + 1)) D) (hB : ∀ a b, D a b ≤ 1000000) (hm : m ≤ 999) : sm_ex (d + 1) 90 [.ref w, .int (nI m)] 81 I L (pX sw) = some (some (.int (bo (exc D m = false))), 81, I, L, pX sw) := by
  rw [e90]
  simp only [s90_0, s90_1, s90_3, s90_4, s90_8, s90_11, s90_12, s90_15, s90_16, s90_17, s90_18, s90_21, s90_22, s90_23, s90_26, s90_29, s90_30, s90_7a, ltI, geL, leL, not_true_eq_false, not_false_eq_true, if_true, if_false, and_self, and_true, true_and, and_false, false_and, or_self, or_true, true_or, or_false, false_or, bo_T, bo_F, bo_e0, nI10, nI00, nI11, nI01, bo_e1, nem, eqL, af_v, af_0, rf_s, rf_n, nn, ite_self, sm_cl]
  exact c_areWithin_loop A hR hB hm 36 0 rfl rfl
theorem c_bwb (A : WA w) (hR : RW (I (w + 1)) D) (hB : ∀ a b, D a b ≤ 1000000) (hi : i < 6) (hj : j < 6) (ha : a < 6) (hb : b < 6) : sm_ex (d + 3) 92 [.ref w, .int (nI i), .int (nI j), .int (nI a), .int (nI b)] 81 I L (pX sw) = some (some (.int (nI (bd D a b i j))), 81, I, L, pX sw) := by
  have A1 := A.1
  have A2 := A.2.1
  have b1 := hB i a; have b2 := hB b j; have b3 := hB i b; have b4 := hB a j; have b5 := hB i j
  have m1 : (if nI (D i a + 1 + D b j) ≤ nI (D i b + 1 + D a j) then nI (D i a + 1 + D b j) else nI (D i b + 1 + D a j)) = _ := minN (by omega) (by omega)
  have m2 : (if nI (D i j) ≤ nI (min (D i a + 1 + D b j) (D i b + 1 + D a j)) then nI (D i j) else nI (min (D i a + 1 + D b j) (D i b + 1 + D a j))) = _ := minN (by omega) (by omega)
  rw [e92]
  simp (discharger := first | assumption | omega | decide) only [s92_0, s92_1, s92_2, s92_3, s92_6, s92_7, s92_8, s92_9, s92_11, s92_12, s92_15, s92_16, s92_18, s92_19, s92_20, s92_22, s92_25, s92_26, s92_27, s92_28, s92_29, s92_30, s92_33, s92_34, s92_36, s92_37, s92_38, s92_39, s92_42, s92_44, s92_46, s92_49, s92_52, ltI, geL, leL, not_true_eq_false, not_false_eq_true, if_true, if_false, and_self, and_true, true_and, and_false, false_and, or_self, or_true, true_or, or_false, false_or, bo_T, bo_F, bo_e0, nI10, nI00, nI11, nI01, bo_e1, nem, eqL, af_v, af_0, rf_s, rf_n, nn, ite_self, c_between A hi ha, c_between A hb hj, c_between A hi hb, c_between A ha hj, c_between A hi hj, hR i a hi ha, hR b j hb hj, hR i b hi hb, hR a j ha hj, hR i j hi hj, addN, j_min, m1, m2, sm_cl]
  rfl
theorem bd_le (hB : ∀ a b, D a b ≤ N) : ∀ i j, bd D a b i j ≤ N := fun i j => Nat.le_trans (Nat.min_le_left _ _) (hB i j)
theorem c_awb_in (A : WA w) (hR : RW (I (w + 1)) D) (hB : ∀ a b, D a b ≤ 1000000) (hm : m ≤ 999) (ha : a < 6) (hb : b < 6) (hi : i < 6) (Z : Option sm_Rs) (hZ : anyN (fun i => decide (m < bd D a b (i / 6) (i % 6))) (6 * (i + 1)) = false → sm_at (sm_ex (d + 3)) none 91 3 [some (.ref w), some (.int (nI m)), some (.int (nI a)), some (.int (nI b)), some (.int (nI (i + 1))), some (.int (nI 6))] [] 81 I L (pX sw) = Z) (hF : exc (bd D a b) m = true → Z = some (some (.int (nI 0)), 81, I, L, pX sw)) : ∀ (g j : Nat), j + g = 6 → anyN (fun i => decide (m < bd D a b (i / 6) (i % 6))) (6 * i + j) = false → sm_at (sm_ex (d + 3)) none 91 13 [some (.ref w), some (.int (nI m)), some (.int (nI a)), some (.int (nI b)), some (.int (nI i)), some (.int (nI j))] [] 81 I L (pX sw) = Z := by
  have A1 := A.1
  have A2 := A.2.1
  intro g
  induction g with
  | zero =>
    intro j hj hn
    obtain rfl : j = 6 := by omega
    rw [← hZ (by rw [show 6 * (i + 1) = 6 * i + 6 by omega]; exact hn), s91_13]
    simp only [s91_0, s91_1, s91_5, s91_7, s91_10, s91_11, s91_15, s91_17, s91_20, s91_21, s91_23, s91_25, s91_26, s91_27, s91_30, s91_31, s91_34, s91_35, s91_36, s91_39, s91_42, s91_45, s91_48, s91_49, ltI, geL, leL, not_true_eq_false, not_false_eq_true, if_true, if_false, and_self, and_true, true_and, and_false, false_and, or_self, or_true, true_or, or_false, false_or, bo_T, bo_F, bo_e0, nI10, nI00, nI11, nI01, bo_e1, nem, eqL, af_v, af_0, rf_s, rf_n, nn, ite_self, Int32.le_refl, addN, sm_cl]
  | succ g ih =>
    intro j hj hn
    have c1 : ¬ 6 ≤ j := by omega
    have b1 := bd_le (a := a) (b := b) hB i j
    have e1 : (6 * i + j) / 6 = i := by omega
    have e2 : (6 * i + j) % 6 = j := by omega
    rw [s91_13]
    by_cases c : bd D a b i j ≤ m
    · have e : anyN (fun i => decide (m < bd D a b (i / 6) (i % 6))) (6 * i + (j + 1)) = false := by rw [show 6 * i + (j + 1) = 6 * i + j + 1 from rfl, anyN_s, hn]; simp [e1, e2]; omega
      simp (discharger := first | assumption | omega | decide) only [s91_0, s91_1, s91_5, s91_7, s91_10, s91_11, s91_15, s91_17, s91_20, s91_21, s91_23, s91_25, s91_26, s91_27, s91_30, s91_31, s91_34, s91_35, s91_36, s91_39, s91_42, s91_45, s91_48, s91_49, ltI, geL, leL, not_true_eq_false, not_false_eq_true, if_true, if_false, and_self, and_true, true_and, and_false, false_and, or_self, or_true, true_or, or_false, false_or, bo_T, bo_F, bo_e0, nI10, nI00, nI11, nI01, bo_e1, nem, eqL, af_v, af_0, rf_s, rf_n, nn, ite_self, leN, c1, c_bwb A hR hB hi (show j < 6 by omega) ha hb, c, addN, sm_cl]
      exact ih (j + 1) (by omega) e
    · have e : exc (bd D a b) m = true := anyN_t (i := 6 * i + j) (by simp [e1, e2]; omega) 36 (by omega)
      rw [hF e]
      simp (discharger := first | assumption | omega | decide) only [s91_0, s91_1, s91_5, s91_7, s91_10, s91_11, s91_15, s91_17, s91_20, s91_21, s91_23, s91_25, s91_26, s91_27, s91_30, s91_31, s91_34, s91_35, s91_36, s91_39, s91_42, s91_45, s91_48, s91_49, ltI, geL, leL, not_true_eq_false, not_false_eq_true, if_true, if_false, and_self, and_true, true_and, and_false, false_and, or_self, or_true, true_or, or_false, false_or, bo_T, bo_F, bo_e0, nI10, nI00, nI11, nI01, bo_e1, nem, eqL, af_v, af_0, rf_s, rf_n, nn, ite_self, leN, c1, c_bwb A hR hB hi (show j < 6 by omega) ha hb, c]
theorem c_awb_out (A : WA w) (hR : RW (I (w + 1)) D) (hB : ∀ a b, D a b ≤ 1000000) (hm : m ≤ 999) (ha : a < 6) (hb : b < 6) : ∀ (g i : Nat), i + g = 6 → ∀ l5 : Option Value, anyN (fun i => decide (m < bd D a b (i / 6) (i % 6))) (6 * i) = false → sm_at (sm_ex (d + 3)) none 91 3 [some (.ref w), some (.int (nI m)), some (.int (nI a)), some (.int (nI b)), some (.int (nI i)), l5] [] 81 I L (pX sw) = some (some (.int (bo (exc (bd D a b) m = false))), 81, I, L, pX sw) := by
  intro g
  induction g with
  | zero =>
    intro i hi l5 hn
    obtain rfl : i = 6 := by omega
    have e : exc (bd D a b) m = false := hn
    rw [s91_3]
    simp only [s91_0, s91_1, s91_5, s91_7, s91_10, s91_11, s91_15, s91_17, s91_20, s91_21, s91_23, s91_25, s91_26, s91_27, s91_30, s91_31, s91_34, s91_35, s91_36, s91_39, s91_42, s91_45, s91_48, s91_49, ltI, geL, leL, not_true_eq_false, not_false_eq_true, if_true, if_false, and_self, and_true, true_and, and_false, false_and, or_self, or_true, true_or, or_false, false_or, bo_T, bo_F, bo_e0, nI10, nI00, nI11, nI01, bo_e1, nem, eqL, af_v, af_0, rf_s, rf_n, nn, ite_self, Int32.le_refl, e]
  | succ g ih =>
    intro i hi l5 hn
    have c1 : ¬ 6 ≤ i := by omega
    rw [s91_3]
    simp (discharger := first | assumption | omega | decide) only [s91_0, s91_1, s91_5, s91_7, s91_10, s91_11, s91_15, s91_17, s91_20, s91_21, s91_23, s91_25, s91_26, s91_27, s91_30, s91_31, s91_34, s91_35, s91_36, s91_39, s91_42, s91_45, s91_48, s91_49, ltI, geL, leL, not_true_eq_false, not_false_eq_true, if_true, if_false, and_self, and_true, true_and, and_false, false_and, or_self, or_true, true_or, or_false, false_or, bo_T, bo_F, bo_e0, nI10, nI00, nI11, nI01, bo_e1, nem, eqL, af_v, af_0, rf_s, rf_n, nn, ite_self, leN, c1, sm_cl]
    exact c_awb_in A hR hB hm ha hb (show i < 6 by omega) _ (fun h => ih (i + 1) (by omega) _ h) (fun e => by rw [e]; rfl) 6 0 rfl hn
theorem c_awb (A : WA w) (hR : RW (I (w + 1)) D) (hB : ∀ a b, D a b ≤ 1000000) (hm : m ≤ 999) (ha : a < 6) (hb : b < 6) : sm_ex (d + 4) 91 [.ref w, .int (nI m), .int (nI a), .int (nI b)] 81 I L (pX sw) = some (some (.int (bo (exc (bd D a b) m = false))), 81, I, L, pX sw) := by
  rw [e91]
  simp only [s91_0, s91_1, s91_5, s91_7, s91_10, s91_11, s91_15, s91_17, s91_20, s91_21, s91_23, s91_25, s91_26, s91_27, s91_30, s91_31, s91_34, s91_35, s91_36, s91_39, s91_42, s91_45, s91_48, s91_49, ltI, geL, leL, not_true_eq_false, not_false_eq_true, if_true, if_false, and_self, and_true, true_and, and_false, false_and, or_self, or_true, true_or, or_false, false_or, bo_T, bo_F, bo_e0, nI10, nI00, nI11, nI01, bo_e1, nem, eqL, af_v, af_0, rf_s, rf_n, nn, ite_self, sm_cl]
  exact c_awb_out A hR hB hm ha hb 6 0 rfl _ rfl
/-- the ways with one bond more are laid in the row 12 -/
theorem c_twb_in (hB : ∀ a b, D a b ≤ 1000000) (ha : a < 6) (hb : b < 6) (hi : i < 6) (hR : RW (I 10) D) : ∀ (g j : Nat), j + g = 6 → ∀ J : sm_Im, (∀ c, c ≠ 12 → J c = I c) → (∀ k, k < 6 * i + j → J 12 k = nI (bd D a b (k / 6) (k % 6))) → ∃ J1 : sm_Im, (∀ c, c ≠ 12 → J1 c = I c) ∧ (∀ k, k < 6 * (i + 1) → J1 12 k = nI (bd D a b (k / 6) (k % 6))) ∧ sm_at (sm_ex (d + 3)) none 89 13 [some (.ref 11), some (.ref 9), some (.int (nI a)), some (.int (nI b)), some (.int (nI i)), some (.int (nI j))] [] 81 J L (pX sw) = sm_at (sm_ex (d + 3)) none 89 3 [some (.ref 11), some (.ref 9), some (.int (nI a)), some (.int (nI b)), some (.int (nI (i + 1))), some (.int (nI 6))] [] 81 J1 L (pX sw) := by
  intro g
  induction g with
  | zero =>
    intro j hj J hJ hn
    obtain rfl : j = 6 := by omega
    refine ⟨J, hJ, fun k hk => hn k (by omega), ?_⟩
    rw [s89_13]
    simp only [s89_0, s89_1, s89_5, s89_7, s89_10, s89_11, s89_15, s89_17, s89_20, s89_21, s89_24, s89_26, s89_28, s89_29, s89_31, s89_32, s89_32n, s89_33, s89_35, s89_37, s89_38, s89_39, s89_42, s89_43, s89_46, s89_49, s89_52, s89_55, ltI, geL, leL, not_true_eq_false, not_false_eq_true, if_true, if_false, and_self, and_true, true_and, and_false, false_and, or_self, or_true, true_or, or_false, false_or, bo_T, bo_F, bo_e0, nI10, nI00, nI11, nI01, bo_e1, nem, eqL, af_v, af_0, rf_s, rf_n, nn, ite_self, Int32.le_refl, addN, sm_cl]
  | succ g ih =>
    intro j hj J hJ hn
    have c1 : ¬ 6 ≤ j := by omega
    have hR' : RW (J (9 + 1)) D := by rw [show J (9 + 1) = I 10 from hJ 10 (by decide)]; exact hR
    obtain ⟨J1, h1, h2, h3⟩ := ih (j + 1) (by omega) (sm_up J 12 (6 * i + j) (nI (bd D a b i j))) (fun c hc => by rw [up_row hc]; exact hJ c hc) (fun k hk => by
      rw [up_at]
      by_cases e : k = 6 * i + j
      · rw [if_pos e, e, show (6 * i + j) / 6 = i by omega, show (6 * i + j) % 6 = j by omega]
      · rw [if_neg e]; exact hn k (by omega))
    refine ⟨J1, h1, h2, ?_⟩
    rw [← h3, s89_13]
    simp (discharger := (first | omega | decide | assumption | exact rg_lt | exact rg_ly | (simp only [ly9, p9_0, ly11, p11_0, ly12, al12]; omega))) only [s89_0, s89_1, s89_5, s89_7, s89_10, s89_11, s89_15, s89_17, s89_20, s89_21, s89_24, s89_26, s89_28, s89_29, s89_31, s89_32, s89_32n, s89_33, s89_35, s89_37, s89_38, s89_39, s89_42, s89_43, s89_46, s89_49, s89_52, s89_55, ltI, geL, leL, not_true_eq_false, not_false_eq_true, if_true, if_false, and_self, and_true, true_and, and_false, false_and, or_self, or_true, true_or, or_false, false_or, bo_T, bo_F, bo_e0, nI10, nI00, nI11, nI01, bo_e1, nem, eqL, af_v, af_0, rf_s, rf_n, nn, ite_self, ly9, p9_0, ly11, p11_0, ly12, al12, leN, c1, mulN, addN, Nat.mul_comm i 6, c_bwb WA9 hR' hB hi (show j < 6 by omega) ha hb, sm_cl]
theorem c_twb_out (hB : ∀ a b, D a b ≤ 1000000) (ha : a < 6) (hb : b < 6) (hR : RW (I 10) D) : ∀ (g i : Nat), i + g = 6 → ∀ (J : sm_Im) (l5 : Option Value), (∀ c, c ≠ 12 → J c = I c) → (∀ k, k < 6 * i → J 12 k = nI (bd D a b (k / 6) (k % 6))) → ∃ J1 : sm_Im, (∀ c, c ≠ 12 → J1 c = I c) ∧ (∀ k, k < 36 → J1 12 k = nI (bd D a b (k / 6) (k % 6))) ∧ sm_at (sm_ex (d + 3)) none 89 3 [some (.ref 11), some (.ref 9), some (.int (nI a)), some (.int (nI b)), some (.int (nI i)), l5] [] 81 J L (pX sw) = some (none, 81, J1, L, pX sw) := by
  intro g
  induction g with
  | zero =>
    intro i hi J l5 hJ hn
    obtain rfl : i = 6 := by omega
    refine ⟨J, hJ, fun k hk => hn k (by omega), ?_⟩
    rw [s89_3]
    simp only [s89_0, s89_1, s89_5, s89_7, s89_10, s89_11, s89_15, s89_17, s89_20, s89_21, s89_24, s89_26, s89_28, s89_29, s89_31, s89_32, s89_32n, s89_33, s89_35, s89_37, s89_38, s89_39, s89_42, s89_43, s89_46, s89_49, s89_52, s89_55, ltI, geL, leL, not_true_eq_false, not_false_eq_true, if_true, if_false, and_self, and_true, true_and, and_false, false_and, or_self, or_true, true_or, or_false, false_or, bo_T, bo_F, bo_e0, nI10, nI00, nI11, nI01, bo_e1, nem, eqL, af_v, af_0, rf_s, rf_n, nn, ite_self, Int32.le_refl]
  | succ g ih =>
    intro i hi J l5 hJ hn
    have c1 : ¬ 6 ≤ i := by omega
    obtain ⟨J0, k1, k2, k3⟩ := c_twb_in (d := d) (L := L) (sw := sw) hB ha hb (show i < 6 by omega) hR 6 0 rfl J hJ hn
    obtain ⟨J1, h1, h2, h3⟩ := ih (i + 1) (by omega) J0 (some (.int (nI 6))) k1 k2
    refine ⟨J1, h1, h2, ?_⟩
    rw [← h3, ← k3, s89_3]
    simp (discharger := first | assumption | omega | decide) only [s89_0, s89_1, s89_5, s89_7, s89_10, s89_11, s89_15, s89_17, s89_20, s89_21, s89_24, s89_26, s89_28, s89_29, s89_31, s89_32, s89_32n, s89_33, s89_35, s89_37, s89_38, s89_39, s89_42, s89_43, s89_46, s89_49, s89_52, s89_55, ltI, geL, leL, not_true_eq_false, not_false_eq_true, if_true, if_false, and_self, and_true, true_and, and_false, false_and, or_self, or_true, true_or, or_false, false_or, bo_T, bo_F, bo_e0, nI10, nI00, nI11, nI01, bo_e1, nem, eqL, af_v, af_0, rf_s, rf_n, nn, ite_self, leN, c1, sm_cl]
theorem c_twb (hB : ∀ a b, D a b ≤ 1000000) (ha : a < 6) (hb : b < 6) (hR : RW (I 10) D) : ∃ J1 : sm_Im, (∀ c, c ≠ 12 → J1 c = I c) ∧ RW (J1 12) (bd D a b) ∧ sm_ex (d + 4) 89 [.ref 11, .ref 9, .int (nI a), .int (nI b)] 81 I L (pX sw) = some (none, 81, J1, L, pX sw) := by
  obtain ⟨J1, h1, h2, h3⟩ := c_twb_out (d := d) (L := L) (sw := sw) hB ha hb hR 6 0 rfl I none (fun c _ => rfl) (fun k hk => by omega)
  refine ⟨J1, h1, fun i j hi hj => ?_, ?_⟩
  · have := h2 (6 * i + j) (by omega)
    rw [show (6 * i + j) / 6 = i by omega, show (6 * i + j) % 6 = j by omega] at this
    exact this
  · rw [← h3, e89]
    simp only [s89_0, s89_1, s89_5, s89_7, s89_10, s89_11, s89_15, s89_17, s89_20, s89_21, s89_24, s89_26, s89_28, s89_29, s89_31, s89_32, s89_32n, s89_33, s89_35, s89_37, s89_38, s89_39, s89_42, s89_43, s89_46, s89_49, s89_52, s89_55, ltI, geL, leL, not_true_eq_false, not_false_eq_true, if_true, if_false, and_self, and_true, true_and, and_false, false_and, or_self, or_true, true_or, or_false, false_or, bo_T, bo_F, bo_e0, nI10, nI00, nI11, nI01, bo_e1, nem, eqL, af_v, af_0, rf_s, rf_n, nn, ite_self, sm_cl]
end KP
