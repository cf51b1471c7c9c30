section W2
variable {d N : Nat} {I J : sm_Im} {L : sm_Lm} {P : sm_Pm} {sw : Bool} {x y z u v : Int32} {a b m n q j p k c s w o : Nat} {f : Nat → Int32} {D : Mx}
def WA (w : Nat) : Prop := w < 81 ∧ sm_lay w = .inl 9 ∧ (∀ sw, pX sw w 0 = some (w + 1)) ∧ w + 1 < 81 ∧ sm_al (w + 1) = 36
theorem sm_lay_al {a : Nat} (h : 0 < sm_al a) : sm_lay a = .inr (.inl (sm_al a)) := sm_al_lay h
theorem WA9 : WA 9 := ⟨by decide, rfl, fun sw => p9_0, by decide, rfl⟩
theorem WA11 : WA 11 := ⟨by decide, rfl, fun sw => p11_0, by decide, rfl⟩
theorem minN (hm : m < 2147483648) (hq : q < 2147483648) : (if nI m ≤ nI q then nI m else nI q) = nI (min m q) := by
  rw [show (if nI m ≤ nI q then nI m else nI q) = if m ≤ q then nI m else nI q from by simp only [leN hm hq]]
  by_cases h : m ≤ q
  · rw [if_pos h, Nat.min_eq_left h]
  · rw [if_neg h, Nat.min_eq_right (by omega)]
theorem c_between (A : WA w) (ha : a < 6) (hb : b < 6) : sm_ex (d + 2) 84 [.ref w, .int (nI a), .int (nI b)] 81 I L (pX sw) = some (some (.int (I (w + 1) (6 * a + b))), 81, I, L, pX sw) := by
  obtain ⟨A1, A2, A3, A4, A5⟩ := A
  rw [e84]
  simp (discharger := first | assumption | omega | decide) only [s84_0, s84_1, s84_4, s84_7, s84_8, s84_11, s84_14, s84_15, s84_18, s84_19, s84_21, s84_22, s84_23, s84_24, s84_25, s84_28, s84_30, ltI, geL, leL, not_true_eq_false, not_false_eq_true, if_true, if_false, and_self, and_true, true_and, and_false, false_and, or_self, or_true, true_or, or_false, false_or, bo_T, bo_F, bo_e0, nI10, nI00, nI11, nI01, bo_e1, nem, eqL, af_v, af_0, rf_s, rf_n, nn, ite_self, h_isTown, ixt, A3, mulN, addN, Nat.mul_comm a 6]
theorem c_shorten (A : WA w) (ha : a < 6) (hb : b < 6) (h : I (w + 1) (6 * a + b) = nI m) (hm : m < 2147483648) (hq : q < 2147483648) : sm_ex (d + 2) 86 [.ref w, .int (nI a), .int (nI b), .int (nI q)] 81 I L (pX sw) = some (none, 81, sm_up I (w + 1) (6 * a + b) (nI (min m q)), L, pX sw) := by
  obtain ⟨A1, A2, A3, A4, A5⟩ := A
  rw [e86]
  simp (discharger := first | assumption | omega | decide) only [s86_0, s86_1, s86_4, s86_7, s86_8, s86_11, s86_14, s86_15, s86_16, s86_18, s86_19, s86_20, s86_21, s86_23, s86_24, s86_27, s86_29, s86_30, s86_33, s86_35, s86_36, s86_37, s86_40, s86_41, ltI, geL, leL, not_true_eq_false, not_false_eq_true, if_true, if_false, and_self, and_true, true_and, and_false, false_and, or_self, or_true, true_or, or_false, false_or, bo_T, bo_F, bo_e0, nI10, nI00, nI11, nI01, bo_e1, nem, eqL, af_v, af_0, rf_s, rf_n, nn, ite_self, h_isTown, ixt, A3, mulN, addN, Nat.mul_comm a 6, sm_cl, j_min, h, minN hm hq]
def RW (f : Nat → Int32) (D : Mx) : Prop := ∀ i j, i < 6 → j < 6 → f (6 * i + j) = nI (D i j)
def RWm (f : Nat → Int32) (D : Mx) (k a b : Nat) : Prop := ∀ i j, i < 6 → j < 6 → f (6 * i + j) = nI (if i < a ∨ (i = a ∧ j < b) then stg D k i j else D i j)
theorem RWm_0 (h : RW f D) : RWm f D k 0 0 := fun i j hi hj => by rw [if_neg (by omega)]; exact h i j hi hj
theorem RWm_next (h : RWm f D k a 6) : RWm f D k (a + 1) 0 := fun i j hi hj => by
  rw [h i j hi hj]
  by_cases e : i < a + 1
  · rw [if_pos (by omega), if_pos (by omega)]
  · rw [if_neg (by omega), if_neg (by omega)]
theorem RWm_end (h : RWm f D k 6 0) : RW f (stg D k) := fun i j hi hj => by rw [h i j hi hj, if_pos (by omega)]
theorem RWm_up (h : RWm (J c) D k a b) (ha : a < 6) (hb : b < 6) : RWm (sm_up J c (6 * a + b) (nI (stg D k a b)) c) D k a (b + 1) := fun i j hi hj => by
  rw [up_at]
  by_cases e : i = a ∧ j = b
  · rw [if_pos (by omega), if_pos (by omega), e.1, e.2]
  · rw [if_neg (by omega), h i j hi hj]
    by_cases e2 : i < a ∨ (i = a ∧ j < b)
    · rw [if_pos e2, if_pos (by omega)]
    · rw [if_neg e2, if_neg (by omega)]
theorem RWm_r1 (dk : D k k = 0) (h : RWm f D k a b) (hp : p < 6) (hk : k < 6) : f (6 * p + k) = nI (D p k) := by
  rw [h p k hp hk]
  by_cases e : p < a ∨ (p = a ∧ k < b)
  · rw [if_pos e]; unfold stg; rw [dk]; congr 1; omega
  · rw [if_neg e]
theorem RWm_r2 (dk : D k k = 0) (h : RWm f D k a b) (hp : p < 6) (hk : k < 6) : f (6 * k + p) = nI (D k p) := by
  rw [h k p hk hp]
  by_cases e : k < a ∨ (k = a ∧ p < b)
  · rw [if_pos e]; unfold stg; rw [dk]; congr 1; omega
  · rw [if_neg e]
theorem RWm_cur (h : RWm f D k a b) (ha : a < 6) (hb : b < 6) : f (6 * a + b) = nI (D a b) := by rw [h a b ha hb, if_neg (by omega)]
theorem RWm_skip (h : RWm f D k a 0) (ha : a < 6) (e : ∀ j, j < 6 → stg D k a j = D a j) : RWm f D k (a + 1) 0 := fun i j hi hj => by
  rw [h i j hi hj]
  by_cases e1 : i < a
  · rw [if_pos (by omega), if_pos (by omega)]
  · by_cases e2 : i = a
    · rw [if_neg (by omega), if_pos (by omega), e2, e j hj]
    · rw [if_neg (by omega), if_neg (by omega)]
theorem c_jt_loop (A : WA w) (hk : k < 6) (ha : a < 6) (dk : D k k = 0) (hB : ∀ i j, D i j ≤ 1000000) : ∀ (g b : Nat), b + g = 6 → ∀ J : sm_Im, (∀ c, c ≠ w + 1 → J c = I c) → RWm (J (w + 1)) D k a b → ∃ J1 : sm_Im, (∀ c, c ≠ w + 1 → J1 c = I c) ∧ RWm (J1 (w + 1)) D k a 6 ∧ sm_at (sm_ex (d + 2)) none 88 16 [some (.ref w), some (.int (nI k)), some (.int (nI a)), some (.int (nI (D a k))), some (.int (nI b))] [] 81 J L (pX sw) = some (none, 81, J1, L, pX sw) := by
  have A1 := A.1
  have A2 := A.2.1
  intro g
  induction g with
  | zero =>
    intro b hb J hJ hR
    obtain rfl : b = 6 := by omega
    refine ⟨J, hJ, hR, ?_⟩
    rw [s88_16]
    simp only [s88_0, s88_1, s88_2, s88_3, s88_6, s88_7, s88_8, s88_10, s88_13, s88_14, s88_18, s88_20, s88_23, s88_24, s88_25, s88_27, s88_28, s88_29, s88_30, s88_32, s88_35, s88_36, s88_39, s88_42, s88_45, ltI, geL, leL, not_true_eq_false, not_false_eq_true, if_true, if_false, and_self, and_true, true_and, and_false, false_and, or_self, or_true, true_or, or_false, false_or, bo_T, bo_F, bo_e0, nI10, nI00, nI11, nI01, bo_e1, nem, eqL, af_v, af_0, rf_s, rf_n, nn, ite_self, Int32.le_refl]
  | succ g ih =>
    intro b hb J hJ hR
    have c1 : ¬ 6 ≤ b := by omega
    have b1 := hB a k
    have b2 := hB k b
    have b3 := hB a b
    obtain ⟨J1, h1, h2, h3⟩ := ih (b + 1) (by omega) (sm_up J (w + 1) (6 * a + b) (nI (stg D k a b))) (fun c hc => by rw [up_row hc]; exact hJ c hc) (RWm_up hR ha (by omega))
    refine ⟨J1, h1, h2, ?_⟩
    rw [← h3, s88_16]
    have hcur := RWm_cur hR ha (show b < 6 by omega)
    have hr2 := RWm_r2 dk hR (show b < 6 by omega) hk
    have hs : sm_ex (d + 2) 86 [.ref w, .int (nI a), .int (nI b), .int (nI (D a k + D k b))] 81 J L (pX sw) = _ := c_shorten A ha (by omega) hcur (by omega) (by omega)
    simp (discharger := first | assumption | omega | decide) only [s88_0, s88_1, s88_2, s88_3, s88_6, s88_7, s88_8, s88_10, s88_13, s88_14, s88_18, s88_20, s88_23, s88_24, s88_25, s88_27, s88_28, s88_29, s88_30, s88_32, s88_35, s88_36, s88_39, s88_42, s88_45, ltI, geL, leL, not_true_eq_false, not_false_eq_true, if_true, if_false, and_self, and_true, true_and, and_false, false_and, or_self, or_true, true_or, or_false, false_or, bo_T, bo_F, bo_e0, nI10, nI00, nI11, nI01, bo_e1, nem, eqL, af_v, af_0, rf_s, rf_n, nn, ite_self, leN, c1, c_between A hk (show b < 6 by omega), hr2, addN, hs, sm_cl]
    rfl
theorem c_joinThrough (A : WA w) (hk : k < 6) (ha : a < 6) (dk : D k k = 0) (hB : ∀ i j, i < 6 → j < 6 → D i j ≤ 100000) (hB2 : ∀ i j, D i j ≤ 1000000) (hR : RWm (I (w + 1)) D k a 0) : ∃ J1 : sm_Im, (∀ c, c ≠ w + 1 → J1 c = I c) ∧ RWm (J1 (w + 1)) D k (a + 1) 0 ∧ sm_ex (d + 3) 88 [.ref w, .int (nI k), .int (nI a)] 81 I L (pX sw) = some (none, 81, J1, L, pX sw) := by
  have A1 := A.1
  have A2 := A.2.1
  have hr1 := RWm_r1 dk hR ha hk
  have b1 := hB a k ha hk
  by_cases c : 100000 ≤ D a k
  · refine ⟨I, fun c _ => rfl, RWm_skip hR ha (fun j hj => ?_), ?_⟩
    · have := hB a j ha hj
      unfold stg
      omega
    · rw [e88]
      simp (discharger := first | assumption | omega | decide) only [s88_0, s88_1, s88_2, s88_3, s88_6, s88_7, s88_8, s88_10, s88_13, s88_14, s88_18, s88_20, s88_23, s88_24, s88_25, s88_27, s88_28, s88_29, s88_30, s88_32, s88_35, s88_36, s88_39, s88_42, s88_45, ltI, geL, leL, not_true_eq_false, not_false_eq_true, if_true, if_false, and_self, and_true, true_and, and_false, false_and, or_self, or_true, true_or, or_false, false_or, bo_T, bo_F, bo_e0, nI10, nI00, nI11, nI01, bo_e1, nem, eqL, af_v, af_0, rf_s, rf_n, nn, ite_self, c_between A ha hk, hr1, leN, c, sm_cl]
  · obtain ⟨J1, h1, h2, h3⟩ := c_jt_loop (d := d) (L := L) (sw := sw) A hk ha dk hB2 6 0 rfl I (fun c _ => rfl) hR
    refine ⟨J1, h1, RWm_next h2, ?_⟩
    rw [← h3, e88]
    simp (discharger := first | assumption | omega | decide) only [s88_0, s88_1, s88_2, s88_3, s88_6, s88_7, s88_8, s88_10, s88_13, s88_14, s88_18, s88_20, s88_23, s88_24, s88_25, s88_27, s88_28, s88_29, s88_30, s88_32, s88_35, s88_36, s88_39, s88_42, s88_45, ltI, geL, leL, not_true_eq_false, not_false_eq_true, if_true, if_false, and_self, and_true, true_and, and_false, false_and, or_self, or_true, true_or, or_false, false_or, bo_T, bo_F, bo_e0, nI10, nI00, nI11, nI01, bo_e1, nem, eqL, af_v, af_0, rf_s, rf_n, nn, ite_self, c_between A ha hk, hr1, leN, c, sm_cl]
theorem c_jw_in (A : WA w) (hk : k < 6) (dk : D k k = 0) (hB : ∀ i j, i < 6 → j < 6 → D i j ≤ 100000) (hB2 : ∀ i j, D i j ≤ 1000000) : ∀ (g a : Nat), a + g = 6 → ∀ J : sm_Im, (∀ c, c ≠ w + 1 → J c = I c) → RWm (J (w + 1)) D k a 0 → ∃ J1 : sm_Im, (∀ c, c ≠ w + 1 → J1 c = I c) ∧ RWm (J1 (w + 1)) D k 6 0 ∧ sm_at (sm_ex (d + 3)) none 87 10 [some (.ref w), some (.int (nI k)), some (.int (nI a))] [] 81 J L (pX sw) = sm_at (sm_ex (d + 3)) none 87 2 [some (.ref w), some (.int (nI (k + 1))), some (.int (nI 6))] [] 81 J1 L (pX sw) := by
  have A1 := A.1
  have A2 := A.2.1
  intro g
  induction g with
  | zero =>
    intro a ha J hJ hR
    obtain rfl : a = 6 := by omega
    refine ⟨J, hJ, hR, ?_⟩
    rw [s87_10]
    simp only [s87_0, s87_1, s87_3, s87_5, s87_8, s87_9, s87_11, s87_13, s87_16, s87_17, s87_18, s87_19, s87_22, s87_25, s87_28, s87_31, s87_34, ltI, geL, leL, not_true_eq_false, not_false_eq_true, if_true, if_false, and_self, and_true, true_and, and_false, false_and, or_self, or_true, true_or, or_false, false_or, bo_T, bo_F, bo_e0, nI10, nI00, nI11, nI01, bo_e1, nem, eqL, af_v, af_0, rf_s, rf_n, nn, ite_self, Int32.le_refl, addN, sm_cl]
  | succ g ih =>
    intro a ha J hJ hR
    have c1 : ¬ 6 ≤ a := by omega
    obtain ⟨J0, k1, k2, k3⟩ := c_joinThrough (d := d) (L := L) (sw := sw) A hk (show a < 6 by omega) dk hB hB2 hR
    obtain ⟨J1, h1, h2, h3⟩ := ih (a + 1) (by omega) J0 (fun c hc => by rw [k1 c hc]; exact hJ c hc) k2
    refine ⟨J1, h1, h2, ?_⟩
    rw [← h3, s87_10]
    simp (discharger := first | assumption | omega | decide) only [s87_0, s87_1, s87_3, s87_5, s87_8, s87_9, s87_11, s87_13, s87_16, s87_17, s87_18, s87_19, s87_22, s87_25, s87_28, s87_31, s87_34, ltI, geL, leL, not_true_eq_false, not_false_eq_true, if_true, if_false, and_self, and_true, true_and, and_false, false_and, or_self, or_true, true_or, or_false, false_or, bo_T, bo_F, bo_e0, nI10, nI00, nI11, nI01, bo_e1, nem, eqL, af_v, af_0, rf_s, rf_n, nn, ite_self, leN, c1, k3, addN, sm_cl]
theorem c_jw_out (A : WA w) (hd : ∀ a, a < 6 → D a a = 0) (hB : ∀ i j, D i j ≤ 100000) : ∀ (g k : Nat), k + g = 6 → ∀ (J : sm_Im) (l2 : Option Value), (∀ c, c ≠ w + 1 → J c = I c) → RW (J (w + 1)) (fw D k) → ∃ J1 : sm_Im, (∀ c, c ≠ w + 1 → J1 c = I c) ∧ RW (J1 (w + 1)) (fw D 6) ∧ sm_at (sm_ex (d + 3)) none 87 2 [some (.ref w), some (.int (nI k)), l2] [] 81 J L (pX sw) = some (none, 81, J1, L, pX sw) := by
  have A1 := A.1
  have A2 := A.2.1
  intro g
  induction g with
  | zero =>
    intro k hk J l2 hJ hR
    obtain rfl : k = 6 := by omega
    refine ⟨J, hJ, hR, ?_⟩
    rw [s87_2]
    simp only [s87_0, s87_1, s87_3, s87_5, s87_8, s87_9, s87_11, s87_13, s87_16, s87_17, s87_18, s87_19, s87_22, s87_25, s87_28, s87_31, s87_34, ltI, geL, leL, not_true_eq_false, not_false_eq_true, if_true, if_false, and_self, and_true, true_and, and_false, false_and, or_self, or_true, true_or, or_false, false_or, bo_T, bo_F, bo_e0, nI10, nI00, nI11, nI01, bo_e1, nem, eqL, af_v, af_0, rf_s, rf_n, nn, ite_self, Int32.le_refl]
  | succ g ih =>
    intro k hk J l2 hJ hR
    have c1 : ¬ 6 ≤ k := by omega
    obtain ⟨J0, k1, k2, k3⟩ := c_jw_in (d := d) (L := L) (sw := sw) (I := I) A (show k < 6 by omega) (fw_d hd k k (by omega)) (fun i j _ _ => Nat.le_trans (fw_le k i j) (hB i j)) (fun i j => Nat.le_trans (fw_le k i j) (Nat.le_trans (hB i j) (by decide))) 6 0 rfl J hJ (RWm_0 hR)
    obtain ⟨J1, h1, h2, h3⟩ := ih (k + 1) (by omega) J0 (some (.int (nI 6))) k1 (RWm_end k2)
    refine ⟨J1, h1, h2, ?_⟩
    rw [← h3, ← k3, s87_2]
    simp (discharger := first | assumption | omega | decide) only [s87_0, s87_1, s87_3, s87_5, s87_8, s87_9, s87_11, s87_13, s87_16, s87_17, s87_18, s87_19, s87_22, s87_25, s87_28, s87_31, s87_34, ltI, geL, leL, not_true_eq_false, not_false_eq_true, if_true, if_false, and_self, and_true, true_and, and_false, false_and, or_self, or_true, true_or, or_false, false_or, bo_T, bo_F, bo_e0, nI10, nI00, nI11, nI01, bo_e1, nem, eqL, af_v, af_0, rf_s, rf_n, nn, ite_self, leN, c1, sm_cl]
theorem c_joinWays (A : WA w) (hd : ∀ a, a < 6 → D a a = 0) (hB : ∀ i j, D i j ≤ 100000) (hR : RW (I (w + 1)) D) : ∃ J1 : sm_Im, (∀ c, c ≠ w + 1 → J1 c = I c) ∧ RW (J1 (w + 1)) (fw D 6) ∧ sm_ex (d + 4) 87 [.ref w] 81 I L (pX sw) = some (none, 81, J1, L, pX sw) := by
  obtain ⟨J1, h1, h2, h3⟩ := c_jw_out (d := d) (L := L) (sw := sw) (I := I) A hd hB 6 0 rfl I none (fun c _ => rfl) hR
  refine ⟨J1, h1, h2, ?_⟩
  rw [← h3, e87]
  simp only [s87_0, s87_1, s87_3, s87_5, s87_8, s87_9, s87_11, s87_13, s87_16, s87_17, s87_18, s87_19, s87_22, s87_25, s87_28, s87_31, s87_34, ltI, geL, leL, not_true_eq_false, not_false_eq_true, if_true, if_false, and_self, and_true, true_and, and_false, false_and, or_self, or_true, true_or, or_false, false_or, bo_T, bo_F, bo_e0, nI10, nI00, nI11, nI01, bo_e1, nem, eqL, af_v, af_0, rf_s, rf_n, nn, ite_self, sm_cl]
/-- the reference -/
theorem m_mayCome (ha : a < 6) (hb : b < 6) (h : I 71 (6 * a + b) = nI m) (hm : m < 2147483648) (hq : q < 2147483648) : sm_ex (d + 1) 177 [.ref 63, .int (nI a), .int (nI b), .int (nI q)] 81 I L (pX sw) = some (none, 81, sm_up I 71 (6 * a + b) (nI (min m q)), L, pX sw) := by
  rw [e177]
  by_cases c : m ≤ q
  · rw [Nat.min_eq_left c]
    simp (discharger := (first | omega | decide | assumption | exact rg_lt | exact rg_ly | (simp only [ly63, p63_0, p63_1, p63_2, p63_7, p63_10, p63_11, p63_13, p63_14, p63_16, p63_18, p63_22, p63_23, p63_24, p63_30, p63_31, p63_32, p63_33, ly71, al71]; omega))) only [s177_0, s177_1, s177_4, s177_6, s177_7, s177_8, s177_9, s177_10, s177_11, s177_12, s177_15, s177_17, s177_18, s177_19, s177_20, s177_21, s177_22, s177_25, s177_26, s177_29, s177_30, s177_33, s177_35, s177_36, s177_37, s177_38, s177_39, s177_40, s177_41, ltI, geL, leL, not_true_eq_false, not_false_eq_true, if_true, if_false, and_self, and_true, true_and, and_false, false_and, or_self, or_true, true_or, or_false, false_or, bo_T, bo_F, bo_e0, nI10, nI00, nI11, nI01, bo_e1, nem, eqL, af_v, af_0, rf_s, rf_n, nn, ite_self, ly63, p63_0, p63_1, p63_2, p63_7, p63_10, p63_11, p63_13, p63_14, p63_16, p63_18, p63_22, p63_23, p63_24, p63_30, p63_31, p63_32, p63_33, ly71, al71, mulN, addN, h, leN, c]
  · rw [Nat.min_eq_right (by omega)]
    simp (discharger := (first | omega | decide | assumption | exact rg_lt | exact rg_ly | (simp only [ly63, p63_0, p63_1, p63_2, p63_7, p63_10, p63_11, p63_13, p63_14, p63_16, p63_18, p63_22, p63_23, p63_24, p63_30, p63_31, p63_32, p63_33, ly71, al71]; omega))) only [s177_0, s177_1, s177_4, s177_6, s177_7, s177_8, s177_9, s177_10, s177_11, s177_12, s177_15, s177_17, s177_18, s177_19, s177_20, s177_21, s177_22, s177_25, s177_26, s177_29, s177_30, s177_33, s177_35, s177_36, s177_37, s177_38, s177_39, s177_40, s177_41, ltI, geL, leL, not_true_eq_false, not_false_eq_true, if_true, if_false, and_self, and_true, true_and, and_false, false_and, or_self, or_true, true_or, or_false, false_or, bo_T, bo_F, bo_e0, nI10, nI00, nI11, nI01, bo_e1, nem, eqL, af_v, af_0, rf_s, rf_n, nn, ite_self, ly63, p63_0, p63_1, p63_2, p63_7, p63_10, p63_11, p63_13, p63_14, p63_16, p63_18, p63_22, p63_23, p63_24, p63_30, p63_31, p63_32, p63_33, ly71, al71, mulN, addN, h, leN, c]
theorem m_cw_b (hk : k < 6) (ha : a < 6) (dk : D k k = 0) (hB : ∀ i j, D i j ≤ 1000000) : ∀ (g b : Nat), b + g = 6 → ∀ J : sm_Im, (∀ c, c ≠ 71 → J c = I c) → RWm (J 71) D k a b → ∃ J1 : sm_Im, (∀ c, c ≠ 71 → J1 c = I c) ∧ RWm (J1 71) D k a 6 ∧ sm_at (sm_ex (d + 1)) none 180 18 [some (.ref 63), some (.int (nI k)), some (.int (nI a)), some (.int (nI b))] [] 81 J L (pX sw) = sm_at (sm_ex (d + 1)) none 180 10 [some (.ref 63), some (.int (nI k)), some (.int (nI (a + 1))), some (.int (nI 6))] [] 81 J1 L (pX sw) := by
  intro g
  induction g with
  | zero =>
    intro b hb J hJ hR
    obtain rfl : b = 6 := by omega
    refine ⟨J, hJ, hR, ?_⟩
    rw [s180_18]
    simp only [s180_0, s180_1, s180_3, s180_5, s180_8, s180_9, s180_11, s180_13, s180_16, s180_17, s180_19, s180_21, s180_24, s180_25, s180_26, s180_27, s180_28, s180_31, s180_33, s180_34, s180_35, s180_36, s180_37, s180_38, s180_39, s180_42, s180_44, s180_45, s180_46, s180_47, s180_48, s180_49, s180_50, s180_53, s180_56, s180_59, s180_62, s180_65, s180_68, s180_71, ltI, geL, leL, not_true_eq_false, not_false_eq_true, if_true, if_false, and_self, and_true, true_and, and_false, false_and, or_self, or_true, true_or, or_false, false_or, bo_T, bo_F, bo_e0, nI10, nI00, nI11, nI01, bo_e1, nem, eqL, af_v, af_0, rf_s, rf_n, nn, ite_self, Int32.le_refl, addN, sm_cl]
  | succ g ih =>
    intro b hb J hJ hR
    have c1 : ¬ 6 ≤ b := by omega
    have b1 := hB a k
    have b2 := hB k b
    have b3 := hB a b
    obtain ⟨J1, h1, h2, h3⟩ := ih (b + 1) (by omega) (sm_up J 71 (6 * a + b) (nI (stg D k a b))) (fun c hc => by rw [up_row hc]; exact hJ c hc) (RWm_up hR ha (by omega))
    refine ⟨J1, h1, h2, ?_⟩
    rw [← h3, s180_18]
    have hcur := RWm_cur hR ha (show b < 6 by omega)
    have hr2 := RWm_r2 dk hR (show b < 6 by omega) hk
    have hr1 := RWm_r1 dk hR ha hk
    have hs : sm_ex (d + 1) 177 [.ref 63, .int (nI a), .int (nI b), .int (nI (D a k + D k b))] 81 J L (pX sw) = _ := m_mayCome ha (by omega) hcur (by omega) (by omega)
    simp (discharger := (first | omega | decide | assumption | exact rg_lt | exact rg_ly | (simp only [ly63, p63_0, p63_1, p63_2, p63_7, p63_10, p63_11, p63_13, p63_14, p63_16, p63_18, p63_22, p63_23, p63_24, p63_30, p63_31, p63_32, p63_33, ly71, al71]; omega))) only [s180_0, s180_1, s180_3, s180_5, s180_8, s180_9, s180_11, s180_13, s180_16, s180_17, s180_19, s180_21, s180_24, s180_25, s180_26, s180_27, s180_28, s180_31, s180_33, s180_34, s180_35, s180_36, s180_37, s180_38, s180_39, s180_42, s180_44, s180_45, s180_46, s180_47, s180_48, s180_49, s180_50, s180_53, s180_56, s180_59, s180_62, s180_65, s180_68, s180_71, ltI, geL, leL, not_true_eq_false, not_false_eq_true, if_true, if_false, and_self, and_true, true_and, and_false, false_and, or_self, or_true, true_or, or_false, false_or, bo_T, bo_F, bo_e0, nI10, nI00, nI11, nI01, bo_e1, nem, eqL, af_v, af_0, rf_s, rf_n, nn, ite_self, ly63, p63_0, p63_1, p63_2, p63_7, p63_10, p63_11, p63_13, p63_14, p63_16, p63_18, p63_22, p63_23, p63_24, p63_30, p63_31, p63_32, p63_33, ly71, al71, leN, c1, mulN, addN, hr1, hr2, hs, sm_cl]
    rfl
theorem m_cw_a (hk : k < 6) (dk : D k k = 0) (hB : ∀ i j, D i j ≤ 1000000) : ∀ (g a : Nat), a + g = 6 → ∀ (J : sm_Im) (l3 : Option Value), (∀ c, c ≠ 71 → J c = I c) → RWm (J 71) D k a 0 → ∃ J1 : sm_Im, ∃ l3' : Option Value, (∀ c, c ≠ 71 → J1 c = I c) ∧ RWm (J1 71) D k 6 0 ∧ sm_at (sm_ex (d + 1)) none 180 10 [some (.ref 63), some (.int (nI k)), some (.int (nI a)), l3] [] 81 J L (pX sw) = sm_at (sm_ex (d + 1)) none 180 2 [some (.ref 63), some (.int (nI (k + 1))), some (.int (nI 6)), l3'] [] 81 J1 L (pX sw) := by
  intro g
  induction g with
  | zero =>
    intro a ha J l3 hJ hR
    obtain rfl : a = 6 := by omega
    refine ⟨J, l3, hJ, hR, ?_⟩
    rw [s180_10]
    simp only [s180_0, s180_1, s180_3, s180_5, s180_8, s180_9, s180_11, s180_13, s180_16, s180_17, s180_19, s180_21, s180_24, s180_25, s180_26, s180_27, s180_28, s180_31, s180_33, s180_34, s180_35, s180_36, s180_37, s180_38, s180_39, s180_42, s180_44, s180_45, s180_46, s180_47, s180_48, s180_49, s180_50, s180_53, s180_56, s180_59, s180_62, s180_65, s180_68, s180_71, ltI, geL, leL, not_true_eq_false, not_false_eq_true, if_true, if_false, and_self, and_true, true_and, and_false, false_and, or_self, or_true, true_or, or_false, false_or, bo_T, bo_F, bo_e0, nI10, nI00, nI11, nI01, bo_e1, nem, eqL, af_v, af_0, rf_s, rf_n, nn, ite_self, Int32.le_refl, addN, sm_cl]
  | succ g ih =>
    intro a ha J l3 hJ hR
    have c1 : ¬ 6 ≤ a := by omega
    obtain ⟨J0, k1, k2, k3⟩ := m_cw_b (d := d) (L := L) (sw := sw) (I := I) hk (show a < 6 by omega) dk hB 6 0 rfl J hJ hR
    obtain ⟨J1, l4, h1, h2, h3⟩ := ih (a + 1) (by omega) J0 (some (.int (nI 6))) k1 (RWm_next k2)
    refine ⟨J1, l4, h1, h2, ?_⟩
    rw [← h3, ← k3, s180_10]
    simp (discharger := (first | omega | decide | assumption | exact rg_lt | exact rg_ly | (simp only [ly63, p63_0, p63_1, p63_2, p63_7, p63_10, p63_11, p63_13, p63_14, p63_16, p63_18, p63_22, p63_23, p63_24, p63_30, p63_31, p63_32, p63_33]; omega))) only [s180_0, s180_1, s180_3, s180_5, s180_8, s180_9, s180_11, s180_13, s180_16, s180_17, s180_19, s180_21, s180_24, s180_25, s180_26, s180_27, s180_28, s180_31, s180_33, s180_34, s180_35, s180_36, s180_37, s180_38, s180_39, s180_42, s180_44, s180_45, s180_46, s180_47, s180_48, s180_49, s180_50, s180_53, s180_56, s180_59, s180_62, s180_65, s180_68, s180_71, ltI, geL, leL, not_true_eq_false, not_false_eq_true, if_true, if_false, and_self, and_true, true_and, and_false, false_and, or_self, or_true, true_or, or_false, false_or, bo_T, bo_F, bo_e0, nI10, nI00, nI11, nI01, bo_e1, nem, eqL, af_v, af_0, rf_s, rf_n, nn, ite_self, leN, c1, sm_cl]
theorem m_cw_k (hd : ∀ a, a < 6 → D a a = 0) (hB : ∀ i j, D i j ≤ 1000000) : ∀ (g k : Nat), k + g = 6 → ∀ (J : sm_Im) (l2 l3 : Option Value), (∀ c, c ≠ 71 → J c = I c) → RW (J 71) (fw D k) → ∃ J1 : sm_Im, (∀ c, c ≠ 71 → J1 c = I c) ∧ RW (J1 71) (fw D 6) ∧ sm_at (sm_ex (d + 1)) none 180 2 [some (.ref 63), some (.int (nI k)), l2, l3] [] 81 J L (pX sw) = some (none, 81, J1, L, pX sw) := by
  intro g
  induction g with
  | zero =>
    intro k hk J l2 l3 hJ hR
    obtain rfl : k = 6 := by omega
    refine ⟨J, hJ, hR, ?_⟩
    rw [s180_2]
    simp only [s180_0, s180_1, s180_3, s180_5, s180_8, s180_9, s180_11, s180_13, s180_16, s180_17, s180_19, s180_21, s180_24, s180_25, s180_26, s180_27, s180_28, s180_31, s180_33, s180_34, s180_35, s180_36, s180_37, s180_38, s180_39, s180_42, s180_44, s180_45, s180_46, s180_47, s180_48, s180_49, s180_50, s180_53, s180_56, s180_59, s180_62, s180_65, s180_68, s180_71, ltI, geL, leL, not_true_eq_false, not_false_eq_true, if_true, if_false, and_self, and_true, true_and, and_false, false_and, or_self, or_true, true_or, or_false, false_or, bo_T, bo_F, bo_e0, nI10, nI00, nI11, nI01, bo_e1, nem, eqL, af_v, af_0, rf_s, rf_n, nn, ite_self, Int32.le_refl]
  | succ g ih =>
    intro k hk J l2 l3 hJ hR
    have c1 : ¬ 6 ≤ k := by omega
    obtain ⟨J0, l4, k1, k2, k3⟩ := m_cw_a (d := d) (L := L) (sw := sw) (I := I) (show k < 6 by omega) (fw_d hd k k (by omega)) (fun i j => Nat.le_trans (fw_le k i j) (hB i j)) 6 0 rfl J l3 hJ (RWm_0 hR)
    obtain ⟨J1, h1, h2, h3⟩ := ih (k + 1) (by omega) J0 (some (.int (nI 6))) l4 k1 (RWm_end k2)
    refine ⟨J1, h1, h2, ?_⟩
    rw [← h3, ← k3, s180_2]
    simp (discharger := (first | omega | decide | assumption | exact rg_lt | exact rg_ly | (simp only [ly63, p63_0, p63_1, p63_2, p63_7, p63_10, p63_11, p63_13, p63_14, p63_16, p63_18, p63_22, p63_23, p63_24, p63_30, p63_31, p63_32, p63_33]; omega))) only [s180_0, s180_1, s180_3, s180_5, s180_8, s180_9, s180_11, s180_13, s180_16, s180_17, s180_19, s180_21, s180_24, s180_25, s180_26, s180_27, s180_28, s180_31, s180_33, s180_34, s180_35, s180_36, s180_37, s180_38, s180_39, s180_42, s180_44, s180_45, s180_46, s180_47, s180_48, s180_49, s180_50, s180_53, s180_56, s180_59, s180_62, s180_65, s180_68, s180_71, ltI, geL, leL, not_true_eq_false, not_false_eq_true, if_true, if_false, and_self, and_true, true_and, and_false, false_and, or_self, or_true, true_or, or_false, false_or, bo_T, bo_F, bo_e0, nI10, nI00, nI11, nI01, bo_e1, nem, eqL, af_v, af_0, rf_s, rf_n, nn, ite_self, leN, c1, sm_cl]
theorem m_closeWays (hd : ∀ a, a < 6 → D a a = 0) (hB : ∀ i j, D i j ≤ 1000000) (hR : RW (I 71) D) : ∃ J1 : sm_Im, (∀ c, c ≠ 71 → J1 c = I c) ∧ RW (J1 71) (fw D 6) ∧ sm_ex (d + 2) 180 [.ref 63] 81 I L (pX sw) = some (none, 81, J1, L, pX sw) := by
  obtain ⟨J1, h1, h2, h3⟩ := m_cw_k (d := d) (L := L) (sw := sw) (I := I) hd hB 6 0 rfl I none none (fun c _ => rfl) hR
  refine ⟨J1, h1, h2, ?_⟩
  rw [← h3, e180]
  simp only [s180_0, s180_1, s180_3, s180_5, s180_8, s180_9, s180_11, s180_13, s180_16, s180_17, s180_19, s180_21, s180_24, s180_25, s180_26, s180_27, s180_28, s180_31, s180_33, s180_34, s180_35, s180_36, s180_37, s180_38, s180_39, s180_42, s180_44, s180_45, s180_46, s180_47, s180_48, s180_49, s180_50, s180_53, s180_56, s180_59, s180_62, s180_65, s180_68, s180_71, ltI, geL, leL, not_true_eq_false, not_false_eq_true, if_true, if_false, and_self, and_true, true_and, and_false, false_and, or_self, or_true, true_or, or_false, false_or, bo_T, bo_F, bo_e0, nI10, nI00, nI11, nI01, bo_e1, nem, eqL, af_v, af_0, rf_s, rf_n, nn, ite_self, sm_cl]
end W2
