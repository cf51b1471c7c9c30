section BJ
variable {d : Nat} {I : sm_Im} {L : sm_Lm} {sw : Bool} {x y z : Int32} {a b m n q kd am mn j p : Nat} {w : Int64}
theorem subN {a b : Nat} (h : b ≤ a) : nI a - nI b = nI (a - b) := pk_sub h
theorem i_placeOf_loop (A : BA a) (hm : I a 3 = nI mn) (hmn : mn ≤ 4) {f : Nat → Nat} (hf : ∀ j, j < mn → I (a + 1) j = nI (f j) ∧ f j < 10) (hp : p < 10) (hq : q < mn) (hq2 : f q = p) (hq3 : ∀ j, j < q → ¬ f j = p) : ∀ (k i : Nat), i + k = q → sm_at (sm_ex (d + 1)) none 12 2 [some (.ref a), some (.int (nI p)), some (.int (nI i))] [] 81 I L (pX sw) = some (some (.int (nI q)), 81, I, L, pX sw) := by
  have A1 := A.1
  have A2 := A.2.1
  intro k
  induction k with
  | zero =>
    intro i hi
    obtain rfl : i = q := by omega
    have c1 : ¬ mn ≤ i := by omega
    rw [s12_2]
    simp (discharger := first | assumption | omega | decide) only [s12_0, s12_1, s12_3, s12_4, s12_7, s12_10, s12_11, s12_12, s12_15, s12_16, s12_19, s12_20, s12_21, s12_24, s12_27, s12_28, ltI, geL, leL, not_true_eq_false, not_false_eq_true, if_true, if_false, and_self, and_true, true_and, and_false, false_and, or_self, or_true, true_or, or_false, false_or, bo_T, bo_F, bo_e0, nI10, nI00, nI11, nI01, bo_e1, nem, eqL, af_v, af_0, rf_s, rf_n, nn, ite_self, hm, leN, c1,  i_member_1 A hm hmn hq, (hf i hq).1, hq2, eqN]
  | succ k ih =>
    intro i hi
    have c1 : ¬ mn ≤ i := by omega
    have h2 := hf i (by omega)
    have c2 : ¬ f i = p := hq3 i (by omega)
    rw [s12_2]
    simp (discharger := first | assumption | omega | decide) only [s12_0, s12_1, s12_3, s12_4, s12_7, s12_10, s12_11, s12_12, s12_15, s12_16, s12_19, s12_20, s12_21, s12_24, s12_27, s12_28, ltI, geL, leL, not_true_eq_false, not_false_eq_true, if_true, if_false, and_self, and_true, true_and, and_false, false_and, or_self, or_true, true_or, or_false, false_or, bo_T, bo_F, bo_e0, nI10, nI00, nI11, nI01, bo_e1, nem, eqL, af_v, af_0, rf_s, rf_n, nn, ite_self, hm, leN, c1,  i_member_1 A hm hmn (show i < mn by omega), h2.1, eqN, c2, addN, sm_cl]
    exact ih (i + 1) (by omega)
theorem i_placeOf (A : BA a) (hm : I a 3 = nI mn) (hmn : mn ≤ 4) {f : Nat → Nat} (hf : ∀ j, j < mn → I (a + 1) j = nI (f j) ∧ f j < 10) (hp : p < 10) (hq : q < mn) (hq2 : f q = p) (hq3 : ∀ j, j < q → ¬ f j = p) : sm_ex (d + 2) 12 [.ref a, .int (nI p)] 81 I L (pX sw) = some (some (.int (nI q)), 81, I, L, pX sw) := by
  rw [e12]
  simp only [s12_0, s12_1, s12_3, s12_4, s12_7, s12_10, s12_11, s12_12, s12_15, s12_16, s12_19, s12_20, s12_21, s12_24, s12_27, s12_28, ltI, geL, leL, not_true_eq_false, not_false_eq_true, if_true, if_false, and_self, and_true, true_and, and_false, false_and, or_self, or_true, true_or, or_false, false_or, bo_T, bo_F, bo_e0, nI10, nI00, nI11, nI01, bo_e1, nem, eqL, af_v, af_0, rf_s, rf_n, nn, ite_self, sm_cl]
  exact i_placeOf_loop A hm hmn hf hp hq hq2 hq3 q 0 (Nat.zero_add q)
def bitI (set : Int32) (p : Nat) : Bool := decide (¬ (set >>> (nI p &&& 31)) &&& nI 1 = 0)
def anyN (f : Nat → Bool) : Nat → Bool
  | 0 => false
  | n + 1 => anyN f n || f n
theorem anyN_t {f : Nat → Bool} {i : Nat} (h : f i = true) : ∀ n, i < n → anyN f n = true := by
  intro n
  induction n with
  | zero => intro h; omega
  | succ n ih =>
    intro hi
    show (anyN f n || f n) = true
    by_cases e : i = n
    · subst e; rw [h, Bool.or_true]
    · rw [ih (by omega), Bool.true_or]
theorem i_hasAnyOf_loop (A : BA a) (hm : I a 3 = nI mn) (hmn : mn ≤ 4) {f : Nat → Nat} (hf : ∀ j, j < mn → I (a + 1) j = nI (f j) ∧ f j < 10) : ∀ (k i : Nat), i + k = mn → anyN (fun j => bitI x (f j)) i = false → sm_at (sm_ex (d + 1)) none 13 2 [some (.ref a), some (.int x), some (.int (nI i))] [] 81 I L (pX sw) = some (some (.int (bo (anyN (fun j => bitI x (f j)) mn = true))), 81, I, L, pX sw) := by
  have A1 := A.1
  have A2 := A.2.1
  intro k
  induction k with
  | zero =>
    intro i hi hn
    obtain rfl : i = mn := by omega
    rw [s13_2]
    simp (discharger := first | assumption | omega | decide) only [s13_0, s13_1, s13_3, s13_4, s13_7, s13_10, s13_11, s13_12, s13_13, s13_16, s13_19, s13_22, s13_23, s13_24, s13_27, s13_30, s13_31, ltI, geL, leL, not_true_eq_false, not_false_eq_true, if_true, if_false, and_self, and_true, true_and, and_false, false_and, or_self, or_true, true_or, or_false, false_or, bo_T, bo_F, bo_e0, nI10, nI00, nI11, nI01, bo_e1, nem, eqL, af_v, af_0, rf_s, rf_n, nn, ite_self, hm, leN, Nat.le_refl,  hn, Bool.false_eq_true]
  | succ k ih =>
    intro i hi hn
    have c1 : ¬ mn ≤ i := by omega
    have h2 := hf i (by omega)
    rw [s13_2]
    by_cases c2 : (x >>> (nI (f i) &&& 31)) &&& nI 1 = 0
    · have e : anyN (fun j => bitI x (f j)) (i + 1) = false := by show (_ || bitI x (f i)) = false; rw [hn]; unfold bitI; simp [c2]
      simp (discharger := first | assumption | omega | decide) only [s13_0, s13_1, s13_3, s13_4, s13_7, s13_10, s13_11, s13_12, s13_13, s13_16, s13_19, s13_22, s13_23, s13_24, s13_27, s13_30, s13_31, ltI, geL, leL, not_true_eq_false, not_false_eq_true, if_true, if_false, and_self, and_true, true_and, and_false, false_and, or_self, or_true, true_or, or_false, false_or, bo_T, bo_F, bo_e0, nI10, nI00, nI11, nI01, bo_e1, nem, eqL, af_v, af_0, rf_s, rf_n, nn, ite_self, hm, leN, c1,  i_member_1 A hm hmn (show i < mn by omega), h2.1, h_isIn, c2, addN, sm_cl]
      exact ih (i + 1) (by omega) e
    · have e : anyN (fun j => bitI x (f j)) mn = true := anyN_t (i := i) (by unfold bitI; simp [c2]) mn (by omega)
      simp (discharger := first | assumption | omega | decide) only [s13_0, s13_1, s13_3, s13_4, s13_7, s13_10, s13_11, s13_12, s13_13, s13_16, s13_19, s13_22, s13_23, s13_24, s13_27, s13_30, s13_31, ltI, geL, leL, not_true_eq_false, not_false_eq_true, if_true, if_false, and_self, and_true, true_and, and_false, false_and, or_self, or_true, true_or, or_false, false_or, bo_T, bo_F, bo_e0, nI10, nI00, nI11, nI01, bo_e1, nem, eqL, af_v, af_0, rf_s, rf_n, nn, ite_self, hm, leN, c1,  i_member_1 A hm hmn (show i < mn by omega), h2.1, h_isIn, c2, e]
theorem i_hasAnyOf (A : BA a) (hm : I a 3 = nI mn) (hmn : mn ≤ 4) {f : Nat → Nat} (hf : ∀ j, j < mn → I (a + 1) j = nI (f j) ∧ f j < 10) : sm_ex (d + 2) 13 [.ref a, .int x] 81 I L (pX sw) = some (some (.int (bo (anyN (fun j => bitI x (f j)) mn = true))), 81, I, L, pX sw) := by
  rw [e13]
  simp only [s13_0, s13_1, s13_3, s13_4, s13_7, s13_10, s13_11, s13_12, s13_13, s13_16, s13_19, s13_22, s13_23, s13_24, s13_27, s13_30, s13_31, ltI, geL, leL, not_true_eq_false, not_false_eq_true, if_true, if_false, and_self, and_true, true_and, and_false, false_and, or_self, or_true, true_or, or_false, false_or, bo_T, bo_F, bo_e0, nI10, nI00, nI11, nI01, bo_e1, nem, eqL, af_v, af_0, rf_s, rf_n, nn, ite_self, sm_cl]
  exact i_hasAnyOf_loop A hm hmn hf mn 0 (Nat.zero_add mn) rfl
def dly (kd am mn s t : Nat) : Nat := if kd = 1 then (if s ≤ t then t - s else t + mn - s) else if kd = 3 then am else 0
theorem i_delay (A : BA a) (hk : I a 1 = nI kd) (hkd : kd ≤ 3) (ha : I a 2 = nI am) (hm : I a 3 = nI mn) (hmn : mn ≤ 4) (hs : n < mn) (ht : q < mn) : sm_ex (d + 1) 14 [.ref a, .int (nI n), .int (nI q)] 81 I L (pX sw) = some (some (.int (nI (dly kd am mn n q))), 81, I, L, pX sw) := by
  obtain ⟨A1, A2, A3, A4, A5⟩ := A
  rw [e14]
  unfold dly
  rcases (show kd = 0 ∨ kd = 1 ∨ kd = 2 ∨ kd = 3 by omega) with rfl | rfl | rfl | rfl
  · simp (decide := true) only [s14_0, s14_1, s14_4_0, s14_4_1, s14_4_d, s14_32, s14_33, s14_34, s14_37, s14_38, s14_39, s14_40, s14_43, s14_44, s14_45, s14_46, s14_47, s14_50, s14_51, s14_52, s14_53, s14_56, s14_57, s14_58, ltI, geL, leL, not_true_eq_false, not_false_eq_true, if_true, if_false, and_self, and_true, true_and, and_false, false_and, or_self, or_true, true_or, or_false, false_or, bo_T, bo_F, bo_e0, nI10, nI00, nI11, nI01, bo_e1, nem, eqL, af_v, af_0, rf_s, rf_n, nn, ite_self, A1, A2, hk]
  · by_cases c : n ≤ q
    · simp (discharger := first | assumption | omega | decide) only [s14_0, s14_1, s14_4_0, s14_4_1, s14_4_d, s14_32, s14_33, s14_34, s14_37, s14_38, s14_39, s14_40, s14_43, s14_44, s14_45, s14_46, s14_47, s14_50, s14_51, s14_52, s14_53, s14_56, s14_57, s14_58, ltI, geL, leL, not_true_eq_false, not_false_eq_true, if_true, if_false, and_self, and_true, true_and, and_false, false_and, or_self, or_true, true_or, or_false, false_or, bo_T, bo_F, bo_e0, nI10, nI00, nI11, nI01, bo_e1, nem, eqL, af_v, af_0, rf_s, rf_n, nn, ite_self, A1, A2, hk, leN, c, subN]
    · have e : nI q - nI n + nI mn = nI (q + mn - n) := by
        have h1 : nI (q + mn - n) + nI n = nI q + nI mn := by rw [addN, addN]; congr 1; omega
        have : nI (q + mn - n) = nI q + nI mn - nI n := by rw [← h1]; exact (Int32.add_sub_cancel _ _).symm
        rw [this, Int32.sub_eq_add_neg, Int32.sub_eq_add_neg, Int32.add_assoc, Int32.add_assoc, Int32.add_comm (-nI n)]
      simp (discharger := first | assumption | omega | decide) only [s14_0, s14_1, s14_4_0, s14_4_1, s14_4_d, s14_32, s14_33, s14_34, s14_37, s14_38, s14_39, s14_40, s14_43, s14_44, s14_45, s14_46, s14_47, s14_50, s14_51, s14_52, s14_53, s14_56, s14_57, s14_58, ltI, geL, leL, not_true_eq_false, not_false_eq_true, if_true, if_false, and_self, and_true, true_and, and_false, false_and, or_self, or_true, true_or, or_false, false_or, bo_T, bo_F, bo_e0, nI10, nI00, nI11, nI01, bo_e1, nem, eqL, af_v, af_0, rf_s, rf_n, nn, ite_self, A1, A2, hk, leN, c, hm, e]
  · simp (decide := true) only [s14_0, s14_1, s14_4_0, s14_4_1, s14_4_d, s14_32, s14_33, s14_34, s14_37, s14_38, s14_39, s14_40, s14_43, s14_44, s14_45, s14_46, s14_47, s14_50, s14_51, s14_52, s14_53, s14_56, s14_57, s14_58, ltI, geL, leL, not_true_eq_false, not_false_eq_true, if_true, if_false, and_self, and_true, true_and, and_false, false_and, or_self, or_true, true_or, or_false, false_or, bo_T, bo_F, bo_e0, nI10, nI00, nI11, nI01, bo_e1, nem, eqL, af_v, af_0, rf_s, rf_n, nn, ite_self, A1, A2, hk]
  · simp (decide := true) only [s14_0, s14_1, s14_4_0, s14_4_1, s14_4_d, s14_32, s14_33, s14_34, s14_37, s14_38, s14_39, s14_40, s14_43, s14_44, s14_45, s14_46, s14_47, s14_50, s14_51, s14_52, s14_53, s14_56, s14_57, s14_58, ltI, geL, leL, not_true_eq_false, not_false_eq_true, if_true, if_false, and_self, and_true, true_and, and_false, false_and, or_self, or_true, true_or, or_false, false_or, bo_T, bo_F, bo_e0, nI10, nI00, nI11, nI01, bo_e1, nem, eqL, af_v, af_0, rf_s, rf_n, nn, ite_self, A1, A2, hk, ha]
end BJ
