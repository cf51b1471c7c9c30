section RE
variable {d : Nat} {I : sm_Im} {L : sm_Lm} {sw : Bool} {x y z : Int32} {a b m n q kd am mn j p r k nb t f : Nat} {w : Int64} {β : Nat → Nat → Nat}
def RA (r : Nat) : Prop := r < 81 ∧ sm_lay r = .inl 6 ∧ (∀ sw, pX sw r 0 = some (r + 1)) ∧ (∀ sw, pX sw r 1 = some (r + 2)) ∧ r + 1 < 81 ∧ sm_lay (r + 1) = .inr (.inr 5) ∧ r + 2 < 81 ∧ sm_al (r + 2) = 10 ∧ (∀ sw k, k < 5 → pX sw (r + 1) k = some (r + 3 + 2 * k)) ∧ ∀ k, k < 5 → BA (r + 3 + 2 * k)
theorem RA_rg (s : Bool) : RA (rg s) := by
  have h : ∀ s : Bool, rg s < 81 ∧ sm_lay (rg s) = .inl 6 ∧ (∀ sw, pX sw (rg s) 0 = some (rg s + 1)) ∧ (∀ sw, pX sw (rg s) 1 = some (rg s + 2)) ∧ rg s + 1 < 81 ∧ sm_lay (rg s + 1) = .inr (.inr 5) ∧ rg s + 2 < 81 ∧ sm_al (rg s + 2) = 10 ∧ (∀ sw k, k < 5 → pX sw (rg s + 1) k = some (rg s + 3 + 2 * k)) := by decide +kernel
  obtain ⟨h1, h2, h3, h4, h5, h6, h7, h8, h9⟩ := h s
  exact ⟨h1, h2, h3, h4, h5, h6, h7, h8, h9, fun k hk => BA_r hk⟩
theorem r_size (A : RA r) : sm_ex (d + 1) 59 [.ref r] 81 I L (pX sw) = some (some (.int (I r 2)), 81, I, L, pX sw) := by
  obtain ⟨A1, A2, A3, A4, A5, A6, A7, A8, A9, A10⟩ := A
  rw [e59]
  simp only [s59_0, s59_1, s59_4, ltI, geL, leL, not_true_eq_false, not_false_eq_true, if_true, if_false, and_self, and_true, true_and, and_false, false_and, or_self, or_true, true_or, or_false, false_or, bo_T, bo_F, bo_e0, nI10, nI00, nI11, nI01, bo_e1, nem, eqL, af_v, af_0, rf_s, rf_n, nn, ite_self, A1, A2]
theorem r_find_1 (A : RA r) (hn : I r 2 = nI nb) (hnb : nb ≤ 5) (hk : k < nb) : sm_ex (d + 1) 60 [.ref r, .int (nI k)] 81 I L (pX sw) = some (some (.ref (r + 3 + 2 * k)), 81, I, L, pX sw) := by
  obtain ⟨A1, A2, A3, A4, A5, A6, A7, A8, A9, A10⟩ := A
  rw [e60]
  have c1 : ¬ nb ≤ k := by omega
  have c2 : ¬ 5 ≤ k := by omega
  simp (discharger := first | assumption | omega | decide) only [s60_0, s60_1, s60_4, s60_5, s60_6, s60_9, s60_12, s60_13, s60_14, s60_17, s60_18, s60_21, s60_22, s60_23, s60_26, s60_27, s60_27n, ltI, geL, leL, not_true_eq_false, not_false_eq_true, if_true, if_false, and_self, and_true, true_and, and_false, false_and, or_self, or_true, true_or, or_false, false_or, bo_T, bo_F, bo_e0, nI10, nI00, nI11, nI01, bo_e1, nem, eqL, af_v, af_0, rf_s, rf_n, nn, ite_self, A1, A2, A3, A5, A6, hn, leN, le0, c1, c2, A9]
theorem r_find_2 (A : RA r) (hn : I r 2 = nI nb) (hnb : nb ≤ 5) (h : ¬ (0 ≤ x ∧ ¬ nI nb ≤ x)) : sm_ex (d + 1) 60 [.ref r, .int x] 81 I L (pX sw) = some (some .null, 81, I, L, pX sw) := by
  obtain ⟨A1, A2, A3, A4, A5, A6, A7, A8, A9, A10⟩ := A
  rw [e60]
  by_cases h1 : 0 ≤ x
  · have h2 : nI nb ≤ x := Classical.byContradiction fun q => h ⟨h1, q⟩
    simp (discharger := first | assumption | omega | decide) only [s60_0, s60_1, s60_4, s60_5, s60_6, s60_9, s60_12, s60_13, s60_14, s60_17, s60_18, s60_21, s60_22, s60_23, s60_26, s60_27, s60_27n, ltI, geL, leL, not_true_eq_false, not_false_eq_true, if_true, if_false, and_self, and_true, true_and, and_false, false_and, or_self, or_true, true_or, or_false, false_or, bo_T, bo_F, bo_e0, nI10, nI00, nI11, nI01, bo_e1, nem, eqL, af_v, af_0, rf_s, rf_n, nn, ite_self, A1, A2, hn, h1, h2]
  · simp (discharger := first | assumption | omega | decide) only [s60_0, s60_1, s60_4, s60_5, s60_6, s60_9, s60_12, s60_13, s60_14, s60_17, s60_18, s60_21, s60_22, s60_23, s60_26, s60_27, s60_27n, ltI, geL, leL, not_true_eq_false, not_false_eq_true, if_true, if_false, and_self, and_true, true_and, and_false, false_and, or_self, or_true, true_or, or_false, false_or, bo_T, bo_F, bo_e0, nI10, nI00, nI11, nI01, bo_e1, nem, eqL, af_v, af_0, rf_s, rf_n, nn, ite_self, A1, A2, h1]
theorem neg1 : (0 ≤ (-1 : Int32)) = False := by decide
theorem r_find_3 (A : RA r) (hn : I r 2 = nI nb) (hnb : nb ≤ 5) : sm_ex (d + 1) 60 [.ref r, .int (-1)] 81 I L (pX sw) = some (some .null, 81, I, L, pX sw) := r_find_2 A hn hnb (fun q => by rw [neg1] at q; exact q.1)
theorem r_birthOf (A : RA r) (hp : p < 10) : sm_ex (d + 2) 61 [.ref r, .int (nI p)] 81 I L (pX sw) = some (some (.int (I (r + 2) p)), 81, I, L, pX sw) := by
  obtain ⟨A1, A2, A3, A4, A5, A6, A7, A8, A9, A10⟩ := A
  rw [e61]
  simp (discharger := first | assumption | omega | decide) only [s61_0, s61_1, s61_4, s61_7, s61_8, s61_11, s61_12, s61_13, s61_16, s61_17, ltI, geL, leL, not_true_eq_false, not_false_eq_true, if_true, if_false, and_self, and_true, true_and, and_false, false_and, or_self, or_true, true_or, or_false, false_or, bo_T, bo_F, bo_e0, nI10, nI00, nI11, nI01, bo_e1, nem, eqL, af_v, af_0, rf_s, rf_n, nn, ite_self, A1, A2, A4, A7, A8, h_isPerson, ixt]
/-- what the births are: how many; kinds, amounts, how many each; of each person its birth, its place; the members -/
def RB (r : Nat) (I : sm_Im) (β : Nat → Nat → Nat) : Prop := I r 2 = nI (β 0 0) ∧ (∀ k, k < β 0 0 → I (r + 3 + 2 * k) 1 = nI (β 1 k) ∧ I (r + 3 + 2 * k) 2 = nI (β 2 k) ∧ I (r + 3 + 2 * k) 3 = nI (β 3 k) ∧ ∀ j, j < β 3 k → I (r + 3 + 2 * k + 1) j = nI (β (6 + k) j)) ∧ (∀ p, p < 10 → I (r + 2) p = if β 4 p < β 0 0 then nI (β 4 p) else -1)
def BOk (β : Nat → Nat → Nat) : Prop := β 0 0 ≤ 5 ∧ (∀ k, k < β 0 0 → β 1 k ≤ 3 ∧ β 2 k ≤ 9 ∧ 2 ≤ β 3 k ∧ β 3 k ≤ 4 ∧ ∀ j, j < β 3 k → β (6 + k) j < 10 ∧ β 4 (β (6 + k) j) = k ∧ β 5 (β (6 + k) j) = j) ∧ (∀ p, p < 10 → β 4 p < β 0 0 → β 5 p < β 3 (β 4 p) ∧ β (6 + β 4 p) (β 5 p) = p)
def tn (β : Nat → Nat → Nat) (p : Nat) : Nat := if β 4 p < β 0 0 then (if β 1 (β 4 p) = 2 then β 2 (β 4 p) else 10) else 10
def dl (β : Nat → Nat → Nat) (t f : Nat) : Option Nat := if β 4 t < β 0 0 ∧ β 4 f = β 4 t ∧ ¬ t = f then some (dly (β 1 (β 4 t)) (β 2 (β 4 t)) (β 3 (β 4 t)) (β 5 t) (β 5 f)) else none
def oI (o : Option Nat) : Int32 := match o with
  | some n => nI n
  | none => -1
theorem neN1 {n : Nat} (h : n < 2147483648) : (nI n = -1) = False := by
  apply eq_false
  intro q
  have := congrArg Int32.toInt q
  rw [nI_toInt h] at this
  have e : (-1 : Int32).toInt = -1 := by decide
  omega
theorem neN2 {n : Nat} (h : n < 2147483648) : (-1 = nI n) = False := by rw [show ((-1 : Int32) = nI n) = (nI n = -1) from propext eq_comm]; exact neN1 h
theorem r_tenthsOf (A : RA r) (R : RB r I β) (O : BOk β) (hp : p < 10) : sm_ex (d + 3) 62 [.ref r, .int (nI p)] 81 I L (pX sw) = some (some (.int (nI (tn β p))), 81, I, L, pX sw) := by
  have A1 := A.1
  have A2 := A.2.1
  obtain ⟨R1, R2, R3⟩ := R
  obtain ⟨O1, O2, O3⟩ := O
  rw [e62]
  unfold tn
  by_cases h : β 4 p < β 0 0
  · obtain ⟨q1, q2, q3, q4⟩ := R2 _ h
    have B := A.2.2.2.2.2.2.2.2.2 (β 4 p) (by omega)
    have B1 := B.1
    have B2 := B.2.1
    have o2 := O2 _ h
    have e : (nI (β 1 (β 4 p)) = nI 2) = (β 1 (β 4 p) = 2) := eqN (by omega) (by decide)
    have e9 : ∀ c : Prop, ∀ [Decidable c], (if c then nI (β 2 (β 4 p)) else nI 10) = nI (if c then β 2 (β 4 p) else 10) := fun c _ => by by_cases hc : c <;> simp [hc]
    simp (discharger := first | assumption | omega | decide) only [s62_0, s62_1, s62_2, s62_3, s62_6, s62_9, s62_9n, s62_10, s62_10n, s62_11, s62_11n, s62_14, s62_16, s62_19, s62_19n, s62_20, s62_23, ltI, geL, leL, not_true_eq_false, not_false_eq_true, if_true, if_false, and_self, and_true, true_and, and_false, false_and, or_self, or_true, true_or, or_false, false_or, bo_T, bo_F, bo_e0, nI10, nI00, nI11, nI01, bo_e1, nem, eqL, af_v, af_0, rf_s, rf_n, nn, ite_self, r_birthOf A hp, R3 p hp, h, r_find_1 A R1 O1 h, i_tenths B, q1, q2, e, e9, sm_cl]
  · simp (discharger := first | assumption | omega | decide) only [s62_0, s62_1, s62_2, s62_3, s62_6, s62_9, s62_9n, s62_10, s62_10n, s62_11, s62_11n, s62_14, s62_16, s62_19, s62_19n, s62_20, s62_23, ltI, geL, leL, not_true_eq_false, not_false_eq_true, if_true, if_false, and_self, and_true, true_and, and_false, false_and, or_self, or_true, true_or, or_false, false_or, bo_T, bo_F, bo_e0, nI10, nI00, nI11, nI01, bo_e1, nem, eqL, af_v, af_0, rf_s, rf_n, nn, ite_self, r_birthOf A hp, R3 p hp, h, r_find_3 A R1 O1, sm_cl]
theorem r_delay (A : RA r) (R : RB r I β) (O : BOk β) (ht : t < 10) (hf : f < 10) : sm_ex (d + 3) 63 [.ref r, .int (nI t), .int (nI f)] 81 I L (pX sw) = some (some (.int (oI (dl β t f))), 81, I, L, pX sw) := by
  have A1 := A.1
  have A2 := A.2.1
  obtain ⟨R1, R2, R3⟩ := R
  obtain ⟨O1, O2, O3⟩ := O
  rw [e63]
  unfold dl
  by_cases h : β 4 t < β 0 0
  · obtain ⟨q1, q2, q3, q4⟩ := R2 _ h
    obtain ⟨o1, o2, o3, o4, o5⟩ := O2 _ h
    have B := A.2.2.2.2.2.2.2.2.2 (β 4 t) (by omega)
    have B1 := B.1
    have B2 := B.2.1
    have hm : ∀ j, j < β 3 (β 4 t) → I (r + 3 + 2 * β 4 t + 1) j = nI (β (6 + β 4 t) j) ∧ β (6 + β 4 t) j < 10 := fun j hj => ⟨q4 j hj, (o5 j hj).1⟩
    have uniq : ∀ p, β 4 p = β 4 t → ∀ j, j < β 5 p → β 5 p < β 3 (β 4 t) → ¬ β (6 + β 4 t) j = p := fun p hp j hj hlt e => by
      have := (o5 j (by omega)).2.2
      rw [e] at this; omega
    by_cases h2 : β 4 f = β 4 t
    · have hb : β 4 f < β 0 0 := by omega
      have pt := O3 t ht h
      have pf := O3 f hf hb
      rw [h2] at pf
      by_cases h3 : t = f
      · subst h3
        simp (discharger := first | assumption | omega | decide) only [s63_0, s63_1, s63_2, s63_5, s63_6, s63_7, s63_8, s63_11, s63_11n, s63_13, s63_13n, s63_15, s63_15n, s63_18, s63_19, s63_20, s63_23, s63_24, s63_27, s63_28, s63_29, s63_32, s63_33, s63_34, s63_34n, s63_36, s63_36n, s63_38, s63_39, s63_42, s63_42n, s63_44, s63_45, s63_48, s63_51, ltI, geL, leL, not_true_eq_false, not_false_eq_true, if_true, if_false, and_self, and_true, true_and, and_false, false_and, or_self, or_true, true_or, or_false, false_or, bo_T, bo_F, bo_e0, nI10, nI00, nI11, nI01, bo_e1, nem, eqL, af_v, af_0, rf_s, rf_n, nn, ite_self, r_birthOf A ht, R3 t ht, h, r_find_1 A R1 O1 h, eqN, oI, sm_cl]
      · simp (discharger := first | assumption | omega | decide) only [s63_0, s63_1, s63_2, s63_5, s63_6, s63_7, s63_8, s63_11, s63_11n, s63_13, s63_13n, s63_15, s63_15n, s63_18, s63_19, s63_20, s63_23, s63_24, s63_27, s63_28, s63_29, s63_32, s63_33, s63_34, s63_34n, s63_36, s63_36n, s63_38, s63_39, s63_42, s63_42n, s63_44, s63_45, s63_48, s63_51, ltI, geL, leL, not_true_eq_false, not_false_eq_true, if_true, if_false, and_self, and_true, true_and, and_false, false_and, or_self, or_true, true_or, or_false, false_or, bo_T, bo_F, bo_e0, nI10, nI00, nI11, nI01, bo_e1, nem, eqL, af_v, af_0, rf_s, rf_n, nn, ite_self, r_birthOf A ht, r_birthOf A hf, R3 t ht, R3 f hf, h, hb, h2, h3, r_find_1 A R1 O1 h, eqN, sm_cl, i_placeOf B q3 o4 hm ht pt.1 pt.2 (fun j hj => uniq t rfl j hj pt.1), i_placeOf B q3 o4 hm hf pf.1 pf.2 (fun j hj => uniq f h2 j hj pf.1), i_delay B q1 o1 q2 q3 o4 pt.1 pf.1, oI]
    · have c : ∀ u, (if β 4 f < β 0 0 then nI (β 4 f) else -1) = nI (β 4 t) → u := fun u e => by
        exfalso
        by_cases hb : β 4 f < β 0 0
        · rw [if_pos hb, eqN (by omega) (by omega)] at e; exact h2 e
        · rw [if_neg hb, neN2 (by omega)] at e; exact e
      have c2 : ((if β 4 f < β 0 0 then nI (β 4 f) else -1) = nI (β 4 t)) = False := eq_false (fun e => c False e)
      simp (discharger := first | assumption | omega | decide) only [s63_0, s63_1, s63_2, s63_5, s63_6, s63_7, s63_8, s63_11, s63_11n, s63_13, s63_13n, s63_15, s63_15n, s63_18, s63_19, s63_20, s63_23, s63_24, s63_27, s63_28, s63_29, s63_32, s63_33, s63_34, s63_34n, s63_36, s63_36n, s63_38, s63_39, s63_42, s63_42n, s63_44, s63_45, s63_48, s63_51, ltI, geL, leL, not_true_eq_false, not_false_eq_true, if_true, if_false, and_self, and_true, true_and, and_false, false_and, or_self, or_true, true_or, or_false, false_or, bo_T, bo_F, bo_e0, nI10, nI00, nI11, nI01, bo_e1, nem, eqL, af_v, af_0, rf_s, rf_n, nn, ite_self, r_birthOf A ht, r_birthOf A hf, R3 t ht, R3 f hf, h, h2, r_find_1 A R1 O1 h, c2, oI, sm_cl]
  · simp (discharger := first | assumption | omega | decide) only [s63_0, s63_1, s63_2, s63_5, s63_6, s63_7, s63_8, s63_11, s63_11n, s63_13, s63_13n, s63_15, s63_15n, s63_18, s63_19, s63_20, s63_23, s63_24, s63_27, s63_28, s63_29, s63_32, s63_33, s63_34, s63_34n, s63_36, s63_36n, s63_38, s63_39, s63_42, s63_42n, s63_44, s63_45, s63_48, s63_51, ltI, geL, leL, not_true_eq_false, not_false_eq_true, if_true, if_false, and_self, and_true, true_and, and_false, false_and, or_self, or_true, true_or, or_false, false_or, bo_T, bo_F, bo_e0, nI10, nI00, nI11, nI01, bo_e1, nem, eqL, af_v, af_0, rf_s, rf_n, nn, ite_self, r_birthOf A ht, R3 t ht, h, r_find_3 A R1 O1, oI, sm_cl]
end RE
