section OV
variable {d : Nat} {I J : sm_Im} {L : sm_Lm} {sw : Bool} {x y z u v : Int32} {a b m n q kd am mn j p r k nb t f c : Nat} {w : Int64} {β τ : Nat → Nat → Nat}
theorem RB_cong (hr : 37 ≤ r) (h : ∀ b, 37 ≤ b → J b = I b) (R : RB r I β) : RB r J β := by
  obtain ⟨R1, R2, R3⟩ := R
  refine ⟨by rw [h r hr]; exact R1, fun k hk => ?_, fun p hp => by rw [h _ (by omega)]; exact R3 p hp⟩
  obtain ⟨q1, q2, q3, q4⟩ := R2 k hk
  rw [h _ (by omega), h _ (by omega)]
  exact ⟨q1, q2, q3, q4⟩
theorem rg_ge (s : Bool) : 37 ≤ rg s := by cases s <;> decide
def evk (β τ : Nat → Nat → Nat) (p k : Nat) : Option Nat := if p = τ 1 k then some (τ 2 k) else (dl β (τ 1 k) p).map (fun s => τ 2 k + s)
theorem evk_le (B : BOk β) (O : TOk τ) (hp : p < 10) (hk : k < τ 0 0) (h : evk β τ p k = some m) : m ≤ 1008 := by
  have o := O.2 k hk
  unfold evk at h
  by_cases e : p = τ 1 k
  · rw [if_pos e] at h; cases h; omega
  · rw [if_neg e] at h
    cases hd : dl β (τ 1 k) p with
    | none => rw [hd] at h; cases h
    | some s => rw [hd] at h; cases h; have := dl_le B o.1 hp hd; show τ 2 k + s ≤ 1008; omega
def hit (β τ : Nat → Nat → Nat) (p day k : Nat) : Bool := match evk β τ p k with
  | some m => decide (m / 100 = day)
  | none => false
def cnt (β τ : Nat → Nat → Nat) (p day n : Nat) : Nat := cn (hit β τ p day) n
def ovA (β τ : Nat → Nat → Nat) (k p : Nat) : Bool := match evk β τ p k with
  | some m => decide (9 < cnt β τ p (m / 100) (k + 1))
  | none => false
/-- the tally when the touches ahead of k, and of k the people ahead of i, are counted -/
def TL (β τ : Nat → Nat → Nat) (k i : Nat) (f : Nat → Int32) : Prop := ∀ c, c < 110 → f c = nI (cnt β τ (c / 11) (c % 11) (if c / 11 < i then k + 1 else k))
theorem divN {a b : Nat} (ha : a < 2147483648) (h0 : 0 < b) (hb : b < 2147483648) : nI a / nI b = nI (a / b) := pk_div ha h0 hb
theorem c_talliedFor (hp : p < 10) (hm : m ≤ 1008) (hc : I 6 (p * 11 + m / 100) = nI c) (hc2 : c < 1000) : sm_ex (d + 1) 82 [.ref 3, .int (nI p), .int (nI m)] 81 I L (pX sw) = some (some (.int (nI (c + 1))), 81, sm_up I 6 (p * 11 + m / 100) (nI (c + 1)), L, pX sw) := by
  rw [e82]
  have c1 : ¬ 110 ≤ p * 11 + m / 100 := by omega
  have z : ¬ nI 100 = 0 := by decide
  simp (discharger := first | assumption | omega | decide | (simp only [ly3, p3_0, p3_1, p3_2, ly6, al6]; omega)) only [s82_0, s82_1, s82_3, s82_4, s82_5, s82_7, s82_8, s82_9, s82_10, s82_11, s82_14, s82_15, s82_16, s82_20, s82_23, s82_24, s82_25, s82_26, s82_29, s82_30, s82_31, s82_32, s82_33, s82_34, s82_35, s82_36, s82_39, s82_40, s82_41, s82_19a, ltI, geL, leL, not_true_eq_false, not_false_eq_true, if_true, if_false, and_self, and_true, true_and, and_false, false_and, or_self, or_true, true_or, or_false, false_or, bo_T, bo_F, bo_e0, nI10, nI00, nI11, nI01, bo_e1, nem, eqL, af_v, af_0, rf_s, rf_n, nn, ite_self, ly3, p3_0, p3_1, p3_2, ly6, al6, divN, mulN, addN, le0, leN, c1, hc, up_same, sm_cl]
theorem cnt_le {p day n : Nat} : cnt β τ p day n ≤ n := cn_le _ n
theorem or1 {c : Prop} [Decidable c] : bo c ||| nI 1 = nI 1 := by unfold bo; by_cases h : c <;> simp [h] <;> decide
theorem or0 {c : Prop} [Decidable c] : bo c ||| nI 0 = bo c := by unfold bo; by_cases h : c <;> simp [h] <;> decide
theorem anyN_s (f : Nat → Bool) (n : Nat) : anyN f (n + 1) = (anyN f n || f n) := rfl
theorem c_isOverBehind_loop (A : RA r) (hr : 37 ≤ r) (R : RB r I β) (B : BOk β) (O : TOk τ) (hk : k < τ 0 0) : ∀ (g i : Nat), i + g = 10 → ∀ (J : sm_Im) (l6 : Option Value), (∀ b, b ≠ 6 → J b = I b) → TL β τ k i (J 6) → ∃ J1, (∀ b, b ≠ 6 → J1 b = I b) ∧ TL β τ k 10 (J1 6) ∧ sm_at (sm_ex (d + 3)) none 81 6 [some (.ref 3), some (.ref r), some (.int (nI (τ 1 k))), some (.int (nI (τ 2 k))), some (.int (bo (anyN (ovA β τ k) i = true))), some (.int (nI i)), l6] [] 81 J L (pX sw) = some (some (.int (bo (anyN (ovA β τ k) 10 = true))), 81, J1, L, pX sw) := by
  have A1 := A.1
  have A2 := A.2.1
  have o := O.2 k hk
  have o1 := O.1
  intro g
  induction g with
  | zero =>
    intro i hi J l6 hJ hT
    obtain rfl : i = 10 := by omega
    refine ⟨J, hJ, hT, ?_⟩
    rw [s81_6]
    simp (discharger := first | assumption | omega | decide | exact bo_01 _) only [s81_0, s81_1, s81_3, s81_4, s81_8, s81_10, s81_13, s81_15, s81_16, s81_19, s81_20, s81_23, s81_23n, s81_24, s81_25, s81_27, s81_30, s81_32, s81_34, s81_35, s81_38, s81_40, s81_41, s81_43, s81_44, s81_46, s81_47, s81_50, s81_52, s81_55, s81_56, s81_59, s81_60, s81_61, s81_63, s81_66, s81_69, s81_71, ltI, geL, leL, not_true_eq_false, not_false_eq_true, if_true, if_false, and_self, and_true, true_and, and_false, false_and, or_self, or_true, true_or, or_false, false_or, bo_T, bo_F, bo_e0, nI10, nI00, nI11, nI01, bo_e1, nem, eqL, af_v, af_0, rf_s, rf_n, nn, ite_self, Int32.le_refl]
  | succ g ih =>
    intro i hi J l6 hJ hT
    have c1 : ¬ 10 ≤ i := by omega
    have hi10 : i < 10 := by omega
    have RJ : RB r J β := RB_cong hr (fun b hb => hJ b (by omega)) R
    have hTn : evk β τ i k = none → TL β τ k (i + 1) (J 6) := by
      intro he c hc
      rw [hT c hc]
      by_cases e : c / 11 = i
      · rw [if_neg (by omega), if_pos (by omega)]
        congr 1
        unfold cnt
        rw [cn_s]
        have : hit β τ (c / 11) (c % 11) k = false := by unfold hit; rw [e, he]
        rw [this]; rfl
      · by_cases e2 : c / 11 < i
        · rw [if_pos e2, if_pos (by omega)]
        · rw [if_neg e2, if_neg (by omega)]
    have hTs : ∀ mm, mm ≤ 1008 → evk β τ i k = some mm → J 6 (i * 11 + mm / 100) = nI (cnt β τ i (mm / 100) k) ∧ cnt β τ i (mm / 100) (k + 1) = cnt β τ i (mm / 100) k + 1 ∧ TL β τ k (i + 1) (sm_up J 6 (i * 11 + mm / 100) (nI (cnt β τ i (mm / 100) k + 1)) 6) := by
      intro mm hmm he
      have d1 : (i * 11 + mm / 100) / 11 = i := by omega
      have d2 : (i * 11 + mm / 100) % 11 = mm / 100 := by omega
      have e1 : cnt β τ i (mm / 100) (k + 1) = cnt β τ i (mm / 100) k + 1 := by
        unfold cnt
        rw [cn_s]
        have : hit β τ i (mm / 100) k = true := by unfold hit; rw [he]; exact decide_eq_true rfl
        rw [this]; rfl
      refine ⟨by rw [hT _ (by omega), d1, d2, if_neg (by omega)], e1, fun c hc => ?_⟩
      rw [up_at]
      by_cases e : c = i * 11 + mm / 100
      · rw [if_pos e, e, d1, d2, if_pos (by omega), e1]
      · rw [if_neg e, hT c hc]
        by_cases e3 : c / 11 = i
        · rw [if_neg (by omega), if_pos (by omega)]
          congr 1
          unfold cnt
          rw [cn_s]
          have : hit β τ (c / 11) (c % 11) k = false := by
            unfold hit; rw [e3, he]; exact decide_eq_false (by omega)
          rw [this]; rfl
        · by_cases e2 : c / 11 < i
          · rw [if_pos e2, if_pos (by omega)]
          · rw [if_neg e2, if_neg (by omega)]
    rw [s81_6]
    have hov : ∀ mm, evk β τ i k = some mm → ovA β τ k i = decide (9 < cnt β τ i (mm / 100) (k + 1)) := fun mm he => by unfold ovA; rw [he]
    have step : ∀ mm, mm ≤ 1008 → evk β τ i k = some mm → ∀ l6 : Option Value, ∃ J1, (∀ b, b ≠ 6 → J1 b = I b) ∧ TL β τ k 10 (J1 6) ∧ (if cnt β τ i (mm / 100) k + 1 ≤ 9 then sm_at (sm_ex (d + 3)) none 81 6 [some (.ref 3), some (.ref r), some (.int (nI (τ 1 k))), some (.int (nI (τ 2 k))), some (.int (bo (anyN (ovA β τ k) i = true))), some (.int (nI (i + 1))), l6] [] 81 (sm_up J 6 (i * 11 + mm / 100) (nI (cnt β τ i (mm / 100) k + 1))) L (pX sw) else sm_at (sm_ex (d + 3)) none 81 6 [some (.ref 3), some (.ref r), some (.int (nI (τ 1 k))), some (.int (nI (τ 2 k))), some (.int (nI 1)), some (.int (nI (i + 1))), l6] [] 81 (sm_up J 6 (i * 11 + mm / 100) (nI (cnt β τ i (mm / 100) k + 1))) L (pX sw)) = some (some (.int (bo (anyN (ovA β τ k) 10 = true))), 81, J1, L, pX sw) := by
      intro mm hmm he l6
      obtain ⟨s1, s2, s3⟩ := hTs mm hmm he
      obtain ⟨J1, j1, j2, j3⟩ := ih (i + 1) (by omega) (sm_up J 6 (i * 11 + mm / 100) (nI (cnt β τ i (mm / 100) k + 1))) l6 (fun b hb => by rw [up_row hb]; exact hJ b hb) s3
      refine ⟨J1, j1, j2, ?_⟩
      rw [anyN_s, hov mm he, s2] at j3
      by_cases hc : cnt β τ i (mm / 100) k + 1 ≤ 9
      · rw [if_pos hc]
        rw [decide_eq_false (by omega), Bool.or_false] at j3
        exact j3
      · rw [if_neg hc]
        rw [decide_eq_true (by omega), Bool.or_true, bo_t rfl] at j3
        exact j3
    by_cases e : i = τ 1 k
    · have he : evk β τ i k = some (τ 2 k) := by unfold evk; rw [if_pos e]
      obtain ⟨s1, s2, s3⟩ := hTs _ (by omega) he
      have hle : cnt β τ i (τ 2 k / 100) k ≤ k := cnt_le
      obtain ⟨J1, j1, j2, j3⟩ := step _ (by omega) he (some (.int (nI 0)))
      have c1' : ¬ 10 ≤ τ 1 k := by omega
      refine ⟨J1, j1, j2, ?_⟩
      by_cases hc : cnt β τ i (τ 2 k / 100) k + 1 ≤ 9
      · rw [if_pos hc] at j3
        simp (discharger := first | assumption | omega | decide) only [s81_0, s81_1, s81_3, s81_4, s81_8, s81_10, s81_13, s81_15, s81_16, s81_19, s81_20, s81_23, s81_23n, s81_24, s81_25, s81_27, s81_30, s81_32, s81_34, s81_35, s81_38, s81_40, s81_41, s81_43, s81_44, s81_46, s81_47, s81_50, s81_52, s81_55, s81_56, s81_59, s81_60, s81_61, s81_63, s81_66, s81_69, s81_71, ltI, geL, leL, not_true_eq_false, not_false_eq_true, if_true, if_false, and_self, and_true, true_and, and_false, false_and, or_self, or_true, true_or, or_false, false_or, bo_T, bo_F, bo_e0, nI10, nI00, nI11, nI01, bo_e1, nem, eqL, af_v, af_0, rf_s, rf_n, nn, ite_self, ly3, p3_0, p3_1, p3_2, leN, c1, c1', eqN, e, sm_cl, neN1, addN, Nat.add_zero]
        rw [e] at s1 hc hle j3
        simp (discharger := first | assumption | omega | decide) only [c_talliedFor o.1 (show τ 2 k ≤ 1008 by omega) s1 (by omega), s81_0, s81_1, s81_3, s81_4, s81_8, s81_10, s81_13, s81_15, s81_16, s81_19, s81_20, s81_23, s81_23n, s81_24, s81_25, s81_27, s81_30, s81_32, s81_34, s81_35, s81_38, s81_40, s81_41, s81_43, s81_44, s81_46, s81_47, s81_50, s81_52, s81_55, s81_56, s81_59, s81_60, s81_61, s81_63, s81_66, s81_69, s81_71, ltI, geL, leL, not_true_eq_false, not_false_eq_true, if_true, if_false, and_self, and_true, true_and, and_false, false_and, or_self, or_true, true_or, or_false, false_or, bo_T, bo_F, bo_e0, nI10, nI00, nI11, nI01, bo_e1, nem, eqL, af_v, af_0, rf_s, rf_n, nn, ite_self, leN, hc, or0, addN, sm_cl]
        exact j3
      · rw [if_neg hc] at j3
        simp (discharger := first | assumption | omega | decide) only [s81_0, s81_1, s81_3, s81_4, s81_8, s81_10, s81_13, s81_15, s81_16, s81_19, s81_20, s81_23, s81_23n, s81_24, s81_25, s81_27, s81_30, s81_32, s81_34, s81_35, s81_38, s81_40, s81_41, s81_43, s81_44, s81_46, s81_47, s81_50, s81_52, s81_55, s81_56, s81_59, s81_60, s81_61, s81_63, s81_66, s81_69, s81_71, ltI, geL, leL, not_true_eq_false, not_false_eq_true, if_true, if_false, and_self, and_true, true_and, and_false, false_and, or_self, or_true, true_or, or_false, false_or, bo_T, bo_F, bo_e0, nI10, nI00, nI11, nI01, bo_e1, nem, eqL, af_v, af_0, rf_s, rf_n, nn, ite_self, ly3, p3_0, p3_1, p3_2, leN, c1, c1', eqN, e, sm_cl, neN1, addN, Nat.add_zero]
        rw [e] at s1 hc hle j3
        simp (discharger := first | assumption | omega | decide) only [c_talliedFor o.1 (show τ 2 k ≤ 1008 by omega) s1 (by omega), s81_0, s81_1, s81_3, s81_4, s81_8, s81_10, s81_13, s81_15, s81_16, s81_19, s81_20, s81_23, s81_23n, s81_24, s81_25, s81_27, s81_30, s81_32, s81_34, s81_35, s81_38, s81_40, s81_41, s81_43, s81_44, s81_46, s81_47, s81_50, s81_52, s81_55, s81_56, s81_59, s81_60, s81_61, s81_63, s81_66, s81_69, s81_71, ltI, geL, leL, not_true_eq_false, not_false_eq_true, if_true, if_false, and_self, and_true, true_and, and_false, false_and, or_self, or_true, true_or, or_false, false_or, bo_T, bo_F, bo_e0, nI10, nI00, nI11, nI01, bo_e1, nem, eqL, af_v, af_0, rf_s, rf_n, nn, ite_self, leN, hc, or1, addN, sm_cl]
        exact j3
    · cases hd : dl β (τ 1 k) i with
      | none =>
        have he : evk β τ i k = none := by unfold evk; rw [if_neg e, hd]; rfl
        obtain ⟨J1, j1, j2, j3⟩ := ih (i + 1) (by omega) J (some (.int (-1))) hJ (hTn he)
        refine ⟨J1, j1, j2, ?_⟩
        have : ovA β τ k i = false := by unfold ovA; rw [he]
        rw [anyN_s, this, Bool.or_false] at j3
        simp (discharger := first | assumption | omega | decide) only [s81_0, s81_1, s81_3, s81_4, s81_8, s81_10, s81_13, s81_15, s81_16, s81_19, s81_20, s81_23, s81_23n, s81_24, s81_25, s81_27, s81_30, s81_32, s81_34, s81_35, s81_38, s81_40, s81_41, s81_43, s81_44, s81_46, s81_47, s81_50, s81_52, s81_55, s81_56, s81_59, s81_60, s81_61, s81_63, s81_66, s81_69, s81_71, ltI, geL, leL, not_true_eq_false, not_false_eq_true, if_true, if_false, and_self, and_true, true_and, and_false, false_and, or_self, or_true, true_or, or_false, false_or, bo_T, bo_F, bo_e0, nI10, nI00, nI11, nI01, bo_e1, nem, eqL, af_v, af_0, rf_s, rf_n, nn, ite_self, ly3, p3_0, p3_1, p3_2, leN, c1, eqN, e, sm_cl, r_delay A RJ B o.1 hi10, hd, oI, addN]
        exact j3
      | some s =>
        have hs := dl_le B o.1 hi10 hd
        have he : evk β τ i k = some (τ 2 k + s) := by unfold evk; rw [if_neg e, hd]; rfl
        obtain ⟨s1, s2, s3⟩ := hTs _ (by omega) he
        have hle : cnt β τ i ((τ 2 k + s) / 100) k ≤ k := cnt_le
        obtain ⟨J1, j1, j2, j3⟩ := step _ (by omega) he (some (.int (nI s)))
        refine ⟨J1, j1, j2, ?_⟩
        by_cases hc : cnt β τ i ((τ 2 k + s) / 100) k + 1 ≤ 9
        · rw [if_pos hc] at j3
          simp (discharger := first | assumption | omega | decide) only [s81_0, s81_1, s81_3, s81_4, s81_8, s81_10, s81_13, s81_15, s81_16, s81_19, s81_20, s81_23, s81_23n, s81_24, s81_25, s81_27, s81_30, s81_32, s81_34, s81_35, s81_38, s81_40, s81_41, s81_43, s81_44, s81_46, s81_47, s81_50, s81_52, s81_55, s81_56, s81_59, s81_60, s81_61, s81_63, s81_66, s81_69, s81_71, ltI, geL, leL, not_true_eq_false, not_false_eq_true, if_true, if_false, and_self, and_true, true_and, and_false, false_and, or_self, or_true, true_or, or_false, false_or, bo_T, bo_F, bo_e0, nI10, nI00, nI11, nI01, bo_e1, nem, eqL, af_v, af_0, rf_s, rf_n, nn, ite_self, ly3, p3_0, p3_1, p3_2, leN, c1, eqN, e, sm_cl, r_delay A RJ B o.1 hi10, hd, oI, neN1, addN, c_talliedFor hi10 (show τ 2 k + s ≤ 1008 by omega) s1 (by omega), hc, or0]
          exact j3
        · rw [if_neg hc] at j3
          simp (discharger := first | assumption | omega | decide) only [s81_0, s81_1, s81_3, s81_4, s81_8, s81_10, s81_13, s81_15, s81_16, s81_19, s81_20, s81_23, s81_23n, s81_24, s81_25, s81_27, s81_30, s81_32, s81_34, s81_35, s81_38, s81_40, s81_41, s81_43, s81_44, s81_46, s81_47, s81_50, s81_52, s81_55, s81_56, s81_59, s81_60, s81_61, s81_63, s81_66, s81_69, s81_71, ltI, geL, leL, not_true_eq_false, not_false_eq_true, if_true, if_false, and_self, and_true, true_and, and_false, false_and, or_self, or_true, true_or, or_false, false_or, bo_T, bo_F, bo_e0, nI10, nI00, nI11, nI01, bo_e1, nem, eqL, af_v, af_0, rf_s, rf_n, nn, ite_self, ly3, p3_0, p3_1, p3_2, leN, c1, eqN, e, sm_cl, r_delay A RJ B o.1 hi10, hd, oI, neN1, addN, c_talliedFor hi10 (show τ 2 k + s ≤ 1008 by omega) s1 (by omega), hc, or1]
          exact j3
end OV
