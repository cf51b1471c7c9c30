section OW
variable {d N : Nat} {I J : sm_Im} {L : sm_Lm} {P : sm_Pm} {sw : Bool} {x y z u v : Int32} {a b m n q kd am mn j p r k nb t f c : Nat} {w : Int64} {β τ : Nat → Nat → Nat}
theorem j_fill_loop (ha : a < N) (hal : 0 < sm_al a) : ∀ (k i : Nat), i + k = sm_al a → sm_at (sm_ex d) none 215 5 [some (.ref a), some (.int v), some (.int (nI i)), some (.int (nI (sm_al a)))] [] N (lays I a 0 (fun _ => v) i) L P = some (none, N, lays I a 0 (fun _ => v) (sm_al a), L, P) := by
  have h1 := sm_al_le a
  intro k
  induction k with
  | zero =>
    intro i hi
    obtain rfl : i = sm_al a := by omega
    rw [s215_5]
    simp (discharger := first | assumption | omega | decide) only [s215_0, s215_1, s215_2, s215_4, s215_6, s215_7, s215_10, s215_11, s215_12, s215_13, s215_14, s215_17, s215_20, s215_3a, ltI, geL, leL, not_true_eq_false, not_false_eq_true, if_true, if_false, and_self, and_true, true_and, and_false, false_and, or_self, or_true, true_or, or_false, false_or, bo_T, bo_F, bo_e0, nI10, nI00, nI11, nI01, bo_e1, nem, eqL, af_v, af_0, rf_s, rf_n, nn, ite_self, Int32.le_refl]
  | succ k ih =>
    intro i hi
    have c1 : ¬ sm_al a ≤ i := by omega
    have := ih (i + 1) (by omega)
    have e : lays I a 0 (fun _ => v) (i + 1) = sm_up (lays I a 0 (fun _ => v) i) a i v := by show sm_up _ a (0 + i) v = _; rw [Nat.zero_add]
    rw [e] at this
    rw [s215_5]
    simp (discharger := first | assumption | omega | decide) only [s215_0, s215_1, s215_2, s215_4, s215_6, s215_7, s215_10, s215_11, s215_12, s215_13, s215_14, s215_17, s215_20, s215_3a, ltI, geL, leL, not_true_eq_false, not_false_eq_true, if_true, if_false, and_self, and_true, true_and, and_false, false_and, or_self, or_true, true_or, or_false, false_or, bo_T, bo_F, bo_e0, nI10, nI00, nI11, nI01, bo_e1, nem, eqL, af_v, af_0, rf_s, rf_n, nn, ite_self, leN, c1, addN, sm_cl]
    exact this
theorem j_fill (ha : a < N) (hal : 0 < sm_al a) : sm_ex (d + 1) 215 [.ref a, .int v] N I L P = some (none, N, lays I a 0 (fun _ => v) (sm_al a), L, P) := by
  rw [e215]
  simp (discharger := first | assumption | omega | decide) only [s215_0, s215_1, s215_2, s215_4, s215_6, s215_7, s215_10, s215_11, s215_12, s215_13, s215_14, s215_17, s215_20, s215_3a, ltI, geL, leL, not_true_eq_false, not_false_eq_true, if_true, if_false, and_self, and_true, true_and, and_false, false_and, or_self, or_true, true_or, or_false, false_or, bo_T, bo_F, bo_e0, nI10, nI00, nI11, nI01, bo_e1, nem, eqL, af_v, af_0, rf_s, rf_n, nn, ite_self, sm_cl]
  exact j_fill_loop ha hal (sm_al a) 0 (Nat.zero_add _)
/-- the first i from a start on, out of so many, that is so -/
def firstF (f : Nat → Bool) : Nat → Nat → Option Nat
  | 0, _ => none
  | j + 1, i => if f i = true then some i else firstF f j (i + 1)
theorem c_isOverBehind (A : RA r) (hr : 37 ≤ r) (R : RB r I β) (B : BOk β) (O : TOk τ) (hk : k < τ 0 0) (hT : TL β τ k 0 (I 6)) : ∃ J1, (∀ b, b ≠ 6 → J1 b = I b) ∧ TL β τ (k + 1) 0 (J1 6) ∧ sm_ex (d + 4) 81 [.ref 3, .ref r, .int (nI (τ 1 k)), .int (nI (τ 2 k))] 81 I L (pX sw) = some (some (.int (bo (anyN (ovA β τ k) 10 = true))), 81, J1, L, pX sw) := by
  obtain ⟨J1, j1, j2, j3⟩ := c_isOverBehind_loop (d := d) (L := L) (sw := sw) A hr R B O hk 10 0 rfl I none (fun _ _ => rfl) hT
  refine ⟨J1, j1, fun c hc => ?_, ?_⟩
  · rw [j2 c hc, if_pos (by omega), if_neg (by omega)]
  · rw [e81]
    simp only [s81_0, s81_1, s81_3, s81_4, s81_8, s81_10, s81_13, s81_15, s81_16, s81_19, s81_20, s81_23, s81_23n, s81_24, s81_25, s81_27, s81_30, s81_32, s81_34, s81_35, s81_38, s81_40, s81_41, s81_43, s81_44, s81_46, s81_47, s81_50, s81_52, s81_55, s81_56, s81_59, s81_60, s81_61, s81_63, s81_66, s81_69, s81_71, ltI, geL, leL, not_true_eq_false, not_false_eq_true, if_true, if_false, and_self, and_true, true_and, and_false, false_and, or_self, or_true, true_or, or_false, false_or, bo_T, bo_F, bo_e0, nI10, nI00, nI11, nI01, bo_e1, nem, eqL, af_v, af_0, rf_s, rf_n, nn, ite_self, sm_cl]
    exact j3
theorem c_firstOver_loop (A : RA r) (hr : 37 ≤ r) (R : RB r I β) (B : BOk β) (T : RTC I τ) (O : TOk τ) : ∀ (g i : Nat), i + g = τ 0 0 → ∀ J : sm_Im, (∀ b, b ≠ 6 → J b = I b) → TL β τ i 0 (J 6) → ∃ J1, (∀ b, b ≠ 6 → J1 b = I b) ∧ sm_at (sm_ex (d + 4)) none 80 10 [some (.ref 3), some (.ref r), some (.int (nI i))] [] 81 J L (pX sw) = some (some (.int (oI (firstF (fun k => anyN (ovA β τ k) 10) g i))), 81, J1, L, pX sw) := by
  have A1 := A.1
  have A2 := A.2.1
  have o1 := O.1
  intro g
  induction g with
  | zero =>
    intro i hi J hJ hT
    obtain rfl : i = τ 0 0 := by omega
    refine ⟨J, hJ, ?_⟩
    have t1 : J 3 3 = nI (τ 0 0) := by rw [hJ 3 (by decide)]; exact T.1
    rw [s80_10]
    simp (discharger := (first | omega | decide | (simp only [ly3, p3_0, p3_1, p3_2]; omega))) only [s80_0, s80_1, s80_4, s80_5, s80_8, s80_9, s80_11, s80_12, s80_15, s80_18, s80_19, s80_21, s80_24, s80_25, s80_25n, s80_26, s80_27, s80_30, s80_31, s80_32, s80_33, s80_36, s80_37, s80_38, s80_41, s80_44, s80_45, s80_46, s80_49, s80_52, s80_53, ltI, geL, leL, not_true_eq_false, not_false_eq_true, if_true, if_false, and_self, and_true, true_and, and_false, false_and, or_self, or_true, true_or, or_false, false_or, bo_T, bo_F, bo_e0, nI10, nI00, nI11, nI01, bo_e1, nem, eqL, af_v, af_0, rf_s, rf_n, nn, ite_self, ly3, p3_0, p3_1, p3_2, t1, leN, Nat.le_refl, firstF, oI]
  | succ g ih =>
    intro i hi J hJ hT
    have hi2 : i < τ 0 0 := by omega
    have c1 : ¬ τ 0 0 ≤ i := by omega
    have c2 : ¬ 12 ≤ i := by omega
    have t1 : J 3 3 = nI (τ 0 0) := by rw [hJ 3 (by decide)]; exact T.1
    have t2 : J 4 i = nI (τ 1 i) := by rw [hJ 4 (by decide)]; exact (T.2 i hi2).1
    have t3 : J 5 i = nI (τ 2 i) := by rw [hJ 5 (by decide)]; exact (T.2 i hi2).2
    obtain ⟨J2, k1, k2, k3⟩ := c_isOverBehind (d := d) (L := L) (sw := sw) A hr (RB_cong hr (fun b hb => hJ b (by omega)) R) B O hi2 hT
    have hJ2 : ∀ b, b ≠ 6 → J2 b = I b := fun b hb => (k1 b hb).trans (hJ b hb)
    rw [s80_10]
    by_cases c : anyN (ovA β τ i) 10 = true
    · refine ⟨J2, hJ2, ?_⟩
      simp (discharger := first | assumption | omega | decide | (simp only [ly3, p3_0, p3_1, p3_2, ly4, al4, ly5, al5]; omega)) only [s80_0, s80_1, s80_4, s80_5, s80_8, s80_9, s80_11, s80_12, s80_15, s80_18, s80_19, s80_21, s80_24, s80_25, s80_25n, s80_26, s80_27, s80_30, s80_31, s80_32, s80_33, s80_36, s80_37, s80_38, s80_41, s80_44, s80_45, s80_46, s80_49, s80_52, s80_53, ltI, geL, leL, not_true_eq_false, not_false_eq_true, if_true, if_false, and_self, and_true, true_and, and_false, false_and, or_self, or_true, true_or, or_false, false_or, bo_T, bo_F, bo_e0, nI10, nI00, nI11, nI01, bo_e1, nem, eqL, af_v, af_0, rf_s, rf_n, nn, ite_self, ly3, p3_0, p3_1, p3_2, ly4, al4, ly5, al5, t1, t2, t3, leN, c1, c2, k3, c, firstF, oI]
    · obtain ⟨J1, j1, j2⟩ := ih (i + 1) (by omega) J2 hJ2 k2
      refine ⟨J1, j1, ?_⟩
      simp (discharger := first | assumption | omega | decide | (simp only [ly3, p3_0, p3_1, p3_2, ly4, al4, ly5, al5]; omega)) only [s80_0, s80_1, s80_4, s80_5, s80_8, s80_9, s80_11, s80_12, s80_15, s80_18, s80_19, s80_21, s80_24, s80_25, s80_25n, s80_26, s80_27, s80_30, s80_31, s80_32, s80_33, s80_36, s80_37, s80_38, s80_41, s80_44, s80_45, s80_46, s80_49, s80_52, s80_53, ltI, geL, leL, not_true_eq_false, not_false_eq_true, if_true, if_false, and_self, and_true, true_and, and_false, false_and, or_self, or_true, true_or, or_false, false_or, bo_T, bo_F, bo_e0, nI10, nI00, nI11, nI01, bo_e1, nem, eqL, af_v, af_0, rf_s, rf_n, nn, ite_self, ly3, p3_0, p3_1, p3_2, ly4, al4, ly5, al5, t1, t2, t3, leN, c1, c2, k3, c, firstF, addN, sm_cl, Bool.false_eq_true]
      exact j2
theorem c_over (R : RB (rg sw) I β) (B : BOk β) (T : RTC I τ) (O : TOk τ) : ∃ J1, (∀ b, b ≠ 6 → J1 b = I b) ∧ sm_ex (d + 6) 107 [.ref 0] 81 I L (pX sw) = some (some (.int (oI (firstF (fun k => anyN (ovA β τ k) 10) (τ 0 0) 0))), 81, J1, L, pX sw) := by
  have A1 := (RA_rg sw).1
  have A2 := (RA_rg sw).2.1
  have hJ : ∀ b, b ≠ 6 → lays I 6 0 (fun _ => nI 0) 110 b = I b := fun b hb => lays_row hb 110
  obtain ⟨J1, j1, j2⟩ := c_firstOver_loop (d := d) (L := L) (sw := sw) (RA_rg sw) (rg_ge sw) R B T O (τ 0 0) 0 (Nat.zero_add _) (lays I 6 0 (fun _ => nI 0) 110) hJ (fun c hc => by rw [lays_at, if_pos (by omega), if_neg (by omega)]; rfl)
  refine ⟨J1, j1, ?_⟩
  rw [e107]
  have key : sm_ex (d + 5) 80 [.ref 3, .ref (rg sw)] 81 I L (pX sw) = some (some (.int (oI (firstF (fun k => anyN (ovA β τ k) 10) (τ 0 0) 0))), 81, J1, L, pX sw) := by
    rw [e80]
    simp (discharger := first | assumption | omega | decide | (simp only [ly3, p3_0, p3_1, p3_2, ly6, al6]; omega)) only [s80_0, s80_1, s80_4, s80_5, s80_8, s80_9, s80_11, s80_12, s80_15, s80_18, s80_19, s80_21, s80_24, s80_25, s80_25n, s80_26, s80_27, s80_30, s80_31, s80_32, s80_33, s80_36, s80_37, s80_38, s80_41, s80_44, s80_45, s80_46, s80_49, s80_52, s80_53, ltI, geL, leL, not_true_eq_false, not_false_eq_true, if_true, if_false, and_self, and_true, true_and, and_false, false_and, or_self, or_true, true_or, or_false, false_or, bo_T, bo_F, bo_e0, nI10, nI00, nI11, nI01, bo_e1, nem, eqL, af_v, af_0, rf_s, rf_n, nn, ite_self, ly3, p3_0, p3_1, p3_2, ly6, al6, j_fill, sm_cl]
    exact j2
  simp (discharger := (first | omega | decide | (simp only [ly0, p0_0, p0_1, p0_2, p0_3, p0_4, p0_5, p0_6, p0_7, p0_8, p0_9, ly3, p3_0, p3_1, p3_2]; omega))) only [s107_0, s107_1, s107_4, s107_5, s107_8, s107_11, ltI, geL, leL, not_true_eq_false, not_false_eq_true, if_true, if_false, and_self, and_true, true_and, and_false, false_and, or_self, or_true, true_or, or_false, false_or, bo_T, bo_F, bo_e0, nI10, nI00, nI11, nI01, bo_e1, nem, eqL, af_v, af_0, rf_s, rf_n, nn, ite_self, ly0, p0_0, p0_1, p0_2, p0_3, p0_4, p0_5, p0_6, p0_7, p0_8, p0_9, ly3, p3_0, p3_1, p3_2, key]
/-- the reference -/
def own (τ : Nat → Nat → Nat) (p day k : Nat) : Bool := decide (τ 1 k = p ∧ τ 2 k / 100 = day)
theorem cn_split {f g h : Nat → Bool} (n : Nat) (e : ∀ k, k < n → (if f k = true then 1 else 0) + (if g k = true then 1 else 0) = (if h k = true then 1 else 0)) : cn f n + cn g n = cn h n := by
  induction n with
  | zero => rfl
  | succ n ih =>
    have h1 := ih (fun k hk => e k (by omega))
    have h2 := e n (by omega)
    rw [cn_s, cn_s, cn_s]
    omega
theorem flown (B : BOk β) (O : TOk τ) (hp : p < 10) (hn : n ≤ τ 0 0) (hq : q < 20) : cn (fl β τ p (nI (100 * q)) (nI (100 * q + 99))) n + cn (own τ p q) n = cnt β τ p q n := by
  refine cn_split n (fun k hk => ?_)
  have o := O.2 k (by omega)
  unfold fl own hit evk
  by_cases e : p = τ 1 k
  · rw [if_pos e, e, dl_self]
    by_cases e2 : τ 2 k / 100 = q <;> simp [e2]
  · rw [if_neg e]
    have e3 : ¬ τ 1 k = p := fun z => e z.symm
    cases hd : dl β (τ 1 k) p with
    | none => simp [e3]
    | some s =>
      have hs := dl_le B o.1 hp hd
      simp only [Option.map_some, e3, false_and, decide_false, Bool.false_eq_true, if_false, Nat.add_zero]
      have e5 : (nI (100 * q) ≤ nI (τ 2 k + s)) = (100 * q ≤ τ 2 k + s) := leN (by omega) (by omega)
      have e6 : (nI (τ 2 k + s) ≤ nI (100 * q + 99)) = (τ 2 k + s ≤ 100 * q + 99) := leN (by omega) (by omega)
      simp only [e5, e6]
      by_cases e4 : (τ 2 k + s) / 100 = q
      · have e7 : 100 * q ≤ τ 2 k + s ∧ τ 2 k + s ≤ 100 * q + 99 := by omega
        rw [if_pos (decide_eq_true e7), if_pos (decide_eq_true e4)]
      · have e7 : ¬ (100 * q ≤ τ 2 k + s ∧ τ 2 k + s ≤ 100 * q + 99) := by omega
        rw [if_neg (fun z => e7 (of_decide_eq_true z)), if_neg (fun z => e4 (of_decide_eq_true z))]
theorem m_isOver_3 (T : RTM I τ) (O : TOk τ) (hp : p < 10) (hn : n ≤ τ 0 0) (hq : q < 20) (hc : c ≤ 1000) : ∀ (k i : Nat), i + k = n → ∀ (l2 : Option Value) (Z : Option sm_Rs), sm_at (sm_ex d) none 174 98 [some (.ref 63), some (.int (nI n)), l2, some (.int (nI p)), some (.int (nI q)), some (.int (nI (c + cn (own τ p q) n))), some (.int (nI n))] [] 81 I L (pX sw) = Z → sm_at (sm_ex d) none 174 44 [some (.ref 63), some (.int (nI n)), l2, some (.int (nI p)), some (.int (nI q)), some (.int (nI (c + cn (own τ p q) i))), some (.int (nI i))] [] 81 I L (pX sw) = Z := by
  have o1 := O.1
  intro k
  induction k with
  | zero =>
    intro i hi l2 Z hZ
    obtain rfl : i = n := by omega
    rw [s174_44]
    simp (discharger := first | assumption | omega | decide) only [s174_46, s174_47, ltI, geL, leL, not_true_eq_false, not_false_eq_true, if_true, if_false, and_self, and_true, true_and, and_false, false_and, or_self, or_true, true_or, or_false, false_or, bo_T, bo_F, bo_e0, nI10, nI00, nI11, nI01, bo_e1, nem, eqL, af_v, af_0, rf_s, rf_n, nn, ite_self, Int32.le_refl]
    exact hZ
  | succ k ih =>
    intro i hi l2 Z hZ
    have c1 : ¬ n ≤ i := by omega
    have t2 := T.2 i (by omega)
    have o := O.2 i (by omega)
    have := ih (i + 1) (by omega) l2 Z hZ
    have z : ¬ nI 100 = 0 := by decide
    rw [s174_44]
    by_cases e1 : τ 1 i = p
    · by_cases e2 : τ 2 i / 100 = q
      · have e : own τ p q i = true := by unfold own; simp [e1, e2]
        rw [cn_s, e, if_pos rfl] at this
        simp (discharger := first | assumption | omega | decide | (simp only [ly63, p63_0, p63_1, p63_2, p63_7, p63_10, p63_11, p63_13, p63_14, p63_16, p63_18, p63_22, p63_23, p63_24, p63_30, p63_31, p63_32, p63_33, ly70, al70]; omega)) only [s174_0, s174_1, s174_2, s174_3, s174_5, s174_7, s174_10, s174_11, s174_15, s174_17, s174_20, s174_21, s174_22, s174_24, s174_26, s174_27, s174_29, s174_31, s174_32, s174_34, s174_35, s174_36, s174_39, s174_41, s174_42, s174_46, s174_47, s174_50, s174_52, s174_53, s174_56, s174_57, s174_59, s174_60, s174_61, s174_62, s174_65, s174_66, s174_69, s174_70, s174_72, s174_73, s174_74, s174_75, s174_76, s174_78, s174_79, s174_81, s174_84, s174_85, s174_88, s174_89, s174_90, s174_92, s174_95, s174_98, s174_99, s174_102, s174_104, s174_106, s174_109, s174_110, s174_113, s174_114, s174_115, s174_118, s174_121, s174_124, s174_127, s174_128, ltI, geL, leL, not_true_eq_false, not_false_eq_true, if_true, if_false, and_self, and_true, true_and, and_false, false_and, or_self, or_true, true_or, or_false, false_or, bo_T, bo_F, bo_e0, nI10, nI00, nI11, nI01, bo_e1, nem, eqL, af_v, af_0, rf_s, rf_n, nn, ite_self, ly63, p63_0, p63_1, p63_2, p63_7, p63_10, p63_11, p63_13, p63_14, p63_16, p63_18, p63_22, p63_23, p63_24, p63_30, p63_31, p63_32, p63_33, ly70, al70, leN, c1, mulN, addN, t2.1, t2.2, eqN, e1, divN, e2, sm_cl, Nat.add_assoc]
        exact this
      · have e : own τ p q i = false := by unfold own; simp [e2]
        rw [cn_s, e, if_neg (by decide), Nat.add_zero] at this
        simp (discharger := first | assumption | omega | decide | (simp only [ly63, p63_0, p63_1, p63_2, p63_7, p63_10, p63_11, p63_13, p63_14, p63_16, p63_18, p63_22, p63_23, p63_24, p63_30, p63_31, p63_32, p63_33, ly70, al70]; omega)) only [s174_0, s174_1, s174_2, s174_3, s174_5, s174_7, s174_10, s174_11, s174_15, s174_17, s174_20, s174_21, s174_22, s174_24, s174_26, s174_27, s174_29, s174_31, s174_32, s174_34, s174_35, s174_36, s174_39, s174_41, s174_42, s174_46, s174_47, s174_50, s174_52, s174_53, s174_56, s174_57, s174_59, s174_60, s174_61, s174_62, s174_65, s174_66, s174_69, s174_70, s174_72, s174_73, s174_74, s174_75, s174_76, s174_78, s174_79, s174_81, s174_84, s174_85, s174_88, s174_89, s174_90, s174_92, s174_95, s174_98, s174_99, s174_102, s174_104, s174_106, s174_109, s174_110, s174_113, s174_114, s174_115, s174_118, s174_121, s174_124, s174_127, s174_128, ltI, geL, leL, not_true_eq_false, not_false_eq_true, if_true, if_false, and_self, and_true, true_and, and_false, false_and, or_self, or_true, true_or, or_false, false_or, bo_T, bo_F, bo_e0, nI10, nI00, nI11, nI01, bo_e1, nem, eqL, af_v, af_0, rf_s, rf_n, nn, ite_self, ly63, p63_0, p63_1, p63_2, p63_7, p63_10, p63_11, p63_13, p63_14, p63_16, p63_18, p63_22, p63_23, p63_24, p63_30, p63_31, p63_32, p63_33, ly70, al70, leN, c1, mulN, addN, t2.1, t2.2, eqN, e1, divN, e2, sm_cl, Nat.add_zero]
        exact this
    · have e : own τ p q i = false := by unfold own; simp [e1]
      rw [cn_s, e, if_neg (by decide), Nat.add_zero] at this
      simp (discharger := first | assumption | omega | decide | (simp only [ly63, p63_0, p63_1, p63_2, p63_7, p63_10, p63_11, p63_13, p63_14, p63_16, p63_18, p63_22, p63_23, p63_24, p63_30, p63_31, p63_32, p63_33, ly70, al70]; omega)) only [s174_0, s174_1, s174_2, s174_3, s174_5, s174_7, s174_10, s174_11, s174_15, s174_17, s174_20, s174_21, s174_22, s174_24, s174_26, s174_27, s174_29, s174_31, s174_32, s174_34, s174_35, s174_36, s174_39, s174_41, s174_42, s174_46, s174_47, s174_50, s174_52, s174_53, s174_56, s174_57, s174_59, s174_60, s174_61, s174_62, s174_65, s174_66, s174_69, s174_70, s174_72, s174_73, s174_74, s174_75, s174_76, s174_78, s174_79, s174_81, s174_84, s174_85, s174_88, s174_89, s174_90, s174_92, s174_95, s174_98, s174_99, s174_102, s174_104, s174_106, s174_109, s174_110, s174_113, s174_114, s174_115, s174_118, s174_121, s174_124, s174_127, s174_128, ltI, geL, leL, not_true_eq_false, not_false_eq_true, if_true, if_false, and_self, and_true, true_and, and_false, false_and, or_self, or_true, true_or, or_false, false_or, bo_T, bo_F, bo_e0, nI10, nI00, nI11, nI01, bo_e1, nem, eqL, af_v, af_0, rf_s, rf_n, nn, ite_self, ly63, p63_0, p63_1, p63_2, p63_7, p63_10, p63_11, p63_13, p63_14, p63_16, p63_18, p63_22, p63_23, p63_24, p63_30, p63_31, p63_32, p63_33, ly70, al70, leN, c1, mulN, addN, t2.1, eqN, e1, sm_cl, Nat.add_zero]
      exact this
def ovM (β τ : Nat → Nat → Nat) (n p : Nat) : Bool := anyN (fun q => decide (9 < cnt β τ p q n)) 20
theorem m_isOver_2 (R : RMB I β) (B : BOk β) (T : RTM I τ) (O : TOk τ) (hp : p < 10) (hn : n ≤ τ 0 0) : ∀ (k i : Nat), i + k = 20 → ∀ (g : Bool) (l5 l6 : Option Value) (Z : Option sm_Rs), (∀ l5 l6 : Option Value, sm_at (sm_ex (d + 3)) none 174 121 [some (.ref 63), some (.int (nI n)), some (.int (bo ((g || ovM β τ n p) = true))), some (.int (nI p)), some (.int (nI 20)), l5, l6] [] 81 I L (pX sw) = Z) → sm_at (sm_ex (d + 3)) none 174 13 [some (.ref 63), some (.int (nI n)), some (.int (bo ((g || anyN (fun q => decide (9 < cnt β τ p q n)) i) = true))), some (.int (nI p)), some (.int (nI i)), l5, l6] [] 81 I L (pX sw) = Z := by
  have o1 := O.1
  intro k
  induction k with
  | zero =>
    intro i hi g l5 l6 Z hZ
    obtain rfl : i = 20 := by omega
    rw [s174_13]
    simp only [s174_15, s174_17, ltI, geL, leL, not_true_eq_false, not_false_eq_true, if_true, if_false, and_self, and_true, true_and, and_false, false_and, or_self, or_true, true_or, or_false, false_or, bo_T, bo_F, bo_e0, nI10, nI00, nI11, nI01, bo_e1, nem, eqL, af_v, af_0, rf_s, rf_n, nn, ite_self, Int32.le_refl]
    exact hZ _ _
  | succ k ih =>
    intro i hi g l5 l6 Z hZ
    have c1 : ¬ 20 ≤ i := by omega
    rw [s174_13]
    have hc : cn (fl β τ p (nI (100 * i)) (nI (100 * i + 99))) n ≤ n := cn_le _ n
    have hf := flown B O hp hn (show i < 20 by omega)
    have hle : cnt β τ p i n ≤ n := cnt_le
    have fin : ∀ l5 l6 : Option Value, sm_at (sm_ex (d + 3)) none 174 13 [some (.ref 63), some (.int (nI n)), some (.int (bo ((g || (anyN (fun q => decide (9 < cnt β τ p q n)) i || decide (9 < cnt β τ p i n))) = true))), some (.int (nI p)), some (.int (nI (i + 1))), l5, l6] [] 81 I L (pX sw) = Z := fun l5 l6 => ih (i + 1) (by omega) g l5 l6 Z hZ
    simp (discharger := first | assumption | omega | decide | (simp only [ly63, p63_0, p63_1, p63_2, p63_7, p63_10, p63_11, p63_13, p63_14, p63_16, p63_18, p63_22, p63_23, p63_24, p63_30, p63_31, p63_32, p63_33]; omega)) only [s174_0, s174_1, s174_2, s174_3, s174_5, s174_7, s174_10, s174_11, s174_15, s174_17, s174_20, s174_21, s174_22, s174_24, s174_26, s174_27, s174_29, s174_31, s174_32, s174_34, s174_35, s174_36, s174_39, s174_41, s174_42, s174_46, s174_47, s174_50, s174_52, s174_53, s174_56, s174_57, s174_59, s174_60, s174_61, s174_62, s174_65, s174_66, s174_69, s174_70, s174_72, s174_73, s174_74, s174_75, s174_76, s174_78, s174_79, s174_81, s174_84, s174_85, s174_88, s174_89, s174_90, s174_92, s174_95, s174_98, s174_99, s174_102, s174_104, s174_106, s174_109, s174_110, s174_113, s174_114, s174_115, s174_118, s174_121, s174_124, s174_127, s174_128, ltI, geL, leL, not_true_eq_false, not_false_eq_true, if_true, if_false, and_self, and_true, true_and, and_false, false_and, or_self, or_true, true_or, or_false, false_or, bo_T, bo_F, bo_e0, nI10, nI00, nI11, nI01, bo_e1, nem, eqL, af_v, af_0, rf_s, rf_n, nn, ite_self, ly63, p63_0, p63_1, p63_2, p63_7, p63_10, p63_11, p63_13, p63_14, p63_16, p63_18, p63_22, p63_23, p63_24, p63_30, p63_31, p63_32, p63_33, leN, c1, mulN, addN, m_feltOf R B T O hp hn, sm_cl]
    refine m_isOver_3 (c := cn (fl β τ p (nI (100 * i)) (nI (100 * i + 99))) n) T O hp hn (show i < 20 by omega) (by omega) n 0 (Nat.zero_add _) _ Z ?_
    rw [hf]
    by_cases cg : (g || anyN (fun q => decide (9 < cnt β τ p q n)) i) = true
    · have e : (g || (anyN (fun q => decide (9 < cnt β τ p q n)) i || decide (9 < cnt β τ p i n))) = true := by rw [← Bool.or_assoc, cg, Bool.true_or]
      simp only [e, bo_T] at fin
      simp (discharger := first | assumption | omega | decide) only [s174_0, s174_1, s174_2, s174_3, s174_5, s174_7, s174_10, s174_11, s174_15, s174_17, s174_20, s174_21, s174_22, s174_24, s174_26, s174_27, s174_29, s174_31, s174_32, s174_34, s174_35, s174_36, s174_39, s174_41, s174_42, s174_46, s174_47, s174_50, s174_52, s174_53, s174_56, s174_57, s174_59, s174_60, s174_61, s174_62, s174_65, s174_66, s174_69, s174_70, s174_72, s174_73, s174_74, s174_75, s174_76, s174_78, s174_79, s174_81, s174_84, s174_85, s174_88, s174_89, s174_90, s174_92, s174_95, s174_98, s174_99, s174_102, s174_104, s174_106, s174_109, s174_110, s174_113, s174_114, s174_115, s174_118, s174_121, s174_124, s174_127, s174_128, ltI, geL, leL, not_true_eq_false, not_false_eq_true, if_true, if_false, and_self, and_true, true_and, and_false, false_and, or_self, or_true, true_or, or_false, false_or, bo_T, bo_F, bo_e0, nI10, nI00, nI11, nI01, bo_e1, nem, eqL, af_v, af_0, rf_s, rf_n, nn, ite_self, cg, addN, sm_cl]
      exact fin _ _
    · have cg2 := Bool.eq_false_iff.mpr cg
      by_cases c9 : cnt β τ p i n ≤ 9
      · have e : (g || (anyN (fun q => decide (9 < cnt β τ p q n)) i || decide (9 < cnt β τ p i n))) = false := by rw [← Bool.or_assoc, cg2, decide_eq_false (by omega)]; rfl
        simp only [e, bo_F, Bool.false_eq_true] at fin
        simp (discharger := first | assumption | omega | decide) only [s174_0, s174_1, s174_2, s174_3, s174_5, s174_7, s174_10, s174_11, s174_15, s174_17, s174_20, s174_21, s174_22, s174_24, s174_26, s174_27, s174_29, s174_31, s174_32, s174_34, s174_35, s174_36, s174_39, s174_41, s174_42, s174_46, s174_47, s174_50, s174_52, s174_53, s174_56, s174_57, s174_59, s174_60, s174_61, s174_62, s174_65, s174_66, s174_69, s174_70, s174_72, s174_73, s174_74, s174_75, s174_76, s174_78, s174_79, s174_81, s174_84, s174_85, s174_88, s174_89, s174_90, s174_92, s174_95, s174_98, s174_99, s174_102, s174_104, s174_106, s174_109, s174_110, s174_113, s174_114, s174_115, s174_118, s174_121, s174_124, s174_127, s174_128, ltI, geL, leL, not_true_eq_false, not_false_eq_true, if_true, if_false, and_self, and_true, true_and, and_false, false_and, or_self, or_true, true_or, or_false, false_or, bo_T, bo_F, bo_e0, nI10, nI00, nI11, nI01, bo_e1, nem, eqL, af_v, af_0, rf_s, rf_n, nn, ite_self, cg, leN, c9, addN, sm_cl]
        exact fin _ _
      · have e : (g || (anyN (fun q => decide (9 < cnt β τ p q n)) i || decide (9 < cnt β τ p i n))) = true := by rw [← Bool.or_assoc, cg2, decide_eq_true (by omega)]; rfl
        simp only [e, bo_T] at fin
        simp (discharger := first | assumption | omega | decide) only [s174_0, s174_1, s174_2, s174_3, s174_5, s174_7, s174_10, s174_11, s174_15, s174_17, s174_20, s174_21, s174_22, s174_24, s174_26, s174_27, s174_29, s174_31, s174_32, s174_34, s174_35, s174_36, s174_39, s174_41, s174_42, s174_46, s174_47, s174_50, s174_52, s174_53, s174_56, s174_57, s174_59, s174_60, s174_61, s174_62, s174_65, s174_66, s174_69, s174_70, s174_72, s174_73, s174_74, s174_75, s174_76, s174_78, s174_79, s174_81, s174_84, s174_85, s174_88, s174_89, s174_90, s174_92, s174_95, s174_98, s174_99, s174_102, s174_104, s174_106, s174_109, s174_110, s174_113, s174_114, s174_115, s174_118, s174_121, s174_124, s174_127, s174_128, ltI, geL, leL, not_true_eq_false, not_false_eq_true, if_true, if_false, and_self, and_true, true_and, and_false, false_and, or_self, or_true, true_or, or_false, false_or, bo_T, bo_F, bo_e0, nI10, nI00, nI11, nI01, bo_e1, nem, eqL, af_v, af_0, rf_s, rf_n, nn, ite_self, cg, leN, c9, addN, sm_cl]
        exact fin _ _
theorem m_isOver_1 (R : RMB I β) (B : BOk β) (T : RTM I τ) (O : TOk τ) (hn : n ≤ τ 0 0) : ∀ (k i : Nat), i + k = 10 → ∀ (l4 l5 l6 : Option Value), sm_at (sm_ex (d + 3)) none 174 4 [some (.ref 63), some (.int (nI n)), some (.int (bo (anyN (ovM β τ n) i = true))), some (.int (nI i)), l4, l5, l6] [] 81 I L (pX sw) = some (some (.int (bo (anyN (ovM β τ n) 10 = true))), 81, I, L, pX sw) := by
  intro k
  induction k with
  | zero =>
    intro i hi l4 l5 l6
    obtain rfl : i = 10 := by omega
    rw [s174_4]
    simp (discharger := first | assumption | omega | decide | exact bo_01 _) only [s174_0, s174_1, s174_2, s174_3, s174_5, s174_7, s174_10, s174_11, s174_15, s174_17, s174_20, s174_21, s174_22, s174_24, s174_26, s174_27, s174_29, s174_31, s174_32, s174_34, s174_35, s174_36, s174_39, s174_41, s174_42, s174_46, s174_47, s174_50, s174_52, s174_53, s174_56, s174_57, s174_59, s174_60, s174_61, s174_62, s174_65, s174_66, s174_69, s174_70, s174_72, s174_73, s174_74, s174_75, s174_76, s174_78, s174_79, s174_81, s174_84, s174_85, s174_88, s174_89, s174_90, s174_92, s174_95, s174_98, s174_99, s174_102, s174_104, s174_106, s174_109, s174_110, s174_113, s174_114, s174_115, s174_118, s174_121, s174_124, s174_127, s174_128, ltI, geL, leL, not_true_eq_false, not_false_eq_true, if_true, if_false, and_self, and_true, true_and, and_false, false_and, or_self, or_true, true_or, or_false, false_or, bo_T, bo_F, bo_e0, nI10, nI00, nI11, nI01, bo_e1, nem, eqL, af_v, af_0, rf_s, rf_n, nn, ite_self, Int32.le_refl]
  | succ k ih =>
    intro i hi l4 l5 l6
    have c1 : ¬ 10 ≤ i := by omega
    rw [s174_4]
    simp (discharger := first | assumption | omega | decide) only [s174_0, s174_1, s174_2, s174_3, s174_5, s174_7, s174_10, s174_11, s174_15, s174_17, s174_20, s174_21, s174_22, s174_24, s174_26, s174_27, s174_29, s174_31, s174_32, s174_34, s174_35, s174_36, s174_39, s174_41, s174_42, s174_46, s174_47, s174_50, s174_52, s174_53, s174_56, s174_57, s174_59, s174_60, s174_61, s174_62, s174_65, s174_66, s174_69, s174_70, s174_72, s174_73, s174_74, s174_75, s174_76, s174_78, s174_79, s174_81, s174_84, s174_85, s174_88, s174_89, s174_90, s174_92, s174_95, s174_98, s174_99, s174_102, s174_104, s174_106, s174_109, s174_110, s174_113, s174_114, s174_115, s174_118, s174_121, s174_124, s174_127, s174_128, ltI, geL, leL, not_true_eq_false, not_false_eq_true, if_true, if_false, and_self, and_true, true_and, and_false, false_and, or_self, or_true, true_or, or_false, false_or, bo_T, bo_F, bo_e0, nI10, nI00, nI11, nI01, bo_e1, nem, eqL, af_v, af_0, rf_s, rf_n, nn, ite_self, leN, c1, sm_cl]
    have := m_isOver_2 (d := d) (L := L) (sw := sw) R B T O (show i < 10 by omega) hn 20 0 rfl (anyN (ovM β τ n) i) l5 l6 (some (some (.int (bo (anyN (ovM β τ n) 10 = true))), 81, I, L, pX sw)) (fun l5 l6 => by
      simp only [s174_0, s174_1, s174_2, s174_3, s174_5, s174_7, s174_10, s174_11, s174_15, s174_17, s174_20, s174_21, s174_22, s174_24, s174_26, s174_27, s174_29, s174_31, s174_32, s174_34, s174_35, s174_36, s174_39, s174_41, s174_42, s174_46, s174_47, s174_50, s174_52, s174_53, s174_56, s174_57, s174_59, s174_60, s174_61, s174_62, s174_65, s174_66, s174_69, s174_70, s174_72, s174_73, s174_74, s174_75, s174_76, s174_78, s174_79, s174_81, s174_84, s174_85, s174_88, s174_89, s174_90, s174_92, s174_95, s174_98, s174_99, s174_102, s174_104, s174_106, s174_109, s174_110, s174_113, s174_114, s174_115, s174_118, s174_121, s174_124, s174_127, s174_128, ltI, geL, leL, not_true_eq_false, not_false_eq_true, if_true, if_false, and_self, and_true, true_and, and_false, false_and, or_self, or_true, true_or, or_false, false_or, bo_T, bo_F, bo_e0, nI10, nI00, nI11, nI01, bo_e1, nem, eqL, af_v, af_0, rf_s, rf_n, nn, ite_self, addN, sm_cl]
      exact ih (i + 1) (by omega) _ _ _)
    rw [show anyN (fun q => decide (9 < cnt β τ i q n)) 0 = false from rfl, Bool.or_false] at this
    exact this
theorem m_overOf_loop (R : RMB I β) (B : BOk β) (T : RTM I τ) (O : TOk τ) : ∀ (g i : Nat), i + g = τ 0 0 → sm_at (sm_ex (d + 4)) none 175 2 [some (.ref 63), some (.int (nI (i + 1)))] [] 81 I L (pX sw) = some (some (.int (oI (firstF (fun k => anyN (ovM β τ (k + 1)) 10) g i))), 81, I, L, pX sw) := by
  have o1 := O.1
  intro g
  induction g with
  | zero =>
    intro i hi
    have c1 : ¬ i + 1 ≤ τ 0 0 := by omega
    rw [s175_2]
    simp (discharger := (first | omega | decide | (simp only [ly63, p63_0, p63_1, p63_2, p63_7, p63_10, p63_11, p63_13, p63_14, p63_16, p63_18, p63_22, p63_23, p63_24, p63_30, p63_31, p63_32, p63_33]; omega))) only [s175_0, s175_1, s175_3, s175_4, s175_7, s175_10, s175_11, s175_12, s175_15, s175_18, s175_19, s175_20, s175_21, s175_22, s175_25, s175_28, s175_29, ltI, geL, leL, not_true_eq_false, not_false_eq_true, if_true, if_false, and_self, and_true, true_and, and_false, false_and, or_self, or_true, true_or, or_false, false_or, bo_T, bo_F, bo_e0, nI10, nI00, nI11, nI01, bo_e1, nem, eqL, af_v, af_0, rf_s, rf_n, nn, ite_self, ly63, p63_0, p63_1, p63_2, p63_7, p63_10, p63_11, p63_13, p63_14, p63_16, p63_18, p63_22, p63_23, p63_24, p63_30, p63_31, p63_32, p63_33, T.1, leN, c1, firstF, oI]
  | succ g ih =>
    intro i hi
    have c1 : i + 1 ≤ τ 0 0 := by omega
    have key : sm_ex (d + 4) 174 [.ref 63, .int (nI (i + 1))] 81 I L (pX sw) = some (some (.int (bo (anyN (ovM β τ (i + 1)) 10 = true))), 81, I, L, pX sw) := by
      rw [e174]
      simp only [s174_0, s174_1, s174_2, s174_3, s174_5, s174_7, s174_10, s174_11, s174_15, s174_17, s174_20, s174_21, s174_22, s174_24, s174_26, s174_27, s174_29, s174_31, s174_32, s174_34, s174_35, s174_36, s174_39, s174_41, s174_42, s174_46, s174_47, s174_50, s174_52, s174_53, s174_56, s174_57, s174_59, s174_60, s174_61, s174_62, s174_65, s174_66, s174_69, s174_70, s174_72, s174_73, s174_74, s174_75, s174_76, s174_78, s174_79, s174_81, s174_84, s174_85, s174_88, s174_89, s174_90, s174_92, s174_95, s174_98, s174_99, s174_102, s174_104, s174_106, s174_109, s174_110, s174_113, s174_114, s174_115, s174_118, s174_121, s174_124, s174_127, s174_128, ltI, geL, leL, not_true_eq_false, not_false_eq_true, if_true, if_false, and_self, and_true, true_and, and_false, false_and, or_self, or_true, true_or, or_false, false_or, bo_T, bo_F, bo_e0, nI10, nI00, nI11, nI01, bo_e1, nem, eqL, af_v, af_0, rf_s, rf_n, nn, ite_self, sm_cl]
      exact m_isOver_1 R B T O c1 10 0 rfl _ _ _
    have e : nI (i + 1) - nI 1 = nI i := by rw [subN (by omega), Nat.add_sub_cancel]
    rw [s175_2]
    by_cases c : anyN (ovM β τ (i + 1)) 10 = true
    · simp (discharger := (first | omega | decide | (simp only [ly63, p63_0, p63_1, p63_2, p63_7, p63_10, p63_11, p63_13, p63_14, p63_16, p63_18, p63_22, p63_23, p63_24, p63_30, p63_31, p63_32, p63_33]; omega))) only [s175_0, s175_1, s175_3, s175_4, s175_7, s175_10, s175_11, s175_12, s175_15, s175_18, s175_19, s175_20, s175_21, s175_22, s175_25, s175_28, s175_29, ltI, geL, leL, not_true_eq_false, not_false_eq_true, if_true, if_false, and_self, and_true, true_and, and_false, false_and, or_self, or_true, true_or, or_false, false_or, bo_T, bo_F, bo_e0, nI10, nI00, nI11, nI01, bo_e1, nem, eqL, af_v, af_0, rf_s, rf_n, nn, ite_self, ly63, p63_0, p63_1, p63_2, p63_7, p63_10, p63_11, p63_13, p63_14, p63_16, p63_18, p63_22, p63_23, p63_24, p63_30, p63_31, p63_32, p63_33, T.1, leN, c1, key, c, firstF, oI, e]
    · simp (discharger := (first | omega | decide | (simp only [ly63, p63_0, p63_1, p63_2, p63_7, p63_10, p63_11, p63_13, p63_14, p63_16, p63_18, p63_22, p63_23, p63_24, p63_30, p63_31, p63_32, p63_33]; omega))) only [s175_0, s175_1, s175_3, s175_4, s175_7, s175_10, s175_11, s175_12, s175_15, s175_18, s175_19, s175_20, s175_21, s175_22, s175_25, s175_28, s175_29, ltI, geL, leL, not_true_eq_false, not_false_eq_true, if_true, if_false, and_self, and_true, true_and, and_false, false_and, or_self, or_true, true_or, or_false, false_or, bo_T, bo_F, bo_e0, nI10, nI00, nI11, nI01, bo_e1, nem, eqL, af_v, af_0, rf_s, rf_n, nn, ite_self, ly63, p63_0, p63_1, p63_2, p63_7, p63_10, p63_11, p63_13, p63_14, p63_16, p63_18, p63_22, p63_23, p63_24, p63_30, p63_31, p63_32, p63_33, T.1, leN, c1, key, c, firstF, addN, sm_cl, Bool.false_eq_true]
      exact ih (i + 1) (by omega)
theorem m_overOf (R : RMB I β) (B : BOk β) (T : RTM I τ) (O : TOk τ) : sm_ex (d + 5) 175 [.ref 63] 81 I L (pX sw) = some (some (.int (oI (firstF (fun k => anyN (ovM β τ (k + 1)) 10) (τ 0 0) 0))), 81, I, L, pX sw) := by
  rw [e175]
  simp only [s175_0, s175_1, s175_3, s175_4, s175_7, s175_10, s175_11, s175_12, s175_15, s175_18, s175_19, s175_20, s175_21, s175_22, s175_25, s175_28, s175_29, ltI, geL, leL, not_true_eq_false, not_false_eq_true, if_true, if_false, and_self, and_true, true_and, and_false, false_and, or_self, or_true, true_or, or_false, false_or, bo_T, bo_F, bo_e0, nI10, nI00, nI11, nI01, bo_e1, nem, eqL, af_v, af_0, rf_s, rf_n, nn, ite_self, sm_cl]
  exact m_overOf_loop R B T O (τ 0 0) 0 (Nat.zero_add _)
theorem m_over (R : RMB I β) (B : BOk β) (T : RTM I τ) (O : TOk τ) : sm_ex (d + 6) 176 [.ref 63] 81 I L (pX sw) = some (some (.int (oI (firstF (fun k => anyN (ovM β τ (k + 1)) 10) (τ 0 0) 0))), 81, I, L, pX sw) := by
  rw [e176]
  simp (discharger := (first | omega | decide | (simp only [ly63, p63_0, p63_1, p63_2, p63_7, p63_10, p63_11, p63_13, p63_14, p63_16, p63_18, p63_22, p63_23, p63_24, p63_30, p63_31, p63_32, p63_33]; omega))) only [s176_0, s176_1, s176_4, ltI, geL, leL, not_true_eq_false, not_false_eq_true, if_true, if_false, and_self, and_true, true_and, and_false, false_and, or_self, or_true, true_or, or_false, false_or, bo_T, bo_F, bo_e0, nI10, nI00, nI11, nI01, bo_e1, nem, eqL, af_v, af_0, rf_s, rf_n, nn, ite_self, ly63, p63_0, p63_1, p63_2, p63_7, p63_10, p63_11, p63_13, p63_14, p63_16, p63_18, p63_22, p63_23, p63_24, p63_30, p63_31, p63_32, p63_33, m_overOf R B T O]
/-- both find the same first touch -/
theorem anyN_ex {f : Nat → Bool} : ∀ {n : Nat}, anyN f n = true → ∃ i, i < n ∧ f i = true := by
  intro n
  induction n with
  | zero => intro h; cases h
  | succ n ih =>
    intro h
    rw [anyN_s, Bool.or_eq_true] at h
    rcases h with h | h
    · obtain ⟨i, h1, h2⟩ := ih h; exact ⟨i, by omega, h2⟩
    · exact ⟨n, by omega, h⟩
theorem over_eq (B : BOk β) (O : TOk τ) : ∀ (g i : Nat), i + g = τ 0 0 → (∀ p q, p < 10 → cnt β τ p q i ≤ 9) → firstF (fun k => anyN (ovA β τ k) 10) g i = firstF (fun k => anyN (ovM β τ (k + 1)) 10) g i := by
  intro g
  induction g with
  | zero => intro i _ _; rfl
  | succ g ih =>
    intro i hi h9
    have hik : i < τ 0 0 := by omega
    have e : anyN (ovA β τ i) 10 = anyN (ovM β τ (i + 1)) 10 := by
      rw [Bool.eq_iff_iff]
      constructor
      · intro h
        obtain ⟨p, hp, h2⟩ := anyN_ex h
        unfold ovA at h2
        cases he : evk β τ p i with
        | none => rw [he] at h2; cases h2
        | some m =>
          rw [he] at h2
          have hm := evk_le B O hp hik he
          exact anyN_t (i := p) (anyN_t (i := m / 100) h2 20 (by omega)) 10 hp
      · intro h
        obtain ⟨p, hp, h2⟩ := anyN_ex h
        obtain ⟨q, hq, h3⟩ := anyN_ex h2
        have h4 : 9 < cnt β τ p q (i + 1) := of_decide_eq_true h3
        have h5 := h9 p q hp
        have h6 : cnt β τ p q (i + 1) = cnt β τ p q i + (if hit β τ p q i = true then 1 else 0) := cn_s _ _
        have h7 : hit β τ p q i = true := by
          cases hh : hit β τ p q i with
          | true => rfl
          | false => rw [hh, if_neg (by decide)] at h6; omega
        refine anyN_t (i := p) ?_ 10 hp
        unfold hit at h7
        unfold ovA
        cases he : evk β τ p i with
        | none => rw [he] at h7; cases h7
        | some m =>
          rw [he] at h7
          have : m / 100 = q := of_decide_eq_true h7
          dsimp only
          rw [this]
          exact decide_eq_true h4
    show (if anyN (ovA β τ i) 10 = true then _ else _) = (if anyN (ovM β τ (i + 1)) 10 = true then _ else _)
    rw [e]
    by_cases c : anyN (ovM β τ (i + 1)) 10 = true
    · rw [if_pos c, if_pos c]
    · rw [if_neg c, if_neg c]
      refine ih (i + 1) (by omega) (fun p q hp => ?_)
      have h6 : cnt β τ p q (i + 1) = cnt β τ p q i + (if hit β τ p q i = true then 1 else 0) := cn_s _ _
      have h5 := h9 p q hp
      cases hh : hit β τ p q i with
      | false => rw [hh, if_neg (by decide)] at h6; omega
      | true =>
        apply Classical.byContradiction
        intro h10
        refine c (e ▸ anyN_t (i := p) ?_ 10 hp)
        unfold hit at hh
        unfold ovA
        cases he : evk β τ p i with
        | none => rw [he] at hh; cases hh
        | some m =>
          rw [he] at hh
          have : m / 100 = q := of_decide_eq_true hh
          dsimp only
          rw [this]
          exact decide_eq_true (by omega)
theorem over_same (B : BOk β) (O : TOk τ) : firstF (fun k => anyN (ovA β τ k) 10) (τ 0 0) 0 = firstF (fun k => anyN (ovM β τ (k + 1)) 10) (τ 0 0) 0 := over_eq B O _ 0 (Nat.zero_add _) (fun p q hp => Nat.zero_le _)
end OW
