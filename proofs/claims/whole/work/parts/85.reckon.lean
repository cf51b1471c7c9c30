section RK
variable {d N : Nat} {I J : sm_Im} {L : sm_Lm} {P : sm_Pm} {sw : Bool} {x y z u v : Int32} {a b m n q i j p k c s w o : Nat} {f : Nat → Int32} {D : Mx} {β : Nat → Nat → Nat} {r t : Nat → Nat} {C C' : Nat → Nat → Prop} {ok : Nat → Prop}
def bs (N : Nat) (r : Nat → Nat) (a b : Nat) : Nat := if a = b then 0 else if r (6 * a + b) = 0 then N else r (6 * a + b)
def LW (f : Nat → Int32) (N : Nat) (r t : Nat → Nat) (β : Nat → Nat → Nat) (C : Nat → Nat → Prop) : Prop := ∃ W : Mx, RW f W ∧ (∀ a b, W a b ≤ N) ∧ ∀ a b, a < 6 → b < 6 → ∀ x, x ≤ W a b ↔ x ≤ bs N r a b ∧ ∀ p q s, p < 10 → q < 10 → C p q → t p = a → t q = b → dl β p q = some s → x ≤ 1 + s
theorem LW_0 (hr : ∀ k, k < 36 → r k ≤ 99) (hN : 99 ≤ N) (h : RW f (bs N r)) : LW f N r t β (fun _ _ => False) := by
  refine ⟨fun a b => if a < 6 ∧ b < 6 then bs N r a b else 0, fun i j hi hj => ?_, fun a b => ?_, fun a b ha hb x => ?_⟩
  · dsimp only; rw [if_pos ⟨hi, hj⟩]; exact h i j hi hj
  · dsimp only
    split
    · rename_i hab
      unfold bs
      split
      · omega
      · split
        · exact Nat.le_refl _
        · have := hr (6 * a + b) (by omega); omega
    · omega
  · dsimp only
    rw [if_pos ⟨ha, hb⟩]
    exact ⟨fun h => ⟨h, fun p q s _ _ hC => hC.elim⟩, fun h => h.1⟩
theorem LW_mono (h : LW f N r t β C) (e : ∀ p q s, p < 10 → q < 10 → dl β p q = some s → (C p q ↔ C' p q)) : LW f N r t β C' := by
  obtain ⟨W, h1, h2, h3⟩ := h
  refine ⟨W, h1, h2, fun a b ha hb x => ?_⟩
  rw [h3 a b ha hb x]
  refine and_congr_right fun _ => ?_
  exact ⟨fun h p q s hp hq hC h1 h2 h3 => h p q s hp hq ((e p q s hp hq h3).mpr hC) h1 h2 h3, fun h p q s hp hq hC h1 h2 h3 => h p q s hp hq ((e p q s hp hq h3).mp hC) h1 h2 h3⟩
theorem LW_step (h : LW (J c) N r t β C) (hp : p < 10) (hq : q < 10) (ht : ∀ p, p < 10 → t p < 6) (hd : dl β p q = some s) : ∃ m, J c (6 * t p + t q) = nI m ∧ m ≤ N ∧ LW (sm_up J c (6 * t p + t q) (nI (min m (1 + s))) c) N r t β (fun p' q' => C p' q' ∨ (p' = p ∧ q' = q)) := by
  obtain ⟨W, h1, h2, h3⟩ := h
  have tp := ht p hp
  have tq := ht q hq
  refine ⟨W (t p) (t q), h1 _ _ tp tq, h2 _ _, fun a b => if a = t p ∧ b = t q then min (W a b) (1 + s) else W a b, fun i j hi hj => ?_, fun a b => ?_, fun a b ha hb x => ?_⟩
  · rw [up_at]
    dsimp only
    by_cases e : i = t p ∧ j = t q
    · rw [if_pos (by omega), if_pos e, e.1, e.2]
    · rw [if_neg (by omega), if_neg e]; exact h1 i j hi hj
  · dsimp only
    have := h2 a b
    split <;> omega
  · dsimp only
    have h3' := h3 a b ha hb x
    by_cases e : a = t p ∧ b = t q
    · rw [if_pos e]
      constructor
      · intro hx
        have hx1 := h3'.mp (by omega)
        refine ⟨hx1.1, fun p' q' s' hp' hq' hC hta htb hs => ?_⟩
        rcases hC with hC | ⟨rfl, rfl⟩
        · exact hx1.2 p' q' s' hp' hq' hC hta htb hs
        · rw [hd] at hs
          have := Option.some.inj hs
          omega
      · intro hx
        have g1 := h3'.mpr ⟨hx.1, fun p' q' s' hp' hq' hC => hx.2 p' q' s' hp' hq' (Or.inl hC)⟩
        have g2 := hx.2 p q s hp hq (Or.inr ⟨rfl, rfl⟩) e.1.symm e.2.symm hd
        omega
    · rw [if_neg e, h3']
      refine and_congr_right fun _ => ?_
      constructor
      · intro h p' q' s' hp' hq' hC hta htb hs
        rcases hC with hC | ⟨rfl, rfl⟩
        · exact h p' q' s' hp' hq' hC hta htb hs
        · exact absurd ⟨hta.symm, htb.symm⟩ e
      · intro h p' q' s' hp' hq' hC
        exact h p' q' s' hp' hq' (Or.inl hC)
/-- what all pinches make of the roads is one -/
def PW (W : Mx) (N : Nat) (r t : Nat → Nat) (β : Nat → Nat → Nat) (C : Nat → Nat → Prop) : Prop := (∀ a b, W a b ≤ N) ∧ ∀ a b, a < 6 → b < 6 → ∀ x, x ≤ W a b ↔ x ≤ bs N r a b ∧ ∀ p q s, p < 10 → q < 10 → C p q → t p = a → t q = b → dl β p q = some s → x ≤ 1 + s
theorem PW_d {W : Mx} (hf : PW W N r t β C) : ∀ a, a < 6 → W a a = 0 := fun a ha => by
  have := ((hf.2 a a ha ha (W a a)).mp (Nat.le_refl _)).1
  unfold bs at this
  rw [if_pos rfl] at this; omega
theorem PW_fun {W V : Mx} {M N : Nat} (hf : PW W N r t β C) (hg : PW V M r t β C) (hNM : N ≤ M) (hr : ∀ k, k < 36 → r k ≤ 99) (hN : 99 ≤ N) : ∀ a b, a < 6 → b < 6 → W a b = min N (V a b) := by
  obtain ⟨h2, h3⟩ := hf
  obtain ⟨g2, g3⟩ := hg
  intro a b ha hb
  have e : ∀ x, x ≤ bs N r a b ↔ x ≤ N ∧ x ≤ bs M r a b := fun x => by
    unfold bs
    have := hr (6 * a + b) (by omega)
    split
    · omega
    · split <;> omega
  have l1 : min N (V a b) ≤ W a b := (h3 a b ha hb _).mpr ⟨(e _).mpr ⟨Nat.min_le_left _ _, ((g3 a b ha hb _).mp (Nat.min_le_right _ _)).1⟩, ((g3 a b ha hb _).mp (Nat.min_le_right _ _)).2⟩
  have q := (h3 a b ha hb _).mp (Nat.le_refl _)
  have l2 : W a b ≤ V a b := (g3 a b ha hb _).mpr ⟨((e _).mp q.1).2, q.2⟩
  have := h2 a b
  omega
/-- the class: no way but to itself -/
def emp (i j : Nat) : Nat := if i = j then 0 else 100000
theorem c_clear_loop (A : WA w) : ∀ (g a : Nat), a + g = 6 → ∀ J : sm_Im, (∀ c, c ≠ w + 1 → J c = I c) → (∀ i j, i < 6 → j < 6 → J (w + 1) (6 * i + j) = nI (if i = j ∧ i < a then 0 else 100000)) → ∃ J1 : sm_Im, (∀ c, c ≠ w + 1 → J1 c = I c) ∧ RW (J1 (w + 1)) emp ∧ sm_at (sm_ex (d + 2)) none 85 11 [some (.ref w), some (.int (nI a))] [] 81 J L (pX sw) = some (none, 81, J1, L, pX sw) := by
  have A1 := A.1
  have A2 := A.2.1
  intro g
  induction g with
  | zero =>
    intro a ha J hJ hR
    obtain rfl : a = 6 := by omega
    refine ⟨J, hJ, fun i j hi hj => ?_, ?_⟩
    · rw [hR i j hi hj]; unfold emp; congr 1; by_cases e : i = j
      · rw [if_pos (by omega), if_pos e]
      · rw [if_neg (by omega), if_neg e]
    · rw [s85_11]
      simp only [s85_0, s85_1, s85_4, s85_6, s85_9, s85_10, s85_12, s85_14, s85_17, s85_18, s85_19, s85_20, s85_21, s85_24, s85_27, s85_30, ltI, geL, leL, not_true_eq_false, not_false_eq_true, if_true, if_false, and_self, and_true, true_and, and_false, false_and, or_self, or_true, true_or, or_false, false_or, bo_T, bo_F, bo_e0, nI10, nI00, nI11, nI01, bo_e1, nem, eqL, af_v, af_0, rf_s, rf_n, nn, ite_self, Int32.le_refl]
  | succ g ih =>
    intro a ha J hJ hR
    have c1 : ¬ 6 ≤ a := by omega
    have hc := hR a a (by omega) (by omega)
    rw [if_neg (by omega)] at hc
    obtain ⟨J1, h1, h2, h3⟩ := ih (a + 1) (by omega) (sm_up J (w + 1) (6 * a + a) (nI (min 100000 0))) (fun c hc => by rw [up_row hc]; exact hJ c hc) (fun i j hi hj => by
      rw [up_at]
      by_cases e : i = a ∧ j = a
      · rw [if_pos (by omega), if_pos (by omega)]; rfl
      · rw [if_neg (by omega), hR i j hi hj]
        congr 1
        by_cases e2 : i = j ∧ i < a
        · rw [if_pos e2, if_pos (by omega)]
        · rw [if_neg e2, if_neg (by omega)])
    refine ⟨J1, h1, h2, ?_⟩
    rw [← h3, s85_11]
    have hs : sm_ex (d + 2) 86 [.ref w, .int (nI a), .int (nI a), .int (nI 0)] 81 J L (pX sw) = _ := c_shorten A (show a < 6 by omega) (by omega) hc (by decide) (by decide)
    simp (discharger := first | assumption | omega | decide) only [s85_0, s85_1, s85_4, s85_6, s85_9, s85_10, s85_12, s85_14, s85_17, s85_18, s85_19, s85_20, s85_21, s85_24, s85_27, s85_30, ltI, geL, leL, not_true_eq_false, not_false_eq_true, if_true, if_false, and_self, and_true, true_and, and_false, false_and, or_self, or_true, true_or, or_false, false_or, bo_T, bo_F, bo_e0, nI10, nI00, nI11, nI01, bo_e1, nem, eqL, af_v, af_0, rf_s, rf_n, nn, ite_self, leN, c1, hs, addN, sm_cl]
theorem c_clear (A : WA w) : ∃ J1 : sm_Im, (∀ c, c ≠ w + 1 → J1 c = I c) ∧ RW (J1 (w + 1)) emp ∧ sm_ex (d + 3) 85 [.ref w] 81 I L (pX sw) = some (none, 81, J1, L, pX sw) := by
  have A1 := A.1
  have A2 := A.2.1
  have A3 := A.2.2.1
  have A4 := A.2.2.2.1
  have A5 := A.2.2.2.2
  obtain ⟨J1, h1, h2, h3⟩ := c_clear_loop (d := d) (L := L) (sw := sw) (I := I) A 6 0 rfl (lays I (w + 1) 0 (fun _ => nI 100000) 36) (fun c hc => lays_row hc 36) (fun i j hi hj => by rw [lays_at, if_pos (by omega), if_neg (by omega)])
  refine ⟨J1, h1, h2, ?_⟩
  rw [← h3, e85]
  have hf : sm_ex (d + 2) 215 [.ref (w + 1), .int (nI 100000)] 81 I L (pX sw) = _ := j_fill A4 (by omega)
  rw [A5] at hf
  simp (discharger := first | assumption | omega | decide) only [s85_0, s85_1, s85_4, s85_6, s85_9, s85_10, s85_12, s85_14, s85_17, s85_18, s85_19, s85_20, s85_21, s85_24, s85_27, s85_30, ltI, geL, leL, not_true_eq_false, not_false_eq_true, if_true, if_false, and_self, and_true, true_and, and_false, false_and, or_self, or_true, true_or, or_false, false_or, bo_T, bo_F, bo_e0, nI10, nI00, nI11, nI01, bo_e1, nem, eqL, af_v, af_0, rf_s, rf_n, nn, ite_self, A3, hf, sm_cl]
/-- the roads -/
def RWr (f : Nat → Int32) (r : Nat → Nat) (a b : Nat) : Prop := ∀ i j, i < 6 → j < 6 → f (6 * i + j) = nI (if i < a ∨ (i = a ∧ j < b) then bs 100000 r i j else emp i j)
theorem c_rk_in (hr : ∀ k, k < 36 → I 8 k = nI (r k) ∧ r k ≤ 99) (h3 : ∀ a, a < 6 → r (7 * a) = 0) (ha : a < 6) : ∀ (g b : Nat), b + g = 6 → ∀ (J : sm_Im) (l1 l2 : Option Value) (x3 : Int32) (l6 : Option Value), (∀ c, c ≠ 10 → J c = I c) → RWr (J 10) r a b → ∃ (J1 : sm_Im) (l6' : Option Value), (∀ c, c ≠ 10 → J1 c = I c) ∧ RWr (J1 10) r (a + 1) 0 ∧ sm_at (sm_ex (d + 2)) none 41 20 [some (.ref 7), l1, l2, some (.int x3), some (.int (nI a)), some (.int (nI b)), l6] [] 81 J L (pX sw) = sm_at (sm_ex (d + 2)) none 41 10 [some (.ref 7), l1, l2, some (.int x3), some (.int (nI (a + 1))), some (.int (nI 6)), l6'] [] 81 J1 L (pX sw) := by
  intro g
  induction g with
  | zero =>
    intro b hb J l1 l2 x3 l6 hJ hR
    obtain rfl : b = 6 := by omega
    refine ⟨J, l6, hJ, fun i j hi hj => ?_, ?_⟩
    · rw [hR i j hi hj]
      by_cases e : i < a + 1
      · rw [if_pos (by omega), if_pos (by omega)]
      · rw [if_neg (by omega), if_neg (by omega)]
    · rw [s41_20]
      simp only [s41_0, s41_1, s41_4, s41_7, s41_8, s41_12, s41_14, s41_17, s41_18, s41_22, s41_24, s41_27, s41_28, s41_31, s41_33, s41_35, s41_36, s41_38, s41_39, s41_39t0, s41_39t1, s41_40, s41_42, s41_44, s41_47, s41_48, s41_51, s41_53, s41_55, s41_57, s41_60, s41_63, s41_66, s41_69, s41_72, s41_73, s41_77, s41_77n, s41_78, s41_81, s41_84, s41_84n, s41_85, s41_87, s41_90, s41_90n, s41_92, s41_92n, s41_94, s41_94n, s41_97, s41_97n, s41_99, s41_100, s41_103, s41_106, s41_106n, s41_108, s41_109, s41_112, s41_115, s41_116, s41_116n, s41_118, s41_118n, s41_119, s41_122, s41_125, s41_128, s41_129, s41_132, s41_135, ltI, geL, leL, not_true_eq_false, not_false_eq_true, if_true, if_false, and_self, and_true, true_and, and_false, false_and, or_self, or_true, true_or, or_false, false_or, bo_T, bo_F, bo_e0, nI10, nI00, nI11, nI01, bo_e1, nem, eqL, af_v, af_0, rf_s, rf_n, nn, ite_self, Int32.le_refl, addN, sm_cl]
  | succ g ih =>
    intro b hb J l1 l2 x3 l6 hJ hR
    have c1 : ¬ 6 ≤ b := by omega
    have hr1 := hr (6 * a + b) (by omega)
    have e8 : J 8 (6 * a + b) = nI (r (6 * a + b)) := by rw [hJ 8 (by decide)]; exact hr1.1
    have hc := hR a b ha (by omega)
    rw [if_neg (by omega)] at hc
    by_cases c : r (6 * a + b) = 0
    · obtain ⟨J1, l6', h1, h2, h3⟩ := ih (b + 1) (by omega) J l1 l2 x3 (some (.int (nI (r (6 * a + b))))) hJ (fun i j hi hj => by
        rw [hR i j hi hj]
        by_cases e : i = a ∧ j = b
        · rw [if_neg (by omega), if_pos (by omega), e.1, e.2]
          unfold bs emp; rw [if_pos c]
        · congr 1
          by_cases e2 : i < a ∨ (i = a ∧ j < b)
          · rw [if_pos e2, if_pos (by omega)]
          · rw [if_neg e2, if_neg (by omega)])
      refine ⟨J1, l6', h1, h2, ?_⟩
      rw [← h3, s41_20]
      simp (discharger := (first | omega | decide | assumption | exact rg_lt | exact rg_ly | (simp only [ly7, p7_0, p7_1, p7_2, p7_3, ly8, al8]; omega))) only [s41_0, s41_1, s41_4, s41_7, s41_8, s41_12, s41_14, s41_17, s41_18, s41_22, s41_24, s41_27, s41_28, s41_31, s41_33, s41_35, s41_36, s41_38, s41_39, s41_39t0, s41_39t1, s41_40, s41_42, s41_44, s41_47, s41_48, s41_51, s41_53, s41_55, s41_57, s41_60, s41_63, s41_66, s41_69, s41_72, s41_73, s41_77, s41_77n, s41_78, s41_81, s41_84, s41_84n, s41_85, s41_87, s41_90, s41_90n, s41_92, s41_92n, s41_94, s41_94n, s41_97, s41_97n, s41_99, s41_100, s41_103, s41_106, s41_106n, s41_108, s41_109, s41_112, s41_115, s41_116, s41_116n, s41_118, s41_118n, s41_119, s41_122, s41_125, s41_128, s41_129, s41_132, s41_135, ltI, geL, leL, not_true_eq_false, not_false_eq_true, if_true, if_false, and_self, and_true, true_and, and_false, false_and, or_self, or_true, true_or, or_false, false_or, bo_T, bo_F, bo_e0, nI10, nI00, nI11, nI01, bo_e1, nem, eqL, af_v, af_0, rf_s, rf_n, nn, ite_self, ly7, p7_0, p7_1, p7_2, p7_3, ly8, al8, leN, c1, mulN, addN, Nat.mul_comm a 6, e8, eq00, c, sm_cl]
    · have hne : ¬ a = b := fun q => c (by rw [q, show 6 * b + b = 7 * b by omega]; exact h3 b (by omega))
      obtain ⟨J1, l6', h1, h2, h3⟩ := ih (b + 1) (by omega) (sm_up J 10 (6 * a + b) (nI (min (emp a b) (r (6 * a + b))))) l1 l2 x3 (some (.int (nI (r (6 * a + b))))) (fun c hc => by rw [up_row hc]; exact hJ c hc) (fun i j hi hj => by
        rw [up_at]
        by_cases e : i = a ∧ j = b
        · rw [if_pos (by omega), if_pos (by omega), e.1, e.2]
          unfold bs emp; rw [if_neg hne, if_neg hne, if_neg c]; congr 1; omega
        · rw [if_neg (by omega), hR i j hi hj]
          congr 1
          by_cases e2 : i < a ∨ (i = a ∧ j < b)
          · rw [if_pos e2, if_pos (by omega)]
          · rw [if_neg e2, if_neg (by omega)])
      refine ⟨J1, l6', h1, h2, ?_⟩
      rw [← h3, s41_20]
      have hs : sm_ex (d + 2) 86 [.ref 9, .int (nI a), .int (nI b), .int (nI (r (6 * a + b)))] 81 J L (pX sw) = _ := c_shorten WA9 ha (show b < 6 by omega) hc (by unfold emp; split <;> decide) (by omega)
      simp (discharger := (first | omega | decide | assumption | exact rg_lt | exact rg_ly | (simp only [ly7, p7_0, p7_1, p7_2, p7_3, ly8, al8, ly9, p9_0]; omega))) only [s41_0, s41_1, s41_4, s41_7, s41_8, s41_12, s41_14, s41_17, s41_18, s41_22, s41_24, s41_27, s41_28, s41_31, s41_33, s41_35, s41_36, s41_38, s41_39, s41_39t0, s41_39t1, s41_40, s41_42, s41_44, s41_47, s41_48, s41_51, s41_53, s41_55, s41_57, s41_60, s41_63, s41_66, s41_69, s41_72, s41_73, s41_77, s41_77n, s41_78, s41_81, s41_84, s41_84n, s41_85, s41_87, s41_90, s41_90n, s41_92, s41_92n, s41_94, s41_94n, s41_97, s41_97n, s41_99, s41_100, s41_103, s41_106, s41_106n, s41_108, s41_109, s41_112, s41_115, s41_116, s41_116n, s41_118, s41_118n, s41_119, s41_122, s41_125, s41_128, s41_129, s41_132, s41_135, ltI, geL, leL, not_true_eq_false, not_false_eq_true, if_true, if_false, and_self, and_true, true_and, and_false, false_and, or_self, or_true, true_or, or_false, false_or, bo_T, bo_F, bo_e0, nI10, nI00, nI11, nI01, bo_e1, nem, eqL, af_v, af_0, rf_s, rf_n, nn, ite_self, ly7, p7_0, p7_1, p7_2, p7_3, ly8, al8, ly9, p9_0, leN, c1, mulN, addN, Nat.mul_comm a 6, e8, eq00, c, hs, sm_cl]
theorem c_rk_out (hr : ∀ k, k < 36 → I 8 k = nI (r k) ∧ r k ≤ 99) (h3 : ∀ a, a < 6 → r (7 * a) = 0) : ∀ (g a : Nat), a + g = 6 → ∀ (J : sm_Im) (l1 l2 : Option Value) (x3 : Int32) (l5 l6 : Option Value), (∀ c, c ≠ 10 → J c = I c) → RWr (J 10) r a 0 → ∃ (J1 : sm_Im) (l5' l6' : Option Value), (∀ c, c ≠ 10 → J1 c = I c) ∧ RW (J1 10) (bs 100000 r) ∧ sm_at (sm_ex (d + 2)) none 41 10 [some (.ref 7), l1, l2, some (.int x3), some (.int (nI a)), l5, l6] [] 81 J L (pX sw) = sm_at (sm_ex (d + 2)) none 41 75 [some (.ref 7), l1, l2, some (.int x3), some (.int (nI 0)), l5', l6'] [] 81 J1 L (pX sw) := by
  intro g
  induction g with
  | zero =>
    intro a ha J l1 l2 x3 l5 l6 hJ hR
    obtain rfl : a = 6 := by omega
    refine ⟨J, l5, l6, hJ, fun i j hi hj => ?_, ?_⟩
    · rw [hR i j hi hj, if_pos (by omega)]
    · rw [s41_10]
      simp only [s41_0, s41_1, s41_4, s41_7, s41_8, s41_12, s41_14, s41_17, s41_18, s41_22, s41_24, s41_27, s41_28, s41_31, s41_33, s41_35, s41_36, s41_38, s41_39, s41_39t0, s41_39t1, s41_40, s41_42, s41_44, s41_47, s41_48, s41_51, s41_53, s41_55, s41_57, s41_60, s41_63, s41_66, s41_69, s41_72, s41_73, s41_77, s41_77n, s41_78, s41_81, s41_84, s41_84n, s41_85, s41_87, s41_90, s41_90n, s41_92, s41_92n, s41_94, s41_94n, s41_97, s41_97n, s41_99, s41_100, s41_103, s41_106, s41_106n, s41_108, s41_109, s41_112, s41_115, s41_116, s41_116n, s41_118, s41_118n, s41_119, s41_122, s41_125, s41_128, s41_129, s41_132, s41_135, ltI, geL, leL, not_true_eq_false, not_false_eq_true, if_true, if_false, and_self, and_true, true_and, and_false, false_and, or_self, or_true, true_or, or_false, false_or, bo_T, bo_F, bo_e0, nI10, nI00, nI11, nI01, bo_e1, nem, eqL, af_v, af_0, rf_s, rf_n, nn, ite_self, Int32.le_refl, sm_cl]
  | succ g ih =>
    intro a ha J l1 l2 x3 l5 l6 hJ hR
    have c1 : ¬ 6 ≤ a := by omega
    obtain ⟨J0, l60, k1, k2, k3⟩ := c_rk_in (d := d) (L := L) (sw := sw) (I := I) hr h3 (show a < 6 by omega) 6 0 rfl J l1 l2 x3 l6 hJ hR
    obtain ⟨J1, l5', l6', h1, h2, h3⟩ := ih (a + 1) (by omega) J0 l1 l2 x3 (some (.int (nI 6))) l60 k1 k2
    refine ⟨J1, l5', l6', h1, h2, ?_⟩
    rw [← h3, ← k3, s41_10]
    simp (discharger := (first | omega | decide | assumption | exact rg_lt | exact rg_ly | (simp only [ly7, p7_0, p7_1, p7_2, p7_3]; omega))) only [s41_0, s41_1, s41_4, s41_7, s41_8, s41_12, s41_14, s41_17, s41_18, s41_22, s41_24, s41_27, s41_28, s41_31, s41_33, s41_35, s41_36, s41_38, s41_39, s41_39t0, s41_39t1, s41_40, s41_42, s41_44, s41_47, s41_48, s41_51, s41_53, s41_55, s41_57, s41_60, s41_63, s41_66, s41_69, s41_72, s41_73, s41_77, s41_77n, s41_78, s41_81, s41_84, s41_84n, s41_85, s41_87, s41_90, s41_90n, s41_92, s41_92n, s41_94, s41_94n, s41_97, s41_97n, s41_99, s41_100, s41_103, s41_106, s41_106n, s41_108, s41_109, s41_112, s41_115, s41_116, s41_116n, s41_118, s41_118n, s41_119, s41_122, s41_125, s41_128, s41_129, s41_132, s41_135, ltI, geL, leL, not_true_eq_false, not_false_eq_true, if_true, if_false, and_self, and_true, true_and, and_false, false_and, or_self, or_true, true_or, or_false, false_or, bo_T, bo_F, bo_e0, nI10, nI00, nI11, nI01, bo_e1, nem, eqL, af_v, af_0, rf_s, rf_n, nn, ite_self, leN, c1, sm_cl]
end RK
