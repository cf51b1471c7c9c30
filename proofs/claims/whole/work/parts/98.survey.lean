section SUR
variable {d N : Nat} {I J : sm_Im} {L : sm_Lm} {P : sm_Pm} {sw : Bool} {x y z u v : Int32} {a b m n q i j p k c s w o S : Nat} {A : Nat → Nat} {κ : Nat → Nat → Nat} {R R' : Nat → Nat → Prop}
/-- the crowd: how many, how many winces; who, which set -/
def RCC (I : sm_Im) (κ : Nat → Nat → Nat) : Prop := I 16 4 = nI (κ 0 0) ∧ I 16 5 = nI (κ 0 1) ∧ ∀ k, k < κ 0 1 → I 17 k = nI (κ 1 k) ∧ I 18 k = nI (κ 2 k)
def RCM (I : sm_Im) (κ : Nat → Nat → Nat) : Prop := I 63 19 = nI (κ 0 0) ∧ I 63 21 = nI (κ 0 1) ∧ ∀ k, k < κ 0 1 → I 74 (2 * k) = nI (κ 1 k) ∧ I 74 (2 * k + 1) = nI (κ 2 k)
def n4 (n : Nat) : Prop := n = 2 ∨ n = 4 ∨ n = 6 ∨ n = 8
def COk (κ : Nat → Nat → Nat) : Prop := n4 (κ 0 0) ∧ κ 0 1 ≤ 8 ∧ ∀ k, k < κ 0 1 → κ 1 k < κ 0 0 ∧ κ 2 k < 2 ^ κ 0 0
def awl (κ : Nat → Nat → Nat) : Nat → Nat → Nat
  | 0, _ => 2 ^ κ 0 0 - 1
  | i + 1, x => if κ 1 i = x then awl κ i x &&& κ 2 i else awl κ i x
theorem n4_ok (h : n4 n) : n ≤ 8 ∧ 2 ≤ n ∧ 2 ^ n - 1 < 256 ∧ 1 ≤ 2 ^ n ∧ 2 ^ n ≤ 256 ∧ pop (2 ^ n - 1) 8 = 2 * (n / 2) ∧ n / 2 ≤ 4 ∧ 2 * (n / 2) = n := by
  rcases h with rfl | rfl | rfl | rfl <;> decide
theorem awl_lt (O : COk κ) : ∀ i x, awl κ i x < 256 := by
  intro i
  induction i with
  | zero => intro x; exact (n4_ok O.1).2.2.1
  | succ i ih =>
    intro x
    have := ih x
    show (if _ then _ else _) < _
    split
    · exact Nat.lt_of_le_of_lt Nat.and_le_left this
    · exact this
theorem awl_tb (O : COk κ) (y : Nat) : ∀ i x, ((awl κ i x).testBit y = true ↔ y < κ 0 0 ∧ ∀ k, k < i → κ 1 k = x → (κ 2 k).testBit y = true) := by
  intro i
  induction i with
  | zero =>
    intro x
    show (2 ^ κ 0 0 - 1).testBit y = true ↔ _
    rw [Nat.testBit_two_pow_sub_one, decide_eq_true_eq]
    exact ⟨fun h => ⟨h, fun k hk => absurd hk (Nat.not_lt_zero _)⟩, fun h => h.1⟩
  | succ i ih =>
    intro x
    show (if κ 1 i = x then awl κ i x &&& κ 2 i else awl κ i x).testBit y = true ↔ _
    by_cases e : κ 1 i = x
    · rw [if_pos e, Nat.testBit_and, Bool.and_eq_true, ih x]
      constructor
      · rintro ⟨⟨h1, h2⟩, h3⟩
        refine ⟨h1, fun k hk hx => ?_⟩
        rcases (show k = i ∨ k < i by omega) with q | q
        · subst q; exact h3
        · exact h2 k q hx
      · rintro ⟨h1, h2⟩
        exact ⟨⟨h1, fun k hk => h2 k (by omega)⟩, h2 i (by omega) e⟩
    · rw [if_neg e, ih x]
      constructor
      · rintro ⟨h1, h2⟩
        refine ⟨h1, fun k hk hx => ?_⟩
        rcases (show k = i ∨ k < i by omega) with q | q
        · subst q; exact absurd hx e
        · exact h2 k q hx
      · rintro ⟨h1, h2⟩
        exact ⟨h1, fun k hk => h2 k (by omega)⟩
theorem c_survey_loop (R : RCC I κ) (O : COk κ) : ∀ (g i : Nat), i + g = κ 0 1 → ∀ (J : sm_Im), (∀ c, c ≠ 19 → c ≠ 20 → J c = I c) → (∀ x, x < 8 → J 19 x = nI (awl κ i x)) → ∃ J1 : sm_Im, (∀ c, c ≠ 19 → J1 c = J c) ∧ (∀ x, x < 8 → J1 19 x = nI (awl κ (κ 0 1) x)) ∧ sm_at (sm_ex d) none 28 27 [some (.ref 16), some (.int v), some (.int (nI i))] [] 81 J L (pX sw) = sm_at (sm_ex d) none 28 67 [some (.ref 16), some (.int v), some (.int (nI (κ 0 1)))] [] 81 J1 L (pX sw) := by
  obtain ⟨R1, R2, R3⟩ := R
  have O' := O
  obtain ⟨O1, O2, O3⟩ := O
  have nk := n4_ok O1
  intro g
  induction g with
  | zero =>
    intro i hi J hJ hA
    obtain rfl : i = κ 0 1 := by omega
    refine ⟨J, fun c _ => rfl, hA, ?_⟩
    have r2 : J 16 5 = nI (κ 0 1) := by rw [hJ 16 (by decide) (by decide)]; exact R2
    rw [s28_27]
    simp (discharger := (first | omega | decide | assumption | exact rg_lt | exact rg_ly | (simp only [ly16, p16_0, p16_1, p16_2, p16_3]; omega))) only [s28_0, s28_1, s28_2, s28_5, s28_6, s28_7, s28_8, s28_9, s28_10, s28_13, s28_14, s28_17, s28_18, s28_21, s28_22, s28_25, s28_26, s28_28, s28_29, s28_32, s28_35, s28_36, s28_38, s28_41, s28_42, s28_45, s28_46, s28_49, s28_50, s28_51, s28_52, s28_53, s28_54, s28_57, s28_58, s28_59, s28_60, s28_61, s28_64, s28_68, s28_69, s28_70, s28_73, s28_74, s28_75, s28_78, ltI, geL, leL, not_true_eq_false, not_false_eq_true, if_true, if_false, and_self, and_true, true_and, and_false, false_and, or_self, or_true, true_or, or_false, false_or, bo_T, bo_F, bo_e0, nI10, nI00, nI11, nI01, bo_e1, nem, eqL, af_v, af_0, rf_s, rf_n, nn, ite_self, ly16, p16_0, p16_1, p16_2, p16_3, r2, leN, Nat.le_refl]
  | succ g ih =>
    intro i hi J hJ hA
    have c1 : ¬ κ 0 1 ≤ i := by omega
    have c2 : ¬ 8 ≤ i := by omega
    obtain ⟨q1, q2⟩ := R3 i (by omega)
    obtain ⟨o1, o2⟩ := O3 i (by omega)
    have hl := awl_lt O' i (κ 1 i)
    have r2 : J 16 5 = nI (κ 0 1) := by rw [hJ 16 (by decide) (by decide)]; exact R2
    have r3 : J 17 i = nI (κ 1 i) := by rw [hJ 17 (by decide) (by decide)]; exact q1
    have r4 : J 18 i = nI (κ 2 i) := by rw [hJ 18 (by decide) (by decide)]; exact q2
    have r5 := hA (κ 1 i) (by omega)
    have e1 : nI (awl κ i (κ 1 i)) &&& nI (κ 2 i) = nI (awl κ i (κ 1 i) &&& κ 2 i) := andI (by omega) (by omega)
    obtain ⟨J1, g1, g2, g3⟩ := ih (i + 1) (by omega) (sm_up J 19 (κ 1 i) (nI (awl κ i (κ 1 i) &&& κ 2 i))) (fun c h1 h2 => by rw [up_row h1]; exact hJ c h1 h2) (fun x hx => by
      rw [up_at]
      show _ = nI (if κ 1 i = x then awl κ i x &&& κ 2 i else awl κ i x)
      by_cases e : x = κ 1 i
      · rw [if_pos e, e, if_pos rfl]
      · rw [if_neg e, if_neg (fun q => e q.symm)]; exact hA x hx)
    refine ⟨J1, fun c h1 => by rw [g1 c h1, up_row h1], g2, ?_⟩
    rw [← g3, s28_27]
    simp (discharger := (first | omega | decide | assumption | exact rg_lt | exact rg_ly | (simp only [ly16, p16_0, p16_1, p16_2, p16_3, ly17, al17, ly18, al18, ly19, al19]; omega))) only [s28_0, s28_1, s28_2, s28_5, s28_6, s28_7, s28_8, s28_9, s28_10, s28_13, s28_14, s28_17, s28_18, s28_21, s28_22, s28_25, s28_26, s28_28, s28_29, s28_32, s28_35, s28_36, s28_38, s28_41, s28_42, s28_45, s28_46, s28_49, s28_50, s28_51, s28_52, s28_53, s28_54, s28_57, s28_58, s28_59, s28_60, s28_61, s28_64, s28_68, s28_69, s28_70, s28_73, s28_74, s28_75, s28_78, ltI, geL, leL, not_true_eq_false, not_false_eq_true, if_true, if_false, and_self, and_true, true_and, and_false, false_and, or_self, or_true, true_or, or_false, false_or, bo_T, bo_F, bo_e0, nI10, nI00, nI11, nI01, bo_e1, nem, eqL, af_v, af_0, rf_s, rf_n, nn, ite_self, ly16, p16_0, p16_1, p16_2, p16_3, ly17, al17, ly18, al18, ly19, al19, r2, leN, c1, c2, r3, r4, r5, e1, addN, sm_cl]
theorem lays_at0 {f : Nat → Int32} {I : sm_Im} {a k m : Nat} (h : k < m) : lays I a 0 f m a k = f k := by
  rw [lays_at, if_pos ⟨Nat.zero_le _, by omega⟩, Nat.sub_zero]
theorem c_survey (Rr : RCC I κ) (O : COk κ) : ∃ J1 : sm_Im, (∀ c, c ≠ 19 → c ≠ 20 → J1 c = I c) ∧ TS J1 (MK (awl κ (κ 0 1)) (κ 0 0 / 2) (2 ^ κ 0 0 - 1)) ∧ sm_ex (d + 8) 28 [.ref 16] 81 I L (pX sw) = some (some (.int (nI (pu (awl κ (κ 0 1)) (κ 0 0 / 2) (2 ^ κ 0 0 - 1)))), 81, J1, L, pX sw) := by
  have nk := n4_ok O.1
  have e1 : nI 1 <<< (nI (κ 0 0) &&& 31) = nI (2 ^ κ 0 0) := sh1 (by omega)
  have e2 : nI (2 ^ κ 0 0) - nI 1 = nI (2 ^ κ 0 0 - 1) := subN (by omega)
  have e3 : nI (κ 0 0) / nI 2 = nI (κ 0 0 / 2) := divN (by omega) (by decide) (by decide)
  have z2 : ¬ nI 2 = 0 := by decide
  have R1 := Rr.1
  obtain ⟨J0, f1, f2, f3⟩ := c_survey_loop (d := d + 7) (L := L) (sw := sw) (v := nI (2 ^ κ 0 0 - 1)) Rr O (κ 0 1) 0 (Nat.zero_add _) (lays (lays I 19 0 (fun _ => nI (2 ^ κ 0 0 - 1)) 8) 20 0 (fun _ => nI 0) 8) (fun c h1 h2 => by rw [lays_row h2, lays_row h1]) (fun x hx => by rw [lays_row (by decide), lays_at0 hx]; rfl)
  have hT : TS J0 (fun _ _ => False) := fun x hx => ⟨0, by rw [f1 20 (by decide), lays_at0 hx], by decide, fun y hy => by rw [Nat.zero_testBit]; simp⟩
  obtain ⟨J1, g1, g2, g3⟩ := c_pairUp (L := L) (sw := sw) (awl κ (κ 0 1)) (κ 0 0 / 2) (d + 5 - κ 0 0 / 2) (2 ^ κ 0 0 - 1) J0 _ (by omega) (by omega) (fun x hx => ⟨f2 x hx, awl_lt O _ _⟩) hT
  rw [show d + 5 - κ 0 0 / 2 + κ 0 0 / 2 + 2 = d + 7 by omega] at g3
  have hJ0 : ∀ c, c ≠ 19 → c ≠ 20 → J0 c = I c := fun c h1 h2 => by rw [f1 c h1, lays_row h2, lays_row h1]
  have r1 : J0 16 4 = nI (κ 0 0) := by rw [hJ0 16 (by decide) (by decide)]; exact R1
  have fa : sm_ex (d + 7) 215 [.ref 19, .int (nI (2 ^ κ 0 0 - 1))] 81 I L (pX sw) = some (none, 81, lays I 19 0 (fun _ => nI (2 ^ κ 0 0 - 1)) 8, L, pX sw) := j_fill (by decide) (by decide)
  have fb : sm_ex (d + 7) 215 [.ref 20, .int (nI 0)] 81 (lays I 19 0 (fun _ => nI (2 ^ κ 0 0 - 1)) 8) L (pX sw) = some (none, 81, lays (lays I 19 0 (fun _ => nI (2 ^ κ 0 0 - 1)) 8) 20 0 (fun _ => nI 0) 8, L, pX sw) := j_fill (by decide) (by decide)
  refine ⟨J1, fun c h1 h2 => (g1 c h2).trans (hJ0 c h1 h2), TS_iff g2 (fun x y => ⟨fun q => q.elim (fun q => q.elim) id, Or.inr⟩), ?_⟩
  rw [e28]
  simp (discharger := (first | omega | decide | assumption | exact rg_lt | exact rg_ly | (simp only [ly16, p16_0, p16_1, p16_2, p16_3, ly19, al19, ly20, al20]; omega))) only [s28_0, s28_1, s28_2, s28_5, s28_6, s28_7, s28_8, s28_9, s28_10, s28_13, s28_14, s28_17, s28_18, s28_21, s28_22, s28_25, s28_26, s28_28, s28_29, s28_32, s28_35, s28_36, s28_38, s28_41, s28_42, s28_45, s28_46, s28_49, s28_50, s28_51, s28_52, s28_53, s28_54, s28_57, s28_58, s28_59, s28_60, s28_61, s28_64, s28_68, s28_69, s28_70, s28_73, s28_74, s28_75, s28_78, ltI, geL, leL, not_true_eq_false, not_false_eq_true, if_true, if_false, and_self, and_true, true_and, and_false, false_and, or_self, or_true, true_or, or_false, false_or, bo_T, bo_F, bo_e0, nI10, nI00, nI11, nI01, bo_e1, nem, eqL, af_v, af_0, rf_s, rf_n, nn, ite_self, ly16, p16_0, p16_1, p16_2, p16_3, ly19, al19, ly20, al20, R1, e1, e2, fa, fb, sm_cl]
  rw [f3]
  simp (discharger := (first | omega | decide | assumption | exact rg_lt | exact rg_ly | (simp only [ly16, p16_0, p16_1, p16_2, p16_3]; omega))) only [s28_0, s28_1, s28_2, s28_5, s28_6, s28_7, s28_8, s28_9, s28_10, s28_13, s28_14, s28_17, s28_18, s28_21, s28_22, s28_25, s28_26, s28_28, s28_29, s28_32, s28_35, s28_36, s28_38, s28_41, s28_42, s28_45, s28_46, s28_49, s28_50, s28_51, s28_52, s28_53, s28_54, s28_57, s28_58, s28_59, s28_60, s28_61, s28_64, s28_67, s28_68, s28_69, s28_70, s28_73, s28_74, s28_75, s28_78, ltI, geL, leL, not_true_eq_false, not_false_eq_true, if_true, if_false, and_self, and_true, true_and, and_false, false_and, or_self, or_true, true_or, or_false, false_or, bo_T, bo_F, bo_e0, nI10, nI00, nI11, nI01, bo_e1, nem, eqL, af_v, af_0, rf_s, rf_n, nn, ite_self, ly16, p16_0, p16_1, p16_2, p16_3, r1, e3, g3]
/-- the one twin of a set -/
def tn8 (u : Nat) : Option Nat := if pop u 16 = 1 then some (lo u) else none
theorem c_onlyTwin (h1 : J 16 4 = nI n) (hn : n ≤ 8) (ha : a < n) (h2 : J 20 a = nI s) (hs : s < 256) : sm_ex (d + 3) 29 [.ref 16, .int (nI a)] 81 J L (pX sw) = some (some (.int (oI (tn8 s))), 81, J, L, pX sw) := by
  have c1 : ¬ n ≤ a := by omega
  have jb : sm_ex (d + 2) 213 [.int (nI s)] 81 J L (pX sw) = some (some (.int (nI (pop s 16))), 81, J, L, pX sw) := j_bitCount (by omega)
  have hp := pop_le s 16
  have hf : sm_ex (d + 2) 32 [.int (nI s)] 81 J L (pX sw) = some (some (.int (nI (lo s))), 81, J, L, pX sw) := c_firstOf hs
  have l0 : (0 ≤ nI a) = True := le0 (by omega)
  unfold tn8
  rw [e29]
  by_cases c : pop s 16 = 1 <;> simp (discharger := (first | omega | decide | assumption | exact rg_lt | exact rg_ly | (simp only [ly16, p16_0, p16_1, p16_2, p16_3, ly20, al20]; omega))) only [s29_0, s29_1, s29_4, s29_5, s29_6, s29_9, s29_12, s29_13, s29_16, s29_17, s29_18, s29_21, s29_22, s29_25, s29_26, s29_27, s29_28, s29_31, s29_32, s29_33, s29_36, ltI, geL, leL, not_true_eq_false, not_false_eq_true, if_true, if_false, and_self, and_true, true_and, and_false, false_and, or_self, or_true, true_or, or_false, false_or, bo_T, bo_F, bo_e0, nI10, nI00, nI11, nI01, bo_e1, nem, eqL, af_v, af_0, rf_s, rf_n, nn, ite_self, ly16, p16_0, p16_1, p16_2, p16_3, ly20, al20, l0, leN, h1, c1, h2, jb, eqN, c, hf, oI]
/-- what both tell of the twins: all sets of the pairings that are so -/
def uo (A : Nat → Nat) (m S : Nat) : Nat → Nat → Nat
  | 0, _ => 0
  | c + 1, x => if vd A m S c = true then uo A m S c x ||| 2 ^ tw m S c x else uo A m S c x
theorem uo_tb (y : Nat) : ∀ c x, ((uo A m S c x).testBit y = true ↔ ∃ c', c' < c ∧ vd A m S c' = true ∧ tw m S c' x = y) := by
  intro c
  induction c with
  | zero => intro x; show (0 : Nat).testBit y = true ↔ _; rw [Nat.zero_testBit]; exact ⟨fun h => (by cases h), fun ⟨c', h, _⟩ => absurd h (Nat.not_lt_zero _)⟩
  | succ c ih =>
    intro x
    show (if vd A m S c = true then uo A m S c x ||| 2 ^ tw m S c x else uo A m S c x).testBit y = true ↔ _
    by_cases e : vd A m S c = true
    · rw [if_pos e, Nat.testBit_or, Bool.or_eq_true, Nat.testBit_two_pow, decide_eq_true_eq, ih x]
      constructor
      · rintro (⟨c', h1, h2⟩ | h)
        · exact ⟨c', by omega, h2⟩
        · exact ⟨c, by omega, e, h⟩
      · rintro ⟨c', h1, h2, h3⟩
        rcases (show c' = c ∨ c' < c by omega) with q | q
        · subst q; exact Or.inr h3
        · exact Or.inl ⟨c', q, h2, h3⟩
    · rw [if_neg e, ih x]
      constructor
      · rintro ⟨c', h1, h2⟩; exact ⟨c', by omega, h2⟩
      · rintro ⟨c', h1, h2, h3⟩
        rcases (show c' = c ∨ c' < c by omega) with q | q
        · subst q; exact absurd h2 e
        · exact ⟨c', q, h2, h3⟩
theorem uo_lt (hS : S < 256) (hp : pop S 8 = 2 * m) (hx : a < 8) (hb : S.testBit a = true) : ∀ c, uo A m S c a < 256 := by
  intro c
  induction c with
  | zero => exact (by decide : 0 < 256)
  | succ c ih =>
    show (if vd A m S c = true then uo A m S c a ||| 2 ^ tw m S c a else uo A m S c a) < _
    split
    · exact Nat.or_lt_two_pow (n := 8) ih (wb_lt2 (tw_in m S c hS hp a hx hb).1)
    · exact ih
/-- the crowd's answers: how many pairings, the sets of twins -/
def pgs (κ : Nat → Nat → Nat) : Nat := pu (awl κ (κ 0 1)) (κ 0 0 / 2) (2 ^ κ 0 0 - 1)
def tws (κ : Nat → Nat → Nat) (x : Nat) : Nat := uo (awl κ (κ 0 1)) (κ 0 0 / 2) (2 ^ κ 0 0 - 1) (df (κ 0 0 / 2)) x
theorem all_tb (n x : Nat) : (2 ^ n - 1).testBit x = true ↔ x < n := by rw [Nat.testBit_two_pow_sub_one, decide_eq_true_eq]
theorem tws_lt (O : COk κ) (ha : a < κ 0 0) : tws κ a < 256 := by
  have nk := n4_ok O.1
  exact uo_lt (by omega) nk.2.2.2.2.2.1 (by omega) ((all_tb _ _).mpr ha) _
theorem TS_tws (O : COk κ) (hT : TS J (MK (awl κ (κ 0 1)) (κ 0 0 / 2) (2 ^ κ 0 0 - 1))) (ha : a < κ 0 0) : J 20 a = nI (tws κ a) := by
  have nk := n4_ok O.1
  obtain ⟨u, h1, h2, h3⟩ := hT a (by omega)
  have hl := tws_lt O ha
  have e : u = tws κ a := by
    apply Nat.eq_of_testBit_eq
    intro y
    rcases Nat.lt_or_ge y 8 with hy | hy
    · rw [Bool.eq_iff_iff, h3 y hy, MK_MM _ _ (by omega) nk.2.2.2.2.2.1 a (by omega) y]
      unfold tws
      rw [uo_tb]
      exact ⟨fun ⟨c, q1, q2, q3, q4⟩ => ⟨c, q1, q2, q4⟩, fun ⟨c, q1, q2, q4⟩ => ⟨c, q1, q2, (all_tb _ _).mpr ha, q4⟩⟩
    · have hp : 256 ≤ 2 ^ y := Nat.pow_le_pow_right (n := 2) (by decide) hy
      rw [Nat.testBit_lt_two_pow (by omega), Nat.testBit_lt_two_pow (by omega)]
  rw [h1, e]
theorem c_survey_2 (Rr : RCC I κ) (O : COk κ) : ∃ J1 : sm_Im, (∀ c, c ≠ 19 → c ≠ 20 → J1 c = I c) ∧ (∀ x, x < κ 0 0 → J1 20 x = nI (tws κ x)) ∧ sm_ex (d + 8) 28 [.ref 16] 81 I L (pX sw) = some (some (.int (nI (pgs κ))), 81, J1, L, pX sw) := by
  obtain ⟨J1, h1, h2, h3⟩ := c_survey (d := d) (L := L) (sw := sw) Rr O
  exact ⟨J1, h1, fun x hx => TS_tws O h2 hx, h3⟩
theorem c_pairings (Rr : RCC I κ) (O : COk κ) : ∃ J1 : sm_Im, (∀ c, c ≠ 19 → c ≠ 20 → J1 c = I c) ∧ sm_ex (d + 9) 118 [.ref 0] 81 I L (pX sw) = some (some (.int (nI (pgs κ))), 81, J1, L, pX sw) := by
  obtain ⟨J1, h1, h2, h3⟩ := c_survey_2 (d := d) (L := L) (sw := sw) Rr O
  refine ⟨J1, h1, ?_⟩
  rw [e118]
  simp (discharger := (first | omega | decide | assumption | exact rg_lt | exact rg_ly | (simp only [ly0, p0_0, p0_1, p0_2, p0_3, p0_4, p0_5, p0_6, p0_7, p0_8, p0_9, ly16, p16_0, p16_1, p16_2, p16_3]; omega))) only [s118_0, s118_1, s118_4, s118_7, ltI, geL, leL, not_true_eq_false, not_false_eq_true, if_true, if_false, and_self, and_true, true_and, and_false, false_and, or_self, or_true, true_or, or_false, false_or, bo_T, bo_F, bo_e0, nI10, nI00, nI11, nI01, bo_e1, nem, eqL, af_v, af_0, rf_s, rf_n, nn, ite_self, ly0, p0_0, p0_1, p0_2, p0_3, p0_4, p0_5, p0_6, p0_7, p0_8, p0_9, ly16, p16_0, p16_1, p16_2, p16_3, h3]
theorem c_twin_1 (hs : I 16 4 = nI s) (hs2 : s ≤ 8) (h : ¬ (0 ≤ x ∧ ¬ nI s ≤ x)) : sm_ex (d + 9) 119 [.ref 0, .int x] 81 I L (pX sw) = some (some (.int (-101)), 81, I, L, pX sw) := by
  rw [e119]
  simp (discharger := (first | omega | decide | assumption | exact rg_lt | exact rg_ly | (simp only [ly0, p0_0, p0_1, p0_2, p0_3, p0_4, p0_5, p0_6, p0_7, p0_8, p0_9, ly16, p16_0, p16_1, p16_2, p16_3]; omega))) only [s119_0, s119_1, s119_2, s119_3, s119_6, s119_9, s119_10, s119_11, s119_14, s119_17, s119_19, s119_20, s119_21, s119_24, s119_27, s119_28, s119_29, s119_32, s119_33, s119_36, ltI, geL, leL, not_true_eq_false, not_false_eq_true, if_true, if_false, and_self, and_true, true_and, and_false, false_and, or_self, or_true, true_or, or_false, false_or, bo_T, bo_F, bo_e0, nI10, nI00, nI11, nI01, bo_e1, nem, eqL, af_v, af_0, rf_s, rf_n, nn, ite_self, ly0, p0_0, p0_1, p0_2, p0_3, p0_4, p0_5, p0_6, p0_7, p0_8, p0_9, ly16, p16_0, p16_1, p16_2, p16_3, c_csize, hs, h_isWithin, inb, h]
theorem c_twin_2 (Rr : RCC I κ) (O : COk κ) (ha : a < κ 0 0) : ∃ J1 : sm_Im, (∀ c, c ≠ 19 → c ≠ 20 → J1 c = I c) ∧ sm_ex (d + 9) 119 [.ref 0, .int (nI a)] 81 I L (pX sw) = some (some (.int (oI (tn8 (tws κ a)))), 81, J1, L, pX sw) := by
  have nk := n4_ok O.1
  obtain ⟨J1, h1, h2, h3⟩ := c_survey_2 (d := d) (L := L) (sw := sw) Rr O
  have hs := Rr.1
  have hs1 : J1 16 4 = nI (κ 0 0) := by rw [h1 16 (by decide) (by decide)]; exact hs
  have ho : sm_ex (d + 8) 29 [.ref 16, .int (nI a)] 81 J1 L (pX sw) = some (some (.int (oI (tn8 (tws κ a)))), 81, J1, L, pX sw) := c_onlyTwin hs1 nk.1 ha (h2 a ha) (tws_lt O ha)
  refine ⟨J1, h1, ?_⟩
  rw [e119]
  simp (discharger := (first | omega | decide | assumption | exact rg_lt | exact rg_ly | (simp only [ly0, p0_0, p0_1, p0_2, p0_3, p0_4, p0_5, p0_6, p0_7, p0_8, p0_9, ly16, p16_0, p16_1, p16_2, p16_3]; omega))) only [s119_0, s119_1, s119_2, s119_3, s119_6, s119_9, s119_10, s119_11, s119_14, s119_17, s119_19, s119_20, s119_21, s119_24, s119_27, s119_28, s119_29, s119_32, s119_33, s119_36, ltI, geL, leL, not_true_eq_false, not_false_eq_true, if_true, if_false, and_self, and_true, true_and, and_false, false_and, or_self, or_true, true_or, or_false, false_or, bo_T, bo_F, bo_e0, nI10, nI00, nI11, nI01, bo_e1, nem, eqL, af_v, af_0, rf_s, rf_n, nn, ite_self, ly0, p0_0, p0_1, p0_2, p0_3, p0_4, p0_5, p0_6, p0_7, p0_8, p0_9, ly16, p16_0, p16_1, p16_2, p16_3, c_csize, hs, h_isWithin, inb, inbt ha, h3, ho]
end SUR
