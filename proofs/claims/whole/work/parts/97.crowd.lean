section CRW
variable {d N : Nat} {I J : sm_Im} {L : sm_Lm} {P : sm_Pm} {sw : Bool} {x y z u v : Int32} {a b m n q i j p k c s w o S : Nat} {A : Nat → Nat} {κ : Nat → Nat → Nat} {R R' : Nat → Nat → Prop}
theorem c_firstOf_loop (hS : S < 256) : ∀ (g i : Nat), i + g = 7 → sm_at (sm_ex (d + 1)) none 32 2 [some (.int (nI S)), some (.int (nI i))] [] N I L P = some (some (.int (nI (loF S g i))), N, I, L, P) := by
  intro g
  induction g with
  | zero =>
    intro i hi
    obtain rfl : i = 7 := by omega
    rw [s32_2]
    simp (discharger := first | omega | decide) only [s32_0, s32_1, s32_3, s32_5, s32_8, s32_9, s32_10, s32_13, s32_16, s32_17, s32_18, s32_21, s32_24, s32_26, ltI, geL, leL, not_true_eq_false, not_false_eq_true, if_true, if_false, and_self, and_true, true_and, and_false, false_and, or_self, or_true, true_or, or_false, false_or, bo_T, bo_F, bo_e0, nI10, nI00, nI11, nI01, bo_e1, nem, eqL, af_v, af_0, rf_s, rf_n, nn, ite_self, Int32.le_refl, loF]
  | succ g ih =>
    intro i hi
    have c1 : ¬ 7 ≤ i := by omega
    have e := bitT (s := S) (k := i) (by omega) (by omega)
    rw [s32_2]
    by_cases b : S.testBit i = true
    · rw [show loF S (g + 1) i = i from if_pos b]
      simp (discharger := first | omega | decide) only [s32_0, s32_1, s32_3, s32_5, s32_8, s32_9, s32_10, s32_13, s32_16, s32_17, s32_18, s32_21, s32_24, s32_26, ltI, geL, leL, not_true_eq_false, not_false_eq_true, if_true, if_false, and_self, and_true, true_and, and_false, false_and, or_self, or_true, true_or, or_false, false_or, bo_T, bo_F, bo_e0, nI10, nI00, nI11, nI01, bo_e1, nem, eqL, af_v, af_0, rf_s, rf_n, nn, ite_self, leN, c1, h_isIn, e, b]
    · rw [show loF S (g + 1) i = loF S g (i + 1) from if_neg b]
      simp (discharger := first | omega | decide) only [s32_0, s32_1, s32_3, s32_5, s32_8, s32_9, s32_10, s32_13, s32_16, s32_17, s32_18, s32_21, s32_24, s32_26, ltI, geL, leL, not_true_eq_false, not_false_eq_true, if_true, if_false, and_self, and_true, true_and, and_false, false_and, or_self, or_true, true_or, or_false, false_or, bo_T, bo_F, bo_e0, nI10, nI00, nI11, nI01, bo_e1, nem, eqL, af_v, af_0, rf_s, rf_n, nn, ite_self, leN, c1, h_isIn, e, b, addN, sm_cl, Bool.false_eq_true]
      exact ih (i + 1) (by omega)
theorem c_firstOf (hS : S < 256) : sm_ex (d + 2) 32 [.int (nI S)] N I L P = some (some (.int (nI (lo S))), N, I, L, P) := by
  rw [e32]
  simp only [s32_0, s32_1, s32_3, s32_5, s32_8, s32_9, s32_10, s32_13, s32_16, s32_17, s32_18, s32_21, s32_24, s32_26, ltI, geL, leL, not_true_eq_false, not_false_eq_true, if_true, if_false, and_self, and_true, true_and, and_false, false_and, or_self, or_true, true_or, or_false, false_or, bo_T, bo_F, bo_e0, nI10, nI00, nI11, nI01, bo_e1, nem, eqL, af_v, af_0, rf_s, rf_n, nn, ite_self, sm_cl]
  exact c_firstOf_loop hS 7 0 rfl
theorem c_may (hA : ∀ x, x < 8 → J 19 x = nI (A x) ∧ A x < 256) (ha : a < 8) (hb : b < 8) : sm_ex (d + 2) 31 [.ref 16, .int (nI a), .int (nI b)] 81 J L (pX sw) = some (some (.int (bo (VV A a b = true))), 81, J, L, pX sw) := by
  obtain ⟨a1, a2⟩ := hA a ha
  obtain ⟨b1, b2⟩ := hA b hb
  have e1 := bitT (s := A a) (k := b) (by omega) (by omega)
  have e2 := bitT (s := A b) (k := a) (by omega) (by omega)
  unfold VV
  rw [e31]
  by_cases q1 : (A a).testBit b = true
  · by_cases q2 : (A b).testBit a = true <;> simp (discharger := (first | omega | decide | assumption | exact rg_lt | exact rg_ly | (simp only [ly16, p16_0, p16_1, p16_2, p16_3, ly19, al19]; omega))) only [s31_0, s31_1, s31_4, s31_5, s31_6, s31_7, s31_10, s31_13, s31_14, s31_17, s31_18, s31_19, s31_20, s31_23, s31_26, s31_27, s31_30, s31_31, ltI, geL, leL, not_true_eq_false, not_false_eq_true, if_true, if_false, and_self, and_true, true_and, and_false, false_and, or_self, or_true, true_or, or_false, false_or, bo_T, bo_F, bo_e0, nI10, nI00, nI11, nI01, bo_e1, nem, eqL, af_v, af_0, rf_s, rf_n, nn, ite_self, ly16, p16_0, p16_1, p16_2, p16_3, ly19, al19, a1, b1, h_isIn, e1, e2, q1, q2, Bool.true_and, Bool.and_true, Bool.and_false, Bool.false_eq_true]
  · simp (discharger := (first | omega | decide | assumption | exact rg_lt | exact rg_ly | (simp only [ly16, p16_0, p16_1, p16_2, p16_3, ly19, al19]; omega))) only [s31_0, s31_1, s31_4, s31_5, s31_6, s31_7, s31_10, s31_13, s31_14, s31_17, s31_18, s31_19, s31_20, s31_23, s31_26, s31_27, s31_30, s31_31, ltI, geL, leL, not_true_eq_false, not_false_eq_true, if_true, if_false, and_self, and_true, true_and, and_false, false_and, or_self, or_true, true_or, or_false, false_or, bo_T, bo_F, bo_e0, nI10, nI00, nI11, nI01, bo_e1, nem, eqL, af_v, af_0, rf_s, rf_n, nn, ite_self, ly16, p16_0, p16_1, p16_2, p16_3, ly19, al19, a1, b1, h_isIn, e1, e2, q1, Bool.false_and, Bool.false_eq_true]
/-- the twins that are noted -/
def TS (J : sm_Im) (R : Nat → Nat → Prop) : Prop := ∀ x, x < 8 → ∃ u, J 20 x = nI u ∧ u < 256 ∧ ∀ y, y < 8 → (u.testBit y = true ↔ R x y)
theorem TS_iff (h : TS J R) (e : ∀ x y, R x y ↔ R' x y) : TS J R' := fun x hx => by
  obtain ⟨u, h1, h2, h3⟩ := h x hx
  exact ⟨u, h1, h2, fun y hy => (h3 y hy).trans (e x y)⟩
theorem TS_mark (h : TS J R) (ha : a < 8) (hb : b < 8) : TS (sm_up J 20 a (J 20 a ||| nI (2 ^ b))) (fun x y => R x y ∨ (x = a ∧ y = b)) := fun x hx => by
  obtain ⟨u, h1, h2, h3⟩ := h x hx
  have hp : 2 ^ b < 2 ^ 8 := wb_lt2 hb
  by_cases e : x = a
  · subst e
    refine ⟨u ||| 2 ^ b, by rw [up_same, h1, orI (by omega) (by omega)], Nat.or_lt_two_pow (n := 8) h2 hp, fun y hy => ?_⟩
    rw [Nat.testBit_or, Bool.or_eq_true, Nat.testBit_two_pow, decide_eq_true_eq, h3 y hy]
    constructor
    · rintro (q | q)
      · exact Or.inl q
      · exact Or.inr ⟨rfl, q.symm⟩
    · rintro (q | q)
      · exact Or.inl q
      · exact Or.inr q.2.symm
  · refine ⟨u, by rw [up_cell (fun q => e q.2)]; exact h1, h2, fun y hy => (h3 y hy).trans ⟨Or.inl, fun q => q.elim id (fun q => absurd q.1 e)⟩⟩
def puF (A : Nat → Nat) (m S o : Nat) : Nat := if (s1 S).testBit o = true then (if VV A (lo S) o = true then pu A m (s1 S - 2 ^ o) else 0) else 0
def MKo (A : Nat → Nat) (m S n x y : Nat) : Prop := ∃ o, o < n ∧ (s1 S).testBit o = true ∧ VV A (lo S) o = true ∧ ((0 < pu A m (s1 S - 2 ^ o) ∧ ((x = lo S ∧ y = o) ∨ (x = o ∧ y = lo S))) ∨ MK A m (s1 S - 2 ^ o) x y)
theorem MKo_no (h : ¬ ((s1 S).testBit i = true ∧ VV A (lo S) i = true)) (x y : Nat) : MKo A m S i x y ↔ MKo A m S (i + 1) x y := by
  constructor
  · rintro ⟨o, h1, h2⟩; exact ⟨o, by omega, h2⟩
  · rintro ⟨o, h1, h2, h3, h4⟩
    refine ⟨o, ?_, h2, h3, h4⟩
    rcases (show o = i ∨ o < i by omega) with e | e
    · subst e; exact absurd ⟨h2, h3⟩ h
    · exact e
theorem MKo_yes (h1 : (s1 S).testBit i = true) (h2 : VV A (lo S) i = true) (x y : Nat) : MKo A m S (i + 1) x y ↔ MKo A m S i x y ∨ ((0 < pu A m (s1 S - 2 ^ i) ∧ ((x = lo S ∧ y = i) ∨ (x = i ∧ y = lo S))) ∨ MK A m (s1 S - 2 ^ i) x y) := by
  constructor
  · rintro ⟨o, q1, q2, q3, q4⟩
    rcases (show o = i ∨ o < i by omega) with e | e
    · subst e; exact Or.inr q4
    · exact Or.inl ⟨o, e, q2, q3, q4⟩
  · rintro (⟨o, q1, q2⟩ | q)
    · exact ⟨o, by omega, q2⟩
    · exact ⟨i, by omega, h1, h2, q⟩
set_option maxHeartbeats 4000000 in
theorem c_pairUp (A : Nat → Nat) : ∀ (m d S : Nat) (J : sm_Im) (R : Nat → Nat → Prop), S < 256 → pop S 8 = 2 * m → (∀ x, x < 8 → J 19 x = nI (A x) ∧ A x < 256) → TS J R → ∃ J1 : sm_Im, (∀ c, c ≠ 20 → J1 c = J c) ∧ TS J1 (fun x y => R x y ∨ MK A m S x y) ∧ sm_ex (d + m + 2) 30 [.ref 16, .int (nI S), .int (nI m)] 81 J L (pX sw) = some (some (.int (nI (pu A m S))), 81, J1, L, pX sw) := by
  intro m
  induction m with
  | zero =>
    intro d S J R hS hp hA hT
    refine ⟨J, fun c _ => rfl, TS_iff hT (fun x y => ⟨Or.inl, fun q => q.elim id (fun q => q.elim)⟩), ?_⟩
    have e0 : (nI 0 ≤ 0) = True := by decide
    rw [e30]
    simp only [s30_0, s30_1, s30_4, s30_5, s30_6, s30_7, s30_10, s30_11, s30_12, s30_14, s30_15, s30_16, s30_17, s30_21, s30_23, s30_26, s30_27, s30_29, s30_32, s30_35, s30_36, s30_37, s30_39, s30_42, s30_45, s30_46, s30_47, s30_48, s30_49, s30_50, s30_51, s30_53, s30_54, s30_55, s30_56, s30_57, s30_58, s30_59, s30_60, s30_61, s30_64, s30_66, s30_68, s30_71, s30_72, s30_75, s30_76, s30_77, s30_78, s30_79, s30_81, s30_82, s30_83, s30_84, s30_85, s30_88, s30_90, s30_91, s30_92, s30_93, s30_94, s30_95, s30_96, s30_97, s30_99, s30_101, s30_102, s30_104, s30_107, s30_110, s30_112, ltI, geL, leL, not_true_eq_false, not_false_eq_true, if_true, if_false, and_self, and_true, true_and, and_false, false_and, or_self, or_true, true_or, or_false, false_or, bo_T, bo_F, bo_e0, nI10, nI00, nI11, nI01, bo_e1, nem, eqL, af_v, af_0, rf_s, rf_n, nn, ite_self, e0, pu]
  | succ m ih =>
    intro d S J0 R hS hp hA hT
    obtain ⟨a1, a2, a3, a4, a5, a6⟩ := s1_ok hS hp
    have loop : ∀ (g i : Nat), i + g = 8 → lo S < i → ∀ (J : sm_Im) (l6 : Option Value), (∀ c, c ≠ 20 → J c = J0 c) → TS J (fun x y => R x y ∨ MKo A m S i x y) → ∃ J1 : sm_Im, (∀ c, c ≠ 20 → J1 c = J0 c) ∧ TS J1 (fun x y => R x y ∨ MKo A m S 8 x y) ∧ sm_at (sm_ex (d + m + 2)) none 30 19 [some (.ref 16), some (.int (nI S)), some (.int (nI (m + 1))), some (.int (nI (lo S))), some (.int (nI (sig (puF A m S) i))), some (.int (nI i)), l6] [] 81 J L (pX sw) = some (some (.int (nI (sig (puF A m S) 8))), 81, J1, L, pX sw) := by
      intro g
      induction g with
      | zero =>
        intro i hi hlo J l6 hJ hT
        obtain rfl : i = 8 := by omega
        refine ⟨J, hJ, hT, ?_⟩
        rw [s30_19]
        simp (discharger := first | omega | decide) only [s30_0, s30_1, s30_4, s30_5, s30_6, s30_7, s30_10, s30_11, s30_12, s30_14, s30_15, s30_16, s30_17, s30_21, s30_23, s30_26, s30_27, s30_29, s30_32, s30_35, s30_36, s30_37, s30_39, s30_42, s30_45, s30_46, s30_47, s30_48, s30_49, s30_50, s30_51, s30_53, s30_54, s30_55, s30_56, s30_57, s30_58, s30_59, s30_60, s30_61, s30_64, s30_66, s30_68, s30_71, s30_72, s30_75, s30_76, s30_77, s30_78, s30_79, s30_81, s30_82, s30_83, s30_84, s30_85, s30_88, s30_90, s30_91, s30_92, s30_93, s30_94, s30_95, s30_96, s30_97, s30_99, s30_101, s30_102, s30_104, s30_107, s30_110, s30_112, ltI, geL, leL, not_true_eq_false, not_false_eq_true, if_true, if_false, and_self, and_true, true_and, and_false, false_and, or_self, or_true, true_or, or_false, false_or, bo_T, bo_F, bo_e0, nI10, nI00, nI11, nI01, bo_e1, nem, eqL, af_v, af_0, rf_s, rf_n, nn, ite_self, Int32.le_refl]
      | succ g ihg =>
        intro i hi hlo J l6 hJ hT
        have c1 : ¬ 8 ≤ i := by omega
        have hi8 : i < 8 := by omega
        have e := bitT (s := S) (k := i) (by omega) (by omega)
        have hAJ : ∀ x, x < 8 → J 19 x = nI (A x) ∧ A x < 256 := fun x hx => by rw [hJ 19 (by decide)]; exact hA x hx
        have eS : (s1 S).testBit i = S.testBit i := by rw [a5 i hi8, decide_eq_false (by omega)]; simp
        have hin : sm_ex (d + m + 2) 140 [.int (nI S), .int (nI i)] 81 J L (pX sw) = some (some (.int (bo (¬ (nI S >>> (nI i &&& 31)) &&& nI 1 = 0))), 81, J, L, pX sw) := h_isIn
        have hmay : sm_ex (d + m + 2) 31 [.ref 16, .int (nI (lo S)), .int (nI i)] 81 J L (pX sw) = some (some (.int (bo (VV A (lo S) i = true))), 81, J, L, pX sw) := c_may hAJ a2 hi8
        have hsg : sig (puF A m S) (i + 1) = sig (puF A m S) i + puF A m S i := sig_s _ _
        by_cases b : S.testBit i = true
        · have b' := b
          rw [← eS] at b'
          by_cases hv : VV A (lo S) i = true
          · obtain ⟨k1, k2, k3, k4, k5⟩ := s2_ok hS hp hi8 b'
            have ep : puF A m S i = pu A m (s1 S - 2 ^ i) := by unfold puF; rw [if_pos b', if_pos hv]
            rw [ep] at hsg
            have hple := pu_le (A := A) k1 k2
            have p1 := pw16 (show lo S ≤ 16 by omega)
            have p2 := pw16 (show i ≤ 16 by omega)
            have e1 := sh1 (show lo S ≤ 16 by omega)
            have e2 := sh1 (show i ≤ 16 by omega)
            have e3 : nI S &&& ((nI (2 ^ lo S) ||| nI (2 ^ i)) ^^^ -1) = nI (s1 S - 2 ^ i) := by
              have hl := Nat.or_lt_two_pow (n := 8) (wb_lt2 a2) (wb_lt2 hi8)
              rw [orI (by omega) (by omega), adnI (by omega) (by omega), rm_adn S hS (lo S) a2 i hi8 (by rw [a1, b, decide_eq_false (by omega)]; rfl)]; rfl
            have e4 : nI (m + 1) - nI 1 = nI m := by rw [subN (by omega)]; rfl
            obtain ⟨J2, g1, g2, g3⟩ := ih d (s1 S - 2 ^ i) J _ k1 k2 hAJ hT
            by_cases z : pu A m (s1 S - 2 ^ i) = 0
            · have zz : (nI (pu A m (s1 S - 2 ^ i)) ≤ 0) = True := by rw [le00 (by omega)]; exact eq_true z
              obtain ⟨J3, f1, f2, f3⟩ := ihg (i + 1) (by omega) (by omega) J2 (some (.int (nI (pu A m (s1 S - 2 ^ i))))) (fun c hc => (g1 c hc).trans (hJ c hc)) (TS_iff g2 (fun x y => by
                rw [MKo_yes b' hv, or_assoc]
                refine or_congr_right (or_congr_right ?_)
                rw [z]
                exact ⟨Or.inr, fun q => q.elim (fun q => absurd q.1 (by decide)) id⟩))
              refine ⟨J3, f1, f2, ?_⟩
              rw [← f3, hsg, s30_19]
              simp (discharger := (first | omega | decide | assumption | exact rg_lt | exact rg_ly | (simp only [ly16, p16_0, p16_1, p16_2, p16_3]; omega))) only [s30_0, s30_1, s30_4, s30_5, s30_6, s30_7, s30_10, s30_11, s30_12, s30_14, s30_15, s30_16, s30_17, s30_21, s30_23, s30_26, s30_27, s30_29, s30_32, s30_35, s30_36, s30_37, s30_39, s30_42, s30_45, s30_46, s30_47, s30_48, s30_49, s30_50, s30_51, s30_53, s30_54, s30_55, s30_56, s30_57, s30_58, s30_59, s30_60, s30_61, s30_64, s30_66, s30_68, s30_71, s30_72, s30_75, s30_76, s30_77, s30_78, s30_79, s30_81, s30_82, s30_83, s30_84, s30_85, s30_88, s30_90, s30_91, s30_92, s30_93, s30_94, s30_95, s30_96, s30_97, s30_99, s30_101, s30_102, s30_104, s30_107, s30_110, s30_112, ltI, geL, leL, not_true_eq_false, not_false_eq_true, if_true, if_false, and_self, and_true, true_and, and_false, false_and, or_self, or_true, true_or, or_false, false_or, bo_T, bo_F, bo_e0, nI10, nI00, nI11, nI01, bo_e1, nem, eqL, af_v, af_0, rf_s, rf_n, nn, ite_self, ly16, p16_0, p16_1, p16_2, p16_3, leN, c1, hin, e, b, hmay, hv, e1, e2, e3, e4, g3, zz, addN, sm_cl]
            · have zz : (nI (pu A m (s1 S - 2 ^ i)) ≤ 0) = False := by rw [le00 (by omega)]; exact eq_false z
              have t1 := TS_mark g2 a2 hi8
              have t2 := TS_mark t1 hi8 a2
              obtain ⟨J3, f1, f2, f3⟩ := ihg (i + 1) (by omega) (by omega) _ (some (.int (nI (pu A m (s1 S - 2 ^ i))))) (fun c hc => by rw [up_row hc, up_row hc]; exact (g1 c hc).trans (hJ c hc)) (TS_iff t2 (fun x y => by
                rw [MKo_yes b' hv]
                constructor
                · rintro (((q | q) | q) | q)
                  · exact q.elim Or.inl (fun q => Or.inr (Or.inl q))
                  · exact Or.inr (Or.inr (Or.inr q))
                  · exact Or.inr (Or.inr (Or.inl ⟨by omega, Or.inl q⟩))
                  · exact Or.inr (Or.inr (Or.inl ⟨by omega, Or.inr q⟩))
                · rintro (q | q | q | q)
                  · exact Or.inl (Or.inl (Or.inl (Or.inl q)))
                  · exact Or.inl (Or.inl (Or.inl (Or.inr q)))
                  · exact q.2.elim (fun q => Or.inl (Or.inr q)) (fun q => Or.inr q)
                  · exact Or.inl (Or.inl (Or.inr q))))
              refine ⟨J3, f1, f2, ?_⟩
              rw [← f3, hsg, s30_19]
              simp (discharger := (first | omega | decide | assumption | exact rg_lt | exact rg_ly | (simp only [ly16, p16_0, p16_1, p16_2, p16_3, ly20, al20]; omega))) only [s30_0, s30_1, s30_4, s30_5, s30_6, s30_7, s30_10, s30_11, s30_12, s30_14, s30_15, s30_16, s30_17, s30_21, s30_23, s30_26, s30_27, s30_29, s30_32, s30_35, s30_36, s30_37, s30_39, s30_42, s30_45, s30_46, s30_47, s30_48, s30_49, s30_50, s30_51, s30_53, s30_54, s30_55, s30_56, s30_57, s30_58, s30_59, s30_60, s30_61, s30_64, s30_66, s30_68, s30_71, s30_72, s30_75, s30_76, s30_77, s30_78, s30_79, s30_81, s30_82, s30_83, s30_84, s30_85, s30_88, s30_90, s30_91, s30_92, s30_93, s30_94, s30_95, s30_96, s30_97, s30_99, s30_101, s30_102, s30_104, s30_107, s30_110, s30_112, ltI, geL, leL, not_true_eq_false, not_false_eq_true, if_true, if_false, and_self, and_true, true_and, and_false, false_and, or_self, or_true, true_or, or_false, false_or, bo_T, bo_F, bo_e0, nI10, nI00, nI11, nI01, bo_e1, nem, eqL, af_v, af_0, rf_s, rf_n, nn, ite_self, ly16, p16_0, p16_1, p16_2, p16_3, ly20, al20, leN, c1, hin, e, b, hmay, hv, e1, e2, e3, e4, g3, zz, addN, sm_cl]
          · have ep : puF A m S i = 0 := by unfold puF; rw [if_pos b', if_neg hv]
            obtain ⟨J3, f1, f2, f3⟩ := ihg (i + 1) (by omega) (by omega) J l6 hJ (TS_iff hT (fun x y => or_congr_right (MKo_no (fun q => hv q.2) x y)))
            refine ⟨J3, f1, f2, ?_⟩
            rw [← f3, show sig (puF A m S) (i + 1) = sig (puF A m S) i by rw [hsg, ep, Nat.add_zero], s30_19]
            simp (discharger := (first | omega | decide | assumption | exact rg_lt | exact rg_ly | (simp only [ly16, p16_0, p16_1, p16_2, p16_3]; omega))) only [s30_0, s30_1, s30_4, s30_5, s30_6, s30_7, s30_10, s30_11, s30_12, s30_14, s30_15, s30_16, s30_17, s30_21, s30_23, s30_26, s30_27, s30_29, s30_32, s30_35, s30_36, s30_37, s30_39, s30_42, s30_45, s30_46, s30_47, s30_48, s30_49, s30_50, s30_51, s30_53, s30_54, s30_55, s30_56, s30_57, s30_58, s30_59, s30_60, s30_61, s30_64, s30_66, s30_68, s30_71, s30_72, s30_75, s30_76, s30_77, s30_78, s30_79, s30_81, s30_82, s30_83, s30_84, s30_85, s30_88, s30_90, s30_91, s30_92, s30_93, s30_94, s30_95, s30_96, s30_97, s30_99, s30_101, s30_102, s30_104, s30_107, s30_110, s30_112, ltI, geL, leL, not_true_eq_false, not_false_eq_true, if_true, if_false, and_self, and_true, true_and, and_false, false_and, or_self, or_true, true_or, or_false, false_or, bo_T, bo_F, bo_e0, nI10, nI00, nI11, nI01, bo_e1, nem, eqL, af_v, af_0, rf_s, rf_n, nn, ite_self, ly16, p16_0, p16_1, p16_2, p16_3, leN, c1, hin, e, b, hmay, hv, addN, sm_cl, Bool.false_eq_true]
        · have ep : puF A m S i = 0 := by unfold puF; rw [eS, if_neg b]
          obtain ⟨J3, f1, f2, f3⟩ := ihg (i + 1) (by omega) (by omega) J l6 hJ (TS_iff hT (fun x y => or_congr_right (MKo_no (fun q => b (by rw [← eS]; exact q.1)) x y)))
          refine ⟨J3, f1, f2, ?_⟩
          rw [← f3, show sig (puF A m S) (i + 1) = sig (puF A m S) i by rw [hsg, ep, Nat.add_zero], s30_19]
          simp (discharger := (first | omega | decide | assumption | exact rg_lt | exact rg_ly | (simp only [ly16, p16_0, p16_1, p16_2, p16_3]; omega))) only [s30_0, s30_1, s30_4, s30_5, s30_6, s30_7, s30_10, s30_11, s30_12, s30_14, s30_15, s30_16, s30_17, s30_21, s30_23, s30_26, s30_27, s30_29, s30_32, s30_35, s30_36, s30_37, s30_39, s30_42, s30_45, s30_46, s30_47, s30_48, s30_49, s30_50, s30_51, s30_53, s30_54, s30_55, s30_56, s30_57, s30_58, s30_59, s30_60, s30_61, s30_64, s30_66, s30_68, s30_71, s30_72, s30_75, s30_76, s30_77, s30_78, s30_79, s30_81, s30_82, s30_83, s30_84, s30_85, s30_88, s30_90, s30_91, s30_92, s30_93, s30_94, s30_95, s30_96, s30_97, s30_99, s30_101, s30_102, s30_104, s30_107, s30_110, s30_112, ltI, geL, leL, not_true_eq_false, not_false_eq_true, if_true, if_false, and_self, and_true, true_and, and_false, false_and, or_self, or_true, true_or, or_false, false_or, bo_T, bo_F, bo_e0, nI10, nI00, nI11, nI01, bo_e1, nem, eqL, af_v, af_0, rf_s, rf_n, nn, ite_self, ly16, p16_0, p16_1, p16_2, p16_3, leN, c1, hin, e, b, addN, sm_cl, Bool.false_eq_true]
    have hz : sig (puF A m S) (lo S + 1) = 0 := by
      rw [← sig_zero (lo S + 1)]
      refine sig_cong _ (fun k hk => ?_)
      unfold puF
      rw [if_neg (fun q => by have := a6 k (by omega) q; omega)]
    obtain ⟨J1, f1, f2, f3⟩ := loop (7 - lo S) (lo S + 1) (by omega) (by omega) J0 none (fun c _ => rfl) (TS_iff hT (fun x y => ⟨Or.inl, fun q => q.elim id (fun ⟨o, q1, q2, _⟩ => by have := a6 o (by omega) q2; omega)⟩))
    refine ⟨J1, f1, f2, ?_⟩
    have hfo : sm_ex (d + m + 2) 32 [.int (nI S)] 81 J0 L (pX sw) = some (some (.int (nI (lo S))), 81, J0, L, pX sw) := c_firstOf hS
    have e0 : (nI (m + 1) ≤ 0) = False := by
      have := pop_le S 8
      rw [le00 (by omega)]; exact eq_false (by omega)
    rw [hz] at f3
    rw [show d + (m + 1) + 2 = (d + m + 2) + 1 by omega, e30]
    simp only [s30_0, s30_1, s30_4, s30_5, s30_6, s30_7, s30_10, s30_11, s30_12, s30_14, s30_15, s30_16, s30_17, s30_21, s30_23, s30_26, s30_27, s30_29, s30_32, s30_35, s30_36, s30_37, s30_39, s30_42, s30_45, s30_46, s30_47, s30_48, s30_49, s30_50, s30_51, s30_53, s30_54, s30_55, s30_56, s30_57, s30_58, s30_59, s30_60, s30_61, s30_64, s30_66, s30_68, s30_71, s30_72, s30_75, s30_76, s30_77, s30_78, s30_79, s30_81, s30_82, s30_83, s30_84, s30_85, s30_88, s30_90, s30_91, s30_92, s30_93, s30_94, s30_95, s30_96, s30_97, s30_99, s30_101, s30_102, s30_104, s30_107, s30_110, s30_112, ltI, geL, leL, not_true_eq_false, not_false_eq_true, if_true, if_false, and_self, and_true, true_and, and_false, false_and, or_self, or_true, true_or, or_false, false_or, bo_T, bo_F, bo_e0, nI10, nI00, nI11, nI01, bo_e1, nem, eqL, af_v, af_0, rf_s, rf_n, nn, ite_self, e0, hfo, addN, sm_cl]
    exact f3
end CRW
