section NW
variable {d N : Nat} {I J : sm_Im} {L : sm_Lm} {P : sm_Pm} {sw : Bool} {x y z u v : Int32} {a b m n q i j p k c s w o R : Nat} {f : Nat → Int32} {D : Mx} {β : Nat → Nat → Nat} {r t : Nat → Nat} {C C' : Nat → Nat → Prop}
def okb (β : Nat → Nat → Nat) (x : Int32) (k : Nat) : Prop := ¬ β 1 k = 2 ∧ anyN (fun j => bitI x (β (6 + k) j)) (β 3 k) = false
def CA (β : Nat → Nat → Nat) (x : Int32) (b i j p q : Nat) : Prop := (β 4 p < b ∧ okb β x (β 4 p)) ∨ (β 4 p = b ∧ (β 5 p < i ∨ (β 5 p = i ∧ β 5 q < j)))
def CF (β : Nat → Nat → Nat) (x : Int32) (p q : Nat) : Prop := β 4 p < β 0 0 ∧ okb β x (β 4 p)
theorem dl_e (h : dl β p q = some s) : β 4 p < β 0 0 ∧ β 4 q = β 4 p ∧ ¬ p = q ∧ s = dly (β 1 (β 4 p)) (β 2 (β 4 p)) (β 3 (β 4 p)) (β 5 p) (β 5 q) := by
  unfold dl at h
  obtain ⟨h1, h2⟩ := sm_if h
  exact ⟨h1.1, h1.2.1, h1.2.2, (Option.some.inj h2).symm⟩
theorem c_ap_in (hR : 37 ≤ R) (A : RA R) (B : RB R I β) (O : BOk β) (ht : ∀ p, p < 10 → I 36 p = nI (t p) ∧ t p < 6) (hb : b < β 0 0) (hi : i < β 3 b) : ∀ (g j : Nat), j + g = β 3 b → ∀ (J : sm_Im) (l5 l6 : Option Value), (∀ c, c ≠ 10 → J c = I c) → LW (J 10) 100000 r t β (CA β x b i j) → ∃ (J1 : sm_Im) (l5' l6' : Option Value), (∀ c, c ≠ 10 → J1 c = I c) ∧ LW (J1 10) 100000 r t β (CA β x b (i + 1) 0) ∧ sm_at (sm_ex (d + 2)) none 42 13 [some (.ref 7), some (.ref (R + 3 + 2 * b)), some (.ref 36), some (.int (nI i)), some (.int (nI j)), l5, l6] [] 81 J L (pX sw) = sm_at (sm_ex (d + 2)) none 42 2 [some (.ref 7), some (.ref (R + 3 + 2 * b)), some (.ref 36), some (.int (nI (i + 1))), some (.int (nI (β 3 b))), l5', l6'] [] 81 J1 L (pX sw) := by
  have O5 := O.1
  have A0 := A.2.2.2.2.2.2.2.2.2 b (by omega)
  have A1 := A0.1
  have A2 := A0.2.1
  obtain ⟨o1, o2, o3, o4, o5⟩ := O.2.1 b hb
  intro g
  induction g with
  | zero =>
    intro j hj J l5 l6 hJ hW
    obtain rfl : j = β 3 b := by omega
    have B' := RB_cong hR (fun c hc => hJ c (by omega)) B
    obtain ⟨q1, q2, q3, q4⟩ := B'.2.1 b hb
    refine ⟨J, l5, l6, hJ, LW_mono hW (fun p q s hp hq h => ?_), ?_⟩
    · obtain ⟨e1, e2, e3, e4⟩ := dl_e h
      have pp := O.2.2 q hq (by omega)
      unfold CA
      constructor
      · rintro (h | ⟨h1, h2⟩)
        · exact Or.inl h
        · exact Or.inr ⟨h1, by omega⟩
      · rintro (h | ⟨h1, h2⟩)
        · exact Or.inl h
        · refine Or.inr ⟨h1, ?_⟩
          have pq := pp.1
          rw [e2, h1] at pq
          omega
    · rw [s42_13]
      simp (discharger := first | assumption | omega | decide) only [s42_0, s42_1, s42_3, s42_3n, s42_4, s42_7, s42_10, s42_11, s42_15, s42_15n, s42_16, s42_19, s42_22, s42_22n, s42_23, s42_24, s42_27, s42_29, s42_29n, s42_30, s42_32, s42_35, s42_37, s42_38, s42_40, s42_43, s42_45, s42_48, s42_51, s42_53, s42_56, s42_59, s42_60, s42_63, s42_63n, s42_64, s42_66, s42_66t0, s42_66t1, s42_67, s42_67n, s42_68, s42_70, s42_70t0, s42_70t1, s42_71, s42_72, s42_72n, s42_73, s42_74, s42_76, s42_79, s42_80, s42_83, s42_86, s42_89, s42_92, s42_95, ltI, geL, leL, not_true_eq_false, not_false_eq_true, if_true, if_false, and_self, and_true, true_and, and_false, false_and, or_self, or_true, true_or, or_false, false_or, bo_T, bo_F, bo_e0, nI10, nI00, nI11, nI01, bo_e1, nem, eqL, af_v, af_0, rf_s, rf_n, nn, ite_self, i_size A0, q3, Int32.le_refl, addN, sm_cl]
  | succ g ih =>
    intro j hj J l5 l6 hJ hW
    have B' := RB_cong hR (fun c hc => hJ c (by omega)) B
    obtain ⟨q1, q2, q3, q4⟩ := B'.2.1 b hb
    have c1 : ¬ β 3 b ≤ j := by omega
    have oi := o5 i hi
    have oj := o5 j (by omega)
    have mi := q4 i hi
    have mj := q4 j (by omega)
    by_cases e : i = j
    · obtain ⟨J1, l5', l6', h1, h2, h3⟩ := ih (j + 1) (by omega) J (some (.int (nI (β (6 + b) i)))) (some (.int (nI (β (6 + b) j)))) hJ (LW_mono hW (fun p q s hp hq h => by
        obtain ⟨e1, e2, e3, e4⟩ := dl_e h
        have pp := O.2.2 p hp e1
        have pq := O.2.2 q hq (by omega)
        unfold CA
        constructor
        · rintro (h | ⟨h1, h2⟩)
          · exact Or.inl h
          · exact Or.inr ⟨h1, by omega⟩
        · rintro (h | ⟨h1, h2⟩)
          · exact Or.inl h
          · refine Or.inr ⟨h1, ?_⟩
            by_cases h4 : β 5 p = i ∧ β 5 q = j
            · exfalso
              apply e3
              rw [← pp.2, ← pq.2, e2, h4.1, h4.2, e]
            · omega))
      refine ⟨J1, l5', l6', h1, h2, ?_⟩
      have e' := eq_true e
      rw [← h3, s42_13]
      simp (discharger := first | assumption | omega | decide) only [s42_0, s42_1, s42_3, s42_3n, s42_4, s42_7, s42_10, s42_11, s42_15, s42_15n, s42_16, s42_19, s42_22, s42_22n, s42_23, s42_24, s42_27, s42_29, s42_29n, s42_30, s42_32, s42_35, s42_37, s42_38, s42_40, s42_43, s42_45, s42_48, s42_51, s42_53, s42_56, s42_59, s42_60, s42_63, s42_63n, s42_64, s42_66, s42_66t0, s42_66t1, s42_67, s42_67n, s42_68, s42_70, s42_70t0, s42_70t1, s42_71, s42_72, s42_72n, s42_73, s42_74, s42_76, s42_79, s42_80, s42_83, s42_86, s42_89, s42_92, s42_95, ltI, geL, leL, not_true_eq_false, not_false_eq_true, if_true, if_false, and_self, and_true, true_and, and_false, false_and, or_self, or_true, true_or, or_false, false_or, bo_T, bo_F, bo_e0, nI10, nI00, nI11, nI01, bo_e1, nem, eqL, af_v, af_0, rf_s, rf_n, nn, ite_self, i_size A0, q3, leN, c1, i_member_1 A0 q3 o4 hi, i_member_1 A0 q3 o4 (show j < β 3 b by omega), mi, mj, eqN, e', addN, sm_cl]
    · have hdl : dl β (β (6 + b) i) (β (6 + b) j) = some (dly (β 1 b) (β 2 b) (β 3 b) i j) := by
        unfold dl
        rw [oi.2.1, oj.2.1, oi.2.2, oj.2.2, if_pos ⟨hb, rfl, fun q => e (by have h1 := oi.2.2; have h2 := oj.2.2; rw [q] at h1; omega)⟩]
      obtain ⟨m, hm1, hm2, hm3⟩ := LW_step hW oi.1 oj.1 (fun p hp => (ht p hp).2) hdl
      obtain ⟨J1, l5', l6', h1, h2, h3⟩ := ih (j + 1) (by omega) _ (some (.int (nI (β (6 + b) i)))) (some (.int (nI (β (6 + b) j)))) (fun c hc => by rw [up_row hc]; exact hJ c hc) (LW_mono hm3 (fun p q s hp hq h => by
        obtain ⟨e1, e2, e3, e4⟩ := dl_e h
        have pp := O.2.2 p hp e1
        have pq := O.2.2 q hq (by omega)
        unfold CA
        constructor
        · rintro ((h | ⟨h1, h2⟩) | ⟨h1, h2⟩)
          · exact Or.inl h
          · exact Or.inr ⟨h1, by omega⟩
          · refine Or.inr ⟨by rw [h1]; exact oi.2.1, Or.inr ⟨by rw [h1]; exact oi.2.2, by rw [h2, oj.2.2]; omega⟩⟩
        · rintro (h | ⟨h1, h2⟩)
          · exact Or.inl (Or.inl h)
          · by_cases h4 : β 5 p = i ∧ β 5 q = j
            · right
              have pp2 := pp.2
              have pq2 := pq.2
              rw [h1, h4.1] at pp2
              rw [e2, h1, h4.2] at pq2
              exact ⟨pp2.symm, pq2.symm⟩
            · exact Or.inl (Or.inr ⟨h1, by omega⟩)))
      refine ⟨J1, l5', l6', h1, h2, ?_⟩
      have ti := ht _ oi.1
      have tj := ht _ oj.1
      have t1 : J 36 (β (6 + b) i) = nI (t (β (6 + b) i)) := by rw [hJ 36 (by decide)]; exact ti.1
      have t2 : J 36 (β (6 + b) j) = nI (t (β (6 + b) j)) := by rw [hJ 36 (by decide)]; exact tj.1
      have hdle := dl_le O oi.1 oj.1 hdl
      have oi1 := oi.1
      have oj1 := oj.1
      have pi1 : 0 ≤ β (6 + b) i ∧ β (6 + b) i ≤ 9 := ⟨Nat.zero_le _, by omega⟩
      have pj1 : 0 ≤ β (6 + b) j ∧ β (6 + b) j ≤ 9 := ⟨Nat.zero_le _, by omega⟩
      have hs : sm_ex (d + 2) 86 [.ref 9, .int (nI (t (β (6 + b) i))), .int (nI (t (β (6 + b) j))), .int (nI (1 + dly (β 1 b) (β 2 b) (β 3 b) i j))] 81 J L (pX sw) = _ := c_shorten WA9 ti.2 tj.2 hm1 (by omega) (by omega)
      rw [← h3, s42_13]
      simp (discharger := first | assumption | omega | decide | (simp only [ly7, p7_0, p7_1, p7_2, p7_3, ly36, al36]; omega)) only [s42_0, s42_1, s42_3, s42_3n, s42_4, s42_7, s42_10, s42_11, s42_15, s42_15n, s42_16, s42_19, s42_22, s42_22n, s42_23, s42_24, s42_27, s42_29, s42_29n, s42_30, s42_32, s42_35, s42_37, s42_38, s42_40, s42_43, s42_45, s42_48, s42_51, s42_53, s42_56, s42_59, s42_60, s42_63, s42_63n, s42_64, s42_66, s42_66t0, s42_66t1, s42_67, s42_67n, s42_68, s42_70, s42_70t0, s42_70t1, s42_71, s42_72, s42_72n, s42_73, s42_74, s42_76, s42_79, s42_80, s42_83, s42_86, s42_89, s42_92, s42_95, ltI, geL, leL, not_true_eq_false, not_false_eq_true, if_true, if_false, and_self, and_true, true_and, and_false, false_and, or_self, or_true, true_or, or_false, false_or, bo_T, bo_F, bo_e0, nI10, nI00, nI11, nI01, bo_e1, nem, eqL, af_v, af_0, rf_s, rf_n, nn, ite_self, ly7, p7_0, p7_1, p7_2, p7_3, ly36, al36, ly9, p9_0, i_size A0, q3, leN, c1, i_member_1 A0 q3 o4 hi, i_member_1 A0 q3 o4 (show j < β 3 b by omega), mi, mj, eqN, e, h_isPerson, pi1, pj1, t1, t2, i_delay A0 q1 o1 q2 q3 o4 hi (show j < β 3 b by omega), addN, hs, sm_cl]
theorem c_ap_out (hR : 37 ≤ R) (A : RA R) (B : RB R I β) (O : BOk β) (ht : ∀ p, p < 10 → I 36 p = nI (t p) ∧ t p < 6) (hb : b < β 0 0) : ∀ (g i : Nat), i + g = β 3 b → ∀ (J : sm_Im) (l4 l5 l6 : Option Value), (∀ c, c ≠ 10 → J c = I c) → LW (J 10) 100000 r t β (CA β x b i 0) → ∃ (J1 : sm_Im), (∀ c, c ≠ 10 → J1 c = I c) ∧ LW (J1 10) 100000 r t β (CA β x b (β 3 b) 0) ∧ sm_at (sm_ex (d + 2)) none 42 2 [some (.ref 7), some (.ref (R + 3 + 2 * b)), some (.ref 36), some (.int (nI i)), l4, l5, l6] [] 81 J L (pX sw) = some (none, 81, J1, L, pX sw) := by
  have O5 := O.1
  have A0 := A.2.2.2.2.2.2.2.2.2 b (by omega)
  have A1 := A0.1
  have A2 := A0.2.1
  obtain ⟨o1, o2, o3, o4, o5⟩ := O.2.1 b hb
  intro g
  induction g with
  | zero =>
    intro i hi J l4 l5 l6 hJ hW
    obtain rfl : i = β 3 b := by omega
    obtain ⟨q1, q2, q3, q4⟩ := (RB_cong hR (fun c hc => hJ c (by omega)) B).2.1 b hb
    refine ⟨J, hJ, hW, ?_⟩
    rw [s42_2]
    simp (discharger := first | assumption | omega | decide) only [s42_0, s42_1, s42_3, s42_3n, s42_4, s42_7, s42_10, s42_11, s42_15, s42_15n, s42_16, s42_19, s42_22, s42_22n, s42_23, s42_24, s42_27, s42_29, s42_29n, s42_30, s42_32, s42_35, s42_37, s42_38, s42_40, s42_43, s42_45, s42_48, s42_51, s42_53, s42_56, s42_59, s42_60, s42_63, s42_63n, s42_64, s42_66, s42_66t0, s42_66t1, s42_67, s42_67n, s42_68, s42_70, s42_70t0, s42_70t1, s42_71, s42_72, s42_72n, s42_73, s42_74, s42_76, s42_79, s42_80, s42_83, s42_86, s42_89, s42_92, s42_95, ltI, geL, leL, not_true_eq_false, not_false_eq_true, if_true, if_false, and_self, and_true, true_and, and_false, false_and, or_self, or_true, true_or, or_false, false_or, bo_T, bo_F, bo_e0, nI10, nI00, nI11, nI01, bo_e1, nem, eqL, af_v, af_0, rf_s, rf_n, nn, ite_self, i_size A0, q3, Int32.le_refl, addN, sm_cl]
  | succ g ih =>
    intro i hi J l4 l5 l6 hJ hW
    have c1 : ¬ β 3 b ≤ i := by omega
    obtain ⟨q1, q2, q3, q4⟩ := (RB_cong hR (fun c hc => hJ c (by omega)) B).2.1 b hb
    obtain ⟨J0, m5, m6, k1, k2, k3⟩ := c_ap_in (d := d) (L := L) (sw := sw) hR A B O ht hb (show i < β 3 b by omega) (β 3 b) 0 (Nat.zero_add _) J l5 l6 hJ hW
    obtain ⟨J1, h1, h2, h3⟩ := ih (i + 1) (by omega) J0 _ m5 m6 k1 k2
    refine ⟨J1, h1, h2, ?_⟩
    rw [← h3, ← k3, s42_2]
    simp (discharger := first | assumption | omega | decide) only [s42_0, s42_1, s42_3, s42_3n, s42_4, s42_7, s42_10, s42_11, s42_15, s42_15n, s42_16, s42_19, s42_22, s42_22n, s42_23, s42_24, s42_27, s42_29, s42_29n, s42_30, s42_32, s42_35, s42_37, s42_38, s42_40, s42_43, s42_45, s42_48, s42_51, s42_53, s42_56, s42_59, s42_60, s42_63, s42_63n, s42_64, s42_66, s42_66t0, s42_66t1, s42_67, s42_67n, s42_68, s42_70, s42_70t0, s42_70t1, s42_71, s42_72, s42_72n, s42_73, s42_74, s42_76, s42_79, s42_80, s42_83, s42_86, s42_89, s42_92, s42_95, ltI, geL, leL, not_true_eq_false, not_false_eq_true, if_true, if_false, and_self, and_true, true_and, and_false, false_and, or_self, or_true, true_or, or_false, false_or, bo_T, bo_F, bo_e0, nI10, nI00, nI11, nI01, bo_e1, nem, eqL, af_v, af_0, rf_s, rf_n, nn, ite_self, i_size A0, q3, leN, c1, addN, sm_cl]
theorem c_addPinches (hR : 37 ≤ R) (A : RA R) (B : RB R I β) (O : BOk β) (ht : ∀ p, p < 10 → I 36 p = nI (t p) ∧ t p < 6) (hb : b < β 0 0) (hW : LW (I 10) 100000 r t β (CA β x b 0 0)) : ∃ (J1 : sm_Im), (∀ c, c ≠ 10 → J1 c = I c) ∧ LW (J1 10) 100000 r t β (CA β x b (β 3 b) 0) ∧ sm_ex (d + 3) 42 [.ref 7, .ref (R + 3 + 2 * b), .ref 36] 81 I L (pX sw) = some (none, 81, J1, L, pX sw) := by
  obtain ⟨J1, h1, h2, h3⟩ := c_ap_out (d := d) (L := L) (sw := sw) hR A B O ht hb (β 3 b) 0 (Nat.zero_add _) I none none none (fun c _ => rfl) hW
  refine ⟨J1, h1, h2, ?_⟩
  rw [← h3, e42]
  simp only [s42_0, s42_1, s42_3, s42_3n, s42_4, s42_7, s42_10, s42_11, s42_15, s42_15n, s42_16, s42_19, s42_22, s42_22n, s42_23, s42_24, s42_27, s42_29, s42_29n, s42_30, s42_32, s42_35, s42_37, s42_38, s42_40, s42_43, s42_45, s42_48, s42_51, s42_53, s42_56, s42_59, s42_60, s42_63, s42_63n, s42_64, s42_66, s42_66t0, s42_66t1, s42_67, s42_67n, s42_68, s42_70, s42_70t0, s42_70t1, s42_71, s42_72, s42_72n, s42_73, s42_74, s42_76, s42_79, s42_80, s42_83, s42_86, s42_89, s42_92, s42_95, ltI, geL, leL, not_true_eq_false, not_false_eq_true, if_true, if_false, and_self, and_true, true_and, and_false, false_and, or_self, or_true, true_or, or_false, false_or, bo_T, bo_F, bo_e0, nI10, nI00, nI11, nI01, bo_e1, nem, eqL, af_v, af_0, rf_s, rf_n, nn, ite_self, sm_cl]
theorem CA_next (O : BOk β) (hk : okb β x b) {s : Nat} (hp : p < 10) (h : dl β p q = some s) : CA β x b (β 3 b) 0 p q ↔ CA β x (b + 1) 0 0 p q := by
  obtain ⟨e1, e2, e3, e4⟩ := dl_e h
  have pp := (O.2.2 p hp e1).1
  unfold CA
  constructor
  · rintro (⟨h1, h2⟩ | ⟨h1, h2⟩)
    · exact Or.inl ⟨by omega, h2⟩
    · exact Or.inl ⟨by omega, by rw [h1]; exact hk⟩
  · rintro (⟨h1, h2⟩ | ⟨h1, h2⟩)
    · by_cases h3 : β 4 p = b
      · rw [h3] at pp
        exact Or.inr ⟨h3, Or.inl pp⟩
      · exact Or.inl ⟨by omega, h2⟩
    · omega
theorem CA_skip (hk : ¬ okb β x b) : CA β x b 0 0 p q ↔ CA β x (b + 1) 0 0 p q := by
  unfold CA
  constructor
  · rintro (⟨h1, h2⟩ | ⟨h1, h2⟩)
    · exact Or.inl ⟨by omega, h2⟩
    · omega
  · rintro (⟨h1, h2⟩ | ⟨h1, h2⟩)
    · by_cases h3 : β 4 p = b
      · rw [h3] at h2; exact absurd h2 hk
      · exact Or.inl ⟨by omega, h2⟩
    · omega
theorem c_rk_b (hR : 37 ≤ R) (A : RA R) (B : RB R I β) (O : BOk β) (ht : ∀ p, p < 10 → I 36 p = nI (t p) ∧ t p < 6) : ∀ (g b : Nat), b + g = β 0 0 → ∀ (J : sm_Im) (l5 l6 : Option Value), (∀ c, c ≠ 10 → J c = I c) → LW (J 10) 100000 r t β (CA β x b 0 0) → ∃ (J1 : sm_Im) (W : Mx), (∀ c, c ≠ 10 → J1 c = I c) ∧ PW W 100000 r t β (CF β x) ∧ RW (J1 10) (fw W 6) ∧ sm_at (sm_ex (d + 4)) none 41 75 [some (.ref 7), some (.ref R), some (.ref 36), some (.int x), some (.int (nI b)), l5, l6] [] 81 J L (pX sw) = some (none, 81, J1, L, pX sw) := by
  have O5 := O.1
  have A1 := A.1
  have A2 := A.2.1
  intro g
  induction g with
  | zero =>
    intro b hb J l5 l6 hJ hW
    obtain rfl : b = β 0 0 := by omega
    have B' := RB_cong hR (fun c hc => hJ c (by omega)) B
    obtain ⟨W, w1, w2, w3⟩ := LW_mono (C' := CF β x) hW (fun p q s hp hq h => by
      unfold CA CF
      constructor
      · rintro (h | ⟨h1, h2⟩)
        · exact h
        · omega
      · exact fun h => Or.inl h)
    obtain ⟨J1, h1, h2, h3⟩ := c_joinWays (d := d) (L := L) (sw := sw) (I := J) WA9 (PW_d ⟨w2, w3⟩) w2 w1
    refine ⟨J1, W, fun c hc => by rw [h1 c hc]; exact hJ c hc, ⟨w2, w3⟩, h2, ?_⟩
    rw [s41_75]
    simp (discharger := (first | omega | decide | assumption | exact rg_lt | exact rg_ly | (simp only [ly7, p7_0, p7_1, p7_2, p7_3, ly9, p9_0]; omega))) only [s41_0, s41_1, s41_4, s41_7, s41_8, s41_12, s41_14, s41_17, s41_18, s41_22, s41_24, s41_27, s41_28, s41_31, s41_33, s41_35, s41_36, s41_38, s41_39, s41_39t0, s41_39t1, s41_40, s41_42, s41_44, s41_47, s41_48, s41_51, s41_53, s41_55, s41_57, s41_60, s41_63, s41_66, s41_69, s41_72, s41_73, s41_77, s41_77n, s41_78, s41_81, s41_84, s41_84n, s41_85, s41_87, s41_90, s41_90n, s41_92, s41_92n, s41_94, s41_94n, s41_97, s41_97n, s41_99, s41_100, s41_103, s41_106, s41_106n, s41_108, s41_109, s41_112, s41_115, s41_116, s41_116n, s41_118, s41_118n, s41_119, s41_122, s41_125, s41_128, s41_129, s41_132, s41_135, ltI, geL, leL, not_true_eq_false, not_false_eq_true, if_true, if_false, and_self, and_true, true_and, and_false, false_and, or_self, or_true, true_or, or_false, false_or, bo_T, bo_F, bo_e0, nI10, nI00, nI11, nI01, bo_e1, nem, eqL, af_v, af_0, rf_s, rf_n, nn, ite_self, ly7, p7_0, p7_1, p7_2, p7_3, ly9, p9_0, r_size A, B'.1, Int32.le_refl, h3, sm_cl]
  | succ g ih =>
    intro b hb J l5 l6 hJ hW
    have hb0 : b < β 0 0 := by omega
    have c1 : ¬ β 0 0 ≤ b := by omega
    have B' := RB_cong hR (fun c hc => hJ c (by omega)) B
    have A0 := A.2.2.2.2.2.2.2.2.2 b (by omega)
    have A3 := A0.1
    have A4 := A0.2.1
    obtain ⟨o1, o2, o3, o4, o5⟩ := O.2.1 b hb0
    obtain ⟨q1, q2, q3, q4⟩ := B'.2.1 b hb0
    have ef : (nI 2 = 0 ∨ nI 2 = nI (β 1 b)) = (β 1 b = 2) := by
      rw [eqN (by decide) (by omega), eq_iff_iff]
      constructor
      · rintro (h | h)
        · exact absurd h (by decide)
        · exact h.symm
      · exact fun h => Or.inr h.symm
    have hm : ∀ j, j < β 3 b → J (R + 3 + 2 * b + 1) j = nI (β (6 + b) j) ∧ β (6 + b) j < 10 := fun j hj => ⟨q4 j hj, (o5 j hj).1⟩
    have hany : sm_ex (d + 4) 13 [.ref (R + 3 + 2 * b), .int x] 81 J L (pX sw) = _ := i_hasAnyOf (d := d + 2) A0 q3 o4 hm
    by_cases hk : okb β x b
    · have ht' : ∀ p, p < 10 → J 36 p = nI (t p) ∧ t p < 6 := fun p hp => by rw [hJ 36 (by decide)]; exact ht p hp
      obtain ⟨J0, k1, k2, k3⟩ := c_addPinches (d := d + 1) (L := L) (sw := sw) hR A B' O ht' hb0 hW
      obtain ⟨J1, W, h1, h2, h3, h4⟩ := ih (b + 1) (by omega) J0 (some (.ref (R + 3 + 2 * b))) l6 (fun c hc => by rw [k1 c hc]; exact hJ c hc) (LW_mono k2 (fun p q s hp hq h => CA_next O hk hp h))
      refine ⟨J1, W, h1, h2, h3, ?_⟩
      obtain ⟨hk1, hk2⟩ := hk
      rw [← h4, s41_75]
      simp (discharger := first | assumption | omega | decide) only [s41_0, s41_1, s41_4, s41_7, s41_8, s41_12, s41_14, s41_17, s41_18, s41_22, s41_24, s41_27, s41_28, s41_31, s41_33, s41_35, s41_36, s41_38, s41_39, s41_39t0, s41_39t1, s41_40, s41_42, s41_44, s41_47, s41_48, s41_51, s41_53, s41_55, s41_57, s41_60, s41_63, s41_66, s41_69, s41_72, s41_73, s41_77, s41_77n, s41_78, s41_81, s41_84, s41_84n, s41_85, s41_87, s41_90, s41_90n, s41_92, s41_92n, s41_94, s41_94n, s41_97, s41_97n, s41_99, s41_100, s41_103, s41_106, s41_106n, s41_108, s41_109, s41_112, s41_115, s41_116, s41_116n, s41_118, s41_118n, s41_119, s41_122, s41_125, s41_128, s41_129, s41_132, s41_135, ltI, geL, leL, not_true_eq_false, not_false_eq_true, if_true, if_false, and_self, and_true, true_and, and_false, false_and, or_self, or_true, true_or, or_false, false_or, bo_T, bo_F, bo_e0, nI10, nI00, nI11, nI01, bo_e1, nem, eqL, af_v, af_0, rf_s, rf_n, nn, ite_self, r_size A, B'.1, leN, c1, r_find_1 A B'.1 O5 hb0, i_isA A0, q1, ef, hk1, hany, hk2, Bool.false_eq_true, k3, addN, sm_cl]
    · obtain ⟨J1, W, h1, h2, h3, h4⟩ := ih (b + 1) (by omega) J (some (.ref (R + 3 + 2 * b))) l6 hJ (LW_mono hW (fun p q s hp hq h => CA_skip hk))
      refine ⟨J1, W, h1, h2, h3, ?_⟩
      rw [← h4, s41_75]
      by_cases hk1 : β 1 b = 2
      · have hk1 := eq_true hk1
        simp (discharger := first | assumption | omega | decide) only [s41_0, s41_1, s41_4, s41_7, s41_8, s41_12, s41_14, s41_17, s41_18, s41_22, s41_24, s41_27, s41_28, s41_31, s41_33, s41_35, s41_36, s41_38, s41_39, s41_39t0, s41_39t1, s41_40, s41_42, s41_44, s41_47, s41_48, s41_51, s41_53, s41_55, s41_57, s41_60, s41_63, s41_66, s41_69, s41_72, s41_73, s41_77, s41_77n, s41_78, s41_81, s41_84, s41_84n, s41_85, s41_87, s41_90, s41_90n, s41_92, s41_92n, s41_94, s41_94n, s41_97, s41_97n, s41_99, s41_100, s41_103, s41_106, s41_106n, s41_108, s41_109, s41_112, s41_115, s41_116, s41_116n, s41_118, s41_118n, s41_119, s41_122, s41_125, s41_128, s41_129, s41_132, s41_135, ltI, geL, leL, not_true_eq_false, not_false_eq_true, if_true, if_false, and_self, and_true, true_and, and_false, false_and, or_self, or_true, true_or, or_false, false_or, bo_T, bo_F, bo_e0, nI10, nI00, nI11, nI01, bo_e1, nem, eqL, af_v, af_0, rf_s, rf_n, nn, ite_self, r_size A, B'.1, leN, c1, r_find_1 A B'.1 O5 hb0, i_isA A0, q1, ef, hk1, addN, sm_cl]
      · have hk2 : anyN (fun j => bitI x (β (6 + b) j)) (β 3 b) = true := by
          cases h : anyN (fun j => bitI x (β (6 + b) j)) (β 3 b) with
          | true => rfl
          | false => exact absurd ⟨hk1, h⟩ hk
        simp (discharger := first | assumption | omega | decide) only [s41_0, s41_1, s41_4, s41_7, s41_8, s41_12, s41_14, s41_17, s41_18, s41_22, s41_24, s41_27, s41_28, s41_31, s41_33, s41_35, s41_36, s41_38, s41_39, s41_39t0, s41_39t1, s41_40, s41_42, s41_44, s41_47, s41_48, s41_51, s41_53, s41_55, s41_57, s41_60, s41_63, s41_66, s41_69, s41_72, s41_73, s41_77, s41_77n, s41_78, s41_81, s41_84, s41_84n, s41_85, s41_87, s41_90, s41_90n, s41_92, s41_92n, s41_94, s41_94n, s41_97, s41_97n, s41_99, s41_100, s41_103, s41_106, s41_106n, s41_108, s41_109, s41_112, s41_115, s41_116, s41_116n, s41_118, s41_118n, s41_119, s41_122, s41_125, s41_128, s41_129, s41_132, s41_135, ltI, geL, leL, not_true_eq_false, not_false_eq_true, if_true, if_false, and_self, and_true, true_and, and_false, false_and, or_self, or_true, true_or, or_false, false_or, bo_T, bo_F, bo_e0, nI10, nI00, nI11, nI01, bo_e1, nem, eqL, af_v, af_0, rf_s, rf_n, nn, ite_self, r_size A, B'.1, leN, c1, r_find_1 A B'.1 O5 hb0, i_isA A0, q1, ef, hk1, hany, hk2, addN, sm_cl]
theorem c_reckon (hR : 37 ≤ R) (A : RA R) (B : RB R I β) (O : BOk β) (ht : ∀ p, p < 10 → I 36 p = nI (t p) ∧ t p < 6) (hr : ∀ k, k < 36 → I 8 k = nI (r k) ∧ r k ≤ 99) (h3 : ∀ a, a < 6 → r (7 * a) = 0) : ∃ (J1 : sm_Im) (W : Mx), (∀ c, c ≠ 10 → J1 c = I c) ∧ PW W 100000 r t β (CF β x) ∧ RW (J1 10) (fw W 6) ∧ sm_ex (d + 5) 41 [.ref 7, .ref R, .ref 36, .int x] 81 I L (pX sw) = some (none, 81, J1, L, pX sw) := by
  obtain ⟨J0, a1, a2, a3⟩ := c_clear (d := d + 1) (L := L) (sw := sw) (I := I) WA9
  obtain ⟨J2, l5, l6, b1, b2, b3⟩ := c_rk_out (d := d + 2) (L := L) (sw := sw) (I := I) hr h3 6 0 rfl J0 (some (.ref R)) (some (.ref 36)) x none none a1 (fun i j hi hj => by rw [if_neg (by omega)]; exact a2 i j hi hj)
  obtain ⟨J1, W, c1, c2, c3, c4⟩ := c_rk_b (d := d) (L := L) (sw := sw) (x := x) hR A B O ht (β 0 0) 0 (Nat.zero_add _) J2 l5 l6 b1 (LW_mono (LW_0 (fun k hk => (hr k hk).2) (by decide) b2) (fun p q s hp hq h => by
    unfold CA
    constructor
    · exact fun h => h.elim
    · rintro (⟨h1, h2⟩ | ⟨h1, h2⟩) <;> omega))
  refine ⟨J1, W, c1, c2, c3, ?_⟩
  rw [← c4, ← b3, e41]
  simp (discharger := (first | omega | decide | assumption | exact rg_lt | exact rg_ly | (simp only [ly7, p7_0, p7_1, p7_2, p7_3, ly9, p9_0]; omega))) only [s41_0, s41_1, s41_4, s41_7, s41_8, s41_12, s41_14, s41_17, s41_18, s41_22, s41_24, s41_27, s41_28, s41_31, s41_33, s41_35, s41_36, s41_38, s41_39, s41_39t0, s41_39t1, s41_40, s41_42, s41_44, s41_47, s41_48, s41_51, s41_53, s41_55, s41_57, s41_60, s41_63, s41_66, s41_69, s41_72, s41_73, s41_77, s41_77n, s41_78, s41_81, s41_84, s41_84n, s41_85, s41_87, s41_90, s41_90n, s41_92, s41_92n, s41_94, s41_94n, s41_97, s41_97n, s41_99, s41_100, s41_103, s41_106, s41_106n, s41_108, s41_109, s41_112, s41_115, s41_116, s41_116n, s41_118, s41_118n, s41_119, s41_122, s41_125, s41_128, s41_129, s41_132, s41_135, ltI, geL, leL, not_true_eq_false, not_false_eq_true, if_true, if_false, and_self, and_true, true_and, and_false, false_and, or_self, or_true, true_or, or_false, false_or, bo_T, bo_F, bo_e0, nI10, nI00, nI11, nI01, bo_e1, nem, eqL, af_v, af_0, rf_s, rf_n, nn, ite_self, ly7, p7_0, p7_1, p7_2, p7_3, ly9, p9_0, a3, sm_cl]
end NW
