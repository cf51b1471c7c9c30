section MN
variable {d N : Nat} {I J : sm_Im} {L : sm_Lm} {P : sm_Pm} {sw : Bool} {x y z u v : Int32} {a b m n q i j p k c s w o R : Nat} {f : Nat → Int32} {D : Mx} {β : Nat → Nat → Nat} {r t : Nat → Nat} {C C' : Nat → Nat → Prop}
theorem RMB_cong (h : ∀ b, b = 63 ∨ b = 68 ∨ b = 69 → J b = I b) (R : RMB I β) : RMB J β := by
  unfold RMB at R ⊢
  rw [h 63 (Or.inl rfl), h 68 (Or.inr (Or.inl rfl)), h 69 (Or.inr (Or.inr rfl))]
  exact R
def CP (β : Nat → Nat → Nat) (x : Int32) (p p' q : Nat) : Prop := p' < p ∧ CF β x p' q
def CK (β : Nat → Nat → Nat) (x : Int32) (p k p' q : Nat) : Prop := (p' < p ∧ CF β x p' q) ∨ (p' = p ∧ β 5 q < k)
theorem m_lt_1 (R : RMB I β) (O : BOk β) (hb : b < β 0 0) : ∀ (g k : Nat), k + g = β 3 b → ∀ (l1 l7 : Option Value), sm_at (sm_ex d) none 178 45 [some (.ref 63), l1, some (.int x), some (.int (nI b)), some (.int (nI (β 3 b))), some (.int (bo (anyN (fun j => bitI x (β (6 + b) j)) k = false))), some (.int (nI k)), l7] [] 81 I L (pX sw) = sm_at (sm_ex d) none 178 94 [some (.ref 63), l1, some (.int x), some (.int (nI b)), some (.int (nI (β 3 b))), some (.int (bo (anyN (fun j => bitI x (β (6 + b) j)) (β 3 b) = false))), some (.int (nI 0)), l7] [] 81 I L (pX sw) := by
  have O5 := O.1
  obtain ⟨o1, o2, o3, o4, o5⟩ := O.2.1 b hb
  obtain ⟨q1, q2, q3, q4, q5⟩ := R.2.1 b hb
  intro g
  induction g with
  | zero =>
    intro k hk l1 l7
    obtain rfl : k = β 3 b := by omega
    rw [s178_45]
    simp only [s178_0, s178_1, s178_4, s178_5, s178_6, s178_7, s178_8, s178_9, s178_12, s178_13, s178_16, s178_18, s178_19, s178_20, s178_21, s178_22, s178_25, s178_26, s178_27, s178_30, s178_32, s178_33, s178_34, s178_35, s178_36, s178_37, s178_39, s178_40, s178_42, s178_43, s178_47, s178_49, s178_52, s178_54, s178_57, s178_58, s178_59, s178_62, s178_64, s178_65, s178_66, s178_67, s178_68, s178_70, s178_71, s178_72, s178_73, s178_74, s178_75, s178_78, s178_79, s178_82, s178_83, s178_85, s178_88, s178_91, s178_92, s178_96, s178_98, s178_101, s178_103, s178_106, s178_107, s178_110, s178_112, s178_113, s178_114, s178_115, s178_116, s178_118, s178_119, s178_120, s178_122, s178_124, s178_125, s178_128, s178_129, s178_130, s178_133, s178_134, s178_135, s178_136, s178_139, s178_141, s178_142, s178_143, s178_144, s178_145, s178_147, s178_150, s178_151, s178_154, s178_157, s178_160, ltI, geL, leL, not_true_eq_false, not_false_eq_true, if_true, if_false, and_self, and_true, true_and, and_false, false_and, or_self, or_true, true_or, or_false, false_or, bo_T, bo_F, bo_e0, nI10, nI00, nI11, nI01, bo_e1, nem, eqL, af_v, af_0, rf_s, rf_n, nn, ite_self, Int32.le_refl, sm_cl]
  | succ g ih =>
    intro k hk l1 l7
    have c1 : ¬ β 3 b ≤ k := by omega
    have := ih (k + 1) (by omega) l1 l7
    rw [anyN_s] at this
    rw [← this, s178_45]
    have mk := q4 k (by omega)
    cases h1 : anyN (fun j => bitI x (β (6 + b) j)) k with
    | true =>
      simp (discharger := (first | omega | decide | assumption | exact rg_lt | exact rg_ly | (simp only [ly63, p63_0, p63_1, p63_2, p63_7, p63_10, p63_11, p63_13, p63_14, p63_16, p63_18, p63_22, p63_23, p63_24, p63_30, p63_31, p63_32, p63_33, ly68, al68]; omega))) only [s178_0, s178_1, s178_4, s178_5, s178_6, s178_7, s178_8, s178_9, s178_12, s178_13, s178_16, s178_18, s178_19, s178_20, s178_21, s178_22, s178_25, s178_26, s178_27, s178_30, s178_32, s178_33, s178_34, s178_35, s178_36, s178_37, s178_39, s178_40, s178_42, s178_43, s178_47, s178_49, s178_52, s178_54, s178_57, s178_58, s178_59, s178_62, s178_64, s178_65, s178_66, s178_67, s178_68, s178_70, s178_71, s178_72, s178_73, s178_74, s178_75, s178_78, s178_79, s178_82, s178_83, s178_85, s178_88, s178_91, s178_92, s178_96, s178_98, s178_101, s178_103, s178_106, s178_107, s178_110, s178_112, s178_113, s178_114, s178_115, s178_116, s178_118, s178_119, s178_120, s178_122, s178_124, s178_125, s178_128, s178_129, s178_130, s178_133, s178_134, s178_135, s178_136, s178_139, s178_141, s178_142, s178_143, s178_144, s178_145, s178_147, s178_150, s178_151, s178_154, s178_157, s178_160, ltI, geL, leL, not_true_eq_false, not_false_eq_true, if_true, if_false, and_self, and_true, true_and, and_false, false_and, or_self, or_true, true_or, or_false, false_or, bo_T, bo_F, bo_e0, nI10, nI00, nI11, nI01, bo_e1, nem, eqL, af_v, af_0, rf_s, rf_n, nn, ite_self, ly63, p63_0, p63_1, p63_2, p63_7, p63_10, p63_11, p63_13, p63_14, p63_16, p63_18, p63_22, p63_23, p63_24, p63_30, p63_31, p63_32, p63_33, ly68, al68, leN, c1, Bool.true_or, Bool.true_eq_false, addN, sm_cl]
    | false =>
      by_cases h2 : (x >>> (nI (β (6 + b) k) &&& 31)) &&& nI 1 = 0
      · have e : bitI x (β (6 + b) k) = false := by unfold bitI; simp [h2]
        simp (discharger := (first | omega | decide | assumption | exact rg_lt | exact rg_ly | (simp only [ly63, p63_0, p63_1, p63_2, p63_7, p63_10, p63_11, p63_13, p63_14, p63_16, p63_18, p63_22, p63_23, p63_24, p63_30, p63_31, p63_32, p63_33, ly68, al68]; omega))) only [s178_0, s178_1, s178_4, s178_5, s178_6, s178_7, s178_8, s178_9, s178_12, s178_13, s178_16, s178_18, s178_19, s178_20, s178_21, s178_22, s178_25, s178_26, s178_27, s178_30, s178_32, s178_33, s178_34, s178_35, s178_36, s178_37, s178_39, s178_40, s178_42, s178_43, s178_47, s178_49, s178_52, s178_54, s178_57, s178_58, s178_59, s178_62, s178_64, s178_65, s178_66, s178_67, s178_68, s178_70, s178_71, s178_72, s178_73, s178_74, s178_75, s178_78, s178_79, s178_82, s178_83, s178_85, s178_88, s178_91, s178_92, s178_96, s178_98, s178_101, s178_103, s178_106, s178_107, s178_110, s178_112, s178_113, s178_114, s178_115, s178_116, s178_118, s178_119, s178_120, s178_122, s178_124, s178_125, s178_128, s178_129, s178_130, s178_133, s178_134, s178_135, s178_136, s178_139, s178_141, s178_142, s178_143, s178_144, s178_145, s178_147, s178_150, s178_151, s178_154, s178_157, s178_160, ltI, geL, leL, not_true_eq_false, not_false_eq_true, if_true, if_false, and_self, and_true, true_and, and_false, false_and, or_self, or_true, true_or, or_false, false_or, bo_T, bo_F, bo_e0, nI10, nI00, nI11, nI01, bo_e1, nem, eqL, af_v, af_0, rf_s, rf_n, nn, ite_self, ly63, p63_0, p63_1, p63_2, p63_7, p63_10, p63_11, p63_13, p63_14, p63_16, p63_18, p63_22, p63_23, p63_24, p63_30, p63_31, p63_32, p63_33, ly68, al68, leN, c1, Bool.false_or, e, mulN, addN, mk, h2, sm_cl]
      · have e : bitI x (β (6 + b) k) = true := by unfold bitI; simp [h2]
        simp (discharger := (first | omega | decide | assumption | exact rg_lt | exact rg_ly | (simp only [ly63, p63_0, p63_1, p63_2, p63_7, p63_10, p63_11, p63_13, p63_14, p63_16, p63_18, p63_22, p63_23, p63_24, p63_30, p63_31, p63_32, p63_33, ly68, al68]; omega))) only [s178_0, s178_1, s178_4, s178_5, s178_6, s178_7, s178_8, s178_9, s178_12, s178_13, s178_16, s178_18, s178_19, s178_20, s178_21, s178_22, s178_25, s178_26, s178_27, s178_30, s178_32, s178_33, s178_34, s178_35, s178_36, s178_37, s178_39, s178_40, s178_42, s178_43, s178_47, s178_49, s178_52, s178_54, s178_57, s178_58, s178_59, s178_62, s178_64, s178_65, s178_66, s178_67, s178_68, s178_70, s178_71, s178_72, s178_73, s178_74, s178_75, s178_78, s178_79, s178_82, s178_83, s178_85, s178_88, s178_91, s178_92, s178_96, s178_98, s178_101, s178_103, s178_106, s178_107, s178_110, s178_112, s178_113, s178_114, s178_115, s178_116, s178_118, s178_119, s178_120, s178_122, s178_124, s178_125, s178_128, s178_129, s178_130, s178_133, s178_134, s178_135, s178_136, s178_139, s178_141, s178_142, s178_143, s178_144, s178_145, s178_147, s178_150, s178_151, s178_154, s178_157, s178_160, ltI, geL, leL, not_true_eq_false, not_false_eq_true, if_true, if_false, and_self, and_true, true_and, and_false, false_and, or_self, or_true, true_or, or_false, false_or, bo_T, bo_F, bo_e0, nI10, nI00, nI11, nI01, bo_e1, nem, eqL, af_v, af_0, rf_s, rf_n, nn, ite_self, ly63, p63_0, p63_1, p63_2, p63_7, p63_10, p63_11, p63_13, p63_14, p63_16, p63_18, p63_22, p63_23, p63_24, p63_30, p63_31, p63_32, p63_33, ly68, al68, leN, c1, Bool.false_or, e, mulN, addN, mk, h2, sm_cl, Bool.true_eq_false]
theorem m_lt_2 (R : RMB I β) (O : BOk β) (ht : ∀ p, p < 10 → I 65 p = nI (t p) ∧ t p < 6) (hp : p < 10) (hb : b < β 0 0) (hpb : β 4 p = b) (hk : okb β x b) : ∀ (g k : Nat), k + g = β 3 b → ∀ (J : sm_Im) (l7 : Option Value), (∀ c, c ≠ 71 → J c = I c) → LW (J 71) 1000000 r t β (CK β x p k) → ∃ J1 : sm_Im, (∀ c, c ≠ 71 → J1 c = I c) ∧ LW (J1 71) 1000000 r t β (CP β x (p + 1)) ∧ sm_at (sm_ex (d + 2)) none 178 94 [some (.ref 63), some (.int (nI p)), some (.int x), some (.int (nI b)), some (.int (nI (β 3 b))), some (.int (nI 1)), some (.int (nI k)), l7] [] 81 J L (pX sw) = some (none, 81, J1, L, pX sw) := by
  have O5 := O.1
  obtain ⟨o1, o2, o3, o4, o5⟩ := O.2.1 b hb
  intro g
  induction g with
  | zero =>
    intro k hk2 J l7 hJ hW
    obtain rfl : k = β 3 b := by omega
    refine ⟨J, hJ, LW_mono hW (fun p' q s hp' hq h => ?_), ?_⟩
    · obtain ⟨e1, e2, e3, e4⟩ := dl_e h
      have pq := (O.2.2 q hq (by omega)).1
      unfold CK CP
      constructor
      · rintro (⟨h1, h2⟩ | ⟨h1, h2⟩)
        · exact ⟨by omega, h2⟩
        · subst h1; exact ⟨by omega, e1, by rw [hpb]; exact hk⟩
      · rintro ⟨h1, h2⟩
        by_cases h3 : p' = p
        · subst h3
          rw [e2, hpb] at pq
          exact Or.inr ⟨rfl, pq⟩
        · exact Or.inl ⟨by omega, h2⟩
    · rw [s178_94]
      simp only [s178_0, s178_1, s178_4, s178_5, s178_6, s178_7, s178_8, s178_9, s178_12, s178_13, s178_16, s178_18, s178_19, s178_20, s178_21, s178_22, s178_25, s178_26, s178_27, s178_30, s178_32, s178_33, s178_34, s178_35, s178_36, s178_37, s178_39, s178_40, s178_42, s178_43, s178_47, s178_49, s178_52, s178_54, s178_57, s178_58, s178_59, s178_62, s178_64, s178_65, s178_66, s178_67, s178_68, s178_70, s178_71, s178_72, s178_73, s178_74, s178_75, s178_78, s178_79, s178_82, s178_83, s178_85, s178_88, s178_91, s178_92, s178_96, s178_98, s178_101, s178_103, s178_106, s178_107, s178_110, s178_112, s178_113, s178_114, s178_115, s178_116, s178_118, s178_119, s178_120, s178_122, s178_124, s178_125, s178_128, s178_129, s178_130, s178_133, s178_134, s178_135, s178_136, s178_139, s178_141, s178_142, s178_143, s178_144, s178_145, s178_147, s178_150, s178_151, s178_154, s178_157, s178_160, ltI, geL, leL, not_true_eq_false, not_false_eq_true, if_true, if_false, and_self, and_true, true_and, and_false, false_and, or_self, or_true, true_or, or_false, false_or, bo_T, bo_F, bo_e0, nI10, nI00, nI11, nI01, bo_e1, nem, eqL, af_v, af_0, rf_s, rf_n, nn, ite_self, Int32.le_refl, sm_cl]
  | succ g ih =>
    intro k hk2 J l7 hJ hW
    have R' : RMB J β := RMB_cong (fun c hc => hJ c (by omega)) R
    obtain ⟨q1, q2, q3, q4, q5⟩ := R'.2.1 b hb
    have c1 : ¬ β 3 b ≤ k := by omega
    have ok := o5 k (by omega)
    have ok1 := ok.1
    have mk := q4 k (by omega)
    by_cases e : β (6 + b) k = p
    · obtain ⟨J1, h1, h2, h3⟩ := ih (k + 1) (by omega) J (some (.int (nI (β (6 + b) k)))) hJ (LW_mono hW (fun p' q s hp' hq h => by
        obtain ⟨e1, e2, e3, e4⟩ := dl_e h
        have pq := (O.2.2 q hq (by omega)).2
        unfold CK
        constructor
        · rintro (h1 | ⟨h1, h2⟩)
          · exact Or.inl h1
          · exact Or.inr ⟨h1, by omega⟩
        · rintro (h1 | ⟨h1, h2⟩)
          · exact Or.inl h1
          · by_cases h4 : β 5 q = k
            · exfalso
              subst h1
              rw [e2, hpb, h4, e] at pq
              exact e3 pq
            · exact Or.inr ⟨h1, by omega⟩))
      refine ⟨J1, h1, h2, ?_⟩
      have e' := eq_true e
      rw [← h3, s178_94]
      simp (discharger := (first | omega | decide | assumption | exact rg_lt | exact rg_ly | (simp only [ly63, p63_0, p63_1, p63_2, p63_7, p63_10, p63_11, p63_13, p63_14, p63_16, p63_18, p63_22, p63_23, p63_24, p63_30, p63_31, p63_32, p63_33, ly68, al68]; omega))) only [s178_0, s178_1, s178_4, s178_5, s178_6, s178_7, s178_8, s178_9, s178_12, s178_13, s178_16, s178_18, s178_19, s178_20, s178_21, s178_22, s178_25, s178_26, s178_27, s178_30, s178_32, s178_33, s178_34, s178_35, s178_36, s178_37, s178_39, s178_40, s178_42, s178_43, s178_47, s178_49, s178_52, s178_54, s178_57, s178_58, s178_59, s178_62, s178_64, s178_65, s178_66, s178_67, s178_68, s178_70, s178_71, s178_72, s178_73, s178_74, s178_75, s178_78, s178_79, s178_82, s178_83, s178_85, s178_88, s178_91, s178_92, s178_96, s178_98, s178_101, s178_103, s178_106, s178_107, s178_110, s178_112, s178_113, s178_114, s178_115, s178_116, s178_118, s178_119, s178_120, s178_122, s178_124, s178_125, s178_128, s178_129, s178_130, s178_133, s178_134, s178_135, s178_136, s178_139, s178_141, s178_142, s178_143, s178_144, s178_145, s178_147, s178_150, s178_151, s178_154, s178_157, s178_160, ltI, geL, leL, not_true_eq_false, not_false_eq_true, if_true, if_false, and_self, and_true, true_and, and_false, false_and, or_self, or_true, true_or, or_false, false_or, bo_T, bo_F, bo_e0, nI10, nI00, nI11, nI01, bo_e1, nem, eqL, af_v, af_0, rf_s, rf_n, nn, ite_self, ly63, p63_0, p63_1, p63_2, p63_7, p63_10, p63_11, p63_13, p63_14, p63_16, p63_18, p63_22, p63_23, p63_24, p63_30, p63_31, p63_32, p63_33, ly68, al68, leN, c1, mulN, addN, mk, eqN, e', sm_cl]
    · have hdl : dl β p (β (6 + b) k) = some (dly (β 1 b) (β 2 b) (β 3 b) (β 5 p) k) := by
        unfold dl
        rw [ok.2.1, ok.2.2, hpb, if_pos ⟨hb, rfl, fun q => e q.symm⟩]
      obtain ⟨m, hm1, hm2, hm3⟩ := LW_step hW hp ok1 (fun p hp => (ht p hp).2) hdl
      obtain ⟨J1, h1, h2, h3⟩ := ih (k + 1) (by omega) _ (some (.int (nI (β (6 + b) k)))) (fun c hc => by rw [up_row hc]; exact hJ c hc) (LW_mono hm3 (fun p' q s hp' hq h => by
        obtain ⟨e1, e2, e3, e4⟩ := dl_e h
        have pq := (O.2.2 q hq (by omega)).2
        unfold CK
        constructor
        · rintro ((h1 | ⟨h1, h2⟩) | ⟨h1, h2⟩)
          · exact Or.inl h1
          · exact Or.inr ⟨h1, by omega⟩
          · exact Or.inr ⟨h1, by rw [h2, ok.2.2]; omega⟩
        · rintro (h1 | ⟨h1, h2⟩)
          · exact Or.inl (Or.inl h1)
          · by_cases h4 : β 5 q = k
            · right
              subst h1
              rw [e2, hpb, h4] at pq
              exact ⟨rfl, pq.symm⟩
            · exact Or.inl (Or.inr ⟨h1, by omega⟩)))
      refine ⟨J1, h1, h2, ?_⟩
      have t1 : J 65 p = nI (t p) := by rw [hJ 65 (by decide)]; exact (ht p hp).1
      have t2 : J 65 (β (6 + b) k) = nI (t (β (6 + b) k)) := by rw [hJ 65 (by decide)]; exact (ht _ ok1).1
      have hdle := dl_le O hp ok1 hdl
      have hl : sm_ex (d + 2) 167 [.ref 63, .int (nI p), .int (nI (β (6 + b) k))] 81 J L (pX sw) = _ := m_lateBy R' O hp ok1
      rw [hdl] at hl
      have hs : sm_ex (d + 2) 177 [.ref 63, .int (nI (t p)), .int (nI (t (β (6 + b) k))), .int (nI (1 + dly (β 1 b) (β 2 b) (β 3 b) (β 5 p) k))] 81 J L (pX sw) = _ := m_mayCome (d := d + 1) (ht p hp).2 (ht _ ok1).2 hm1 (by omega) (by omega)
      rw [← h3, s178_94]
      simp (discharger := (first | omega | decide | assumption | exact rg_lt | exact rg_ly | (simp only [ly63, p63_0, p63_1, p63_2, p63_7, p63_10, p63_11, p63_13, p63_14, p63_16, p63_18, p63_22, p63_23, p63_24, p63_30, p63_31, p63_32, p63_33, ly65, al65, ly68, al68]; omega))) only [s178_0, s178_1, s178_4, s178_5, s178_6, s178_7, s178_8, s178_9, s178_12, s178_13, s178_16, s178_18, s178_19, s178_20, s178_21, s178_22, s178_25, s178_26, s178_27, s178_30, s178_32, s178_33, s178_34, s178_35, s178_36, s178_37, s178_39, s178_40, s178_42, s178_43, s178_47, s178_49, s178_52, s178_54, s178_57, s178_58, s178_59, s178_62, s178_64, s178_65, s178_66, s178_67, s178_68, s178_70, s178_71, s178_72, s178_73, s178_74, s178_75, s178_78, s178_79, s178_82, s178_83, s178_85, s178_88, s178_91, s178_92, s178_96, s178_98, s178_101, s178_103, s178_106, s178_107, s178_110, s178_112, s178_113, s178_114, s178_115, s178_116, s178_118, s178_119, s178_120, s178_122, s178_124, s178_125, s178_128, s178_129, s178_130, s178_133, s178_134, s178_135, s178_136, s178_139, s178_141, s178_142, s178_143, s178_144, s178_145, s178_147, s178_150, s178_151, s178_154, s178_157, s178_160, ltI, geL, leL, not_true_eq_false, not_false_eq_true, if_true, if_false, and_self, and_true, true_and, and_false, false_and, or_self, or_true, true_or, or_false, false_or, bo_T, bo_F, bo_e0, nI10, nI00, nI11, nI01, bo_e1, nem, eqL, af_v, af_0, rf_s, rf_n, nn, ite_self, ly63, p63_0, p63_1, p63_2, p63_7, p63_10, p63_11, p63_13, p63_14, p63_16, p63_18, p63_22, p63_23, p63_24, p63_30, p63_31, p63_32, p63_33, ly65, al65, ly68, al68, leN, c1, mulN, addN, mk, eqN, e, t1, t2, hl, oI, hs, sm_cl]
theorem m_layTouch (R : RMB I β) (O : BOk β) (ht : ∀ p, p < 10 → I 65 p = nI (t p) ∧ t p < 6) (hp : p < 10) (hW : LW (I 71) 1000000 r t β (CP β x p)) : ∃ J1 : sm_Im, (∀ c, c ≠ 71 → J1 c = I c) ∧ LW (J1 71) 1000000 r t β (CP β x (p + 1)) ∧ sm_ex (d + 3) 178 [.ref 63, .int (nI p), .int x] 81 I L (pX sw) = some (none, 81, J1, L, pX sw) := by
  have O5 := O.1
  have r3 := R.2.2 p hp
  have same : ¬ CF β x p 0 → LW (I 71) 1000000 r t β (CP β x (p + 1)) := fun hn => LW_mono hW (fun p' q s hp' hq h => by
    unfold CP
    constructor
    · rintro ⟨h1, h2⟩; exact ⟨by omega, h2⟩
    · rintro ⟨h1, h2⟩
      by_cases h3 : p' = p
      · subst h3; exact absurd h2 hn
      · exact ⟨by omega, h2⟩)
  by_cases hb : β 4 p < β 0 0
  · obtain ⟨o1, o2, o3, o4, o5⟩ := O.2.1 _ hb
    obtain ⟨q1, q2, q3, q4, q5⟩ := R.2.1 _ hb
    have n1 : (nI (β 4 p) = -1) = False := neN1 (by omega)
    rw [if_pos hb] at r3
    by_cases hk1 : β 1 (β 4 p) = 2
    · refine ⟨I, fun c _ => rfl, same (fun h => h.2.1 hk1), ?_⟩
      rw [e178]
      simp (discharger := (first | omega | decide | assumption | exact rg_lt | exact rg_ly | (simp only [ly63, p63_0, p63_1, p63_2, p63_7, p63_10, p63_11, p63_13, p63_14, p63_16, p63_18, p63_22, p63_23, p63_24, p63_30, p63_31, p63_32, p63_33, ly68, al68, ly69, al69]; omega))) only [s178_0, s178_1, s178_4, s178_5, s178_6, s178_7, s178_8, s178_9, s178_12, s178_13, s178_16, s178_18, s178_19, s178_20, s178_21, s178_22, s178_25, s178_26, s178_27, s178_30, s178_32, s178_33, s178_34, s178_35, s178_36, s178_37, s178_39, s178_40, s178_42, s178_43, s178_47, s178_49, s178_52, s178_54, s178_57, s178_58, s178_59, s178_62, s178_64, s178_65, s178_66, s178_67, s178_68, s178_70, s178_71, s178_72, s178_73, s178_74, s178_75, s178_78, s178_79, s178_82, s178_83, s178_85, s178_88, s178_91, s178_92, s178_96, s178_98, s178_101, s178_103, s178_106, s178_107, s178_110, s178_112, s178_113, s178_114, s178_115, s178_116, s178_118, s178_119, s178_120, s178_122, s178_124, s178_125, s178_128, s178_129, s178_130, s178_133, s178_134, s178_135, s178_136, s178_139, s178_141, s178_142, s178_143, s178_144, s178_145, s178_147, s178_150, s178_151, s178_154, s178_157, s178_160, ltI, geL, leL, not_true_eq_false, not_false_eq_true, if_true, if_false, and_self, and_true, true_and, and_false, false_and, or_self, or_true, true_or, or_false, false_or, bo_T, bo_F, bo_e0, nI10, nI00, nI11, nI01, bo_e1, nem, eqL, af_v, af_0, rf_s, rf_n, nn, ite_self, ly63, p63_0, p63_1, p63_2, p63_7, p63_10, p63_11, p63_13, p63_14, p63_16, p63_18, p63_22, p63_23, p63_24, p63_30, p63_31, p63_32, p63_33, ly68, al68, ly69, al69, r3, n1, mulN, q1, hk1, sm_cl]
    · cases hk2 : anyN (fun j => bitI x (β (6 + β 4 p) j)) (β 3 (β 4 p)) with
      | false =>
        obtain ⟨J1, h1, h2, h3⟩ := m_lt_2 (d := d) (L := L) (sw := sw) R O ht hp hb rfl ⟨hk1, hk2⟩ (β 3 (β 4 p)) 0 (Nat.zero_add _) I none (fun c _ => rfl) (LW_mono hW (fun p' q s hp' hq h => by
          unfold CP CK
          constructor
          · exact fun h => Or.inl h
          · rintro (h | ⟨h1, h2⟩)
            · exact h
            · omega))
        refine ⟨J1, h1, h2, ?_⟩
        have l1 := m_lt_1 (d := d + 2) (x := x) (L := L) (sw := sw) R O hb (β 3 (β 4 p)) 0 (Nat.zero_add _) (some (.int (nI p))) none
        rw [hk2] at l1
        simp only [bo_T] at l1
        rw [← h3, ← l1, e178]
        have z : bo (anyN (fun j => bitI x (β (6 + β 4 p) j)) 0 = false) = nI 1 := bo_t rfl
        rw [z]
        simp (discharger := (first | omega | decide | assumption | exact rg_lt | exact rg_ly | (simp only [ly63, p63_0, p63_1, p63_2, p63_7, p63_10, p63_11, p63_13, p63_14, p63_16, p63_18, p63_22, p63_23, p63_24, p63_30, p63_31, p63_32, p63_33, ly68, al68, ly69, al69]; omega))) only [s178_0, s178_1, s178_4, s178_5, s178_6, s178_7, s178_8, s178_9, s178_12, s178_13, s178_16, s178_18, s178_19, s178_20, s178_21, s178_22, s178_25, s178_26, s178_27, s178_30, s178_32, s178_33, s178_34, s178_35, s178_36, s178_37, s178_39, s178_40, s178_42, s178_43, s178_47, s178_49, s178_52, s178_54, s178_57, s178_58, s178_59, s178_62, s178_64, s178_65, s178_66, s178_67, s178_68, s178_70, s178_71, s178_72, s178_73, s178_74, s178_75, s178_78, s178_79, s178_82, s178_83, s178_85, s178_88, s178_91, s178_92, s178_96, s178_98, s178_101, s178_103, s178_106, s178_107, s178_110, s178_112, s178_113, s178_114, s178_115, s178_116, s178_118, s178_119, s178_120, s178_122, s178_124, s178_125, s178_128, s178_129, s178_130, s178_133, s178_134, s178_135, s178_136, s178_139, s178_141, s178_142, s178_143, s178_144, s178_145, s178_147, s178_150, s178_151, s178_154, s178_157, s178_160, ltI, geL, leL, not_true_eq_false, not_false_eq_true, if_true, if_false, and_self, and_true, true_and, and_false, false_and, or_self, or_true, true_or, or_false, false_or, bo_T, bo_F, bo_e0, nI10, nI00, nI11, nI01, bo_e1, nem, eqL, af_v, af_0, rf_s, rf_n, nn, ite_self, ly63, p63_0, p63_1, p63_2, p63_7, p63_10, p63_11, p63_13, p63_14, p63_16, p63_18, p63_22, p63_23, p63_24, p63_30, p63_31, p63_32, p63_33, ly68, al68, ly69, al69, r3, n1, mulN, addN, q1, q2, eqN, hk1, sm_cl]
      | true =>
        refine ⟨I, fun c _ => rfl, same (fun h => by have := h.2.2; rw [hk2] at this; cases this), ?_⟩
        have l1 := m_lt_1 (d := d + 2) (x := x) (L := L) (sw := sw) R O hb (β 3 (β 4 p)) 0 (Nat.zero_add _) (some (.int (nI p))) none
        rw [hk2] at l1
        have z : bo (anyN (fun j => bitI x (β (6 + β 4 p) j)) 0 = false) = nI 1 := bo_t rfl
        rw [z] at l1
        have c1 : ¬ β 3 (β 4 p) ≤ 0 := by omega
        have fin : sm_at (sm_ex (d + 2)) none 178 94 [some (.ref 63), some (.int (nI p)), some (.int x), some (.int (nI (β 4 p))), some (.int (nI (β 3 (β 4 p)))), some (.int (bo (true = false))), some (.int (nI 0)), none] [] 81 I L (pX sw) = some (none, 81, I, L, pX sw) := by
          rw [s178_94]
          simp (discharger := (first | omega | decide | assumption | exact rg_lt | exact rg_ly | (simp only [ly63, p63_0, p63_1, p63_2, p63_7, p63_10, p63_11, p63_13, p63_14, p63_16, p63_18, p63_22, p63_23, p63_24, p63_30, p63_31, p63_32, p63_33]; omega))) only [s178_0, s178_1, s178_4, s178_5, s178_6, s178_7, s178_8, s178_9, s178_12, s178_13, s178_16, s178_18, s178_19, s178_20, s178_21, s178_22, s178_25, s178_26, s178_27, s178_30, s178_32, s178_33, s178_34, s178_35, s178_36, s178_37, s178_39, s178_40, s178_42, s178_43, s178_47, s178_49, s178_52, s178_54, s178_57, s178_58, s178_59, s178_62, s178_64, s178_65, s178_66, s178_67, s178_68, s178_70, s178_71, s178_72, s178_73, s178_74, s178_75, s178_78, s178_79, s178_82, s178_83, s178_85, s178_88, s178_91, s178_92, s178_96, s178_98, s178_101, s178_103, s178_106, s178_107, s178_110, s178_112, s178_113, s178_114, s178_115, s178_116, s178_118, s178_119, s178_120, s178_122, s178_124, s178_125, s178_128, s178_129, s178_130, s178_133, s178_134, s178_135, s178_136, s178_139, s178_141, s178_142, s178_143, s178_144, s178_145, s178_147, s178_150, s178_151, s178_154, s178_157, s178_160, ltI, geL, leL, not_true_eq_false, not_false_eq_true, if_true, if_false, and_self, and_true, true_and, and_false, false_and, or_self, or_true, true_or, or_false, false_or, bo_T, bo_F, bo_e0, nI10, nI00, nI11, nI01, bo_e1, nem, eqL, af_v, af_0, rf_s, rf_n, nn, ite_self, leN, c1, Bool.true_eq_false]
        rw [← fin, ← l1, e178]
        simp (discharger := (first | omega | decide | assumption | exact rg_lt | exact rg_ly | (simp only [ly63, p63_0, p63_1, p63_2, p63_7, p63_10, p63_11, p63_13, p63_14, p63_16, p63_18, p63_22, p63_23, p63_24, p63_30, p63_31, p63_32, p63_33, ly68, al68, ly69, al69]; omega))) only [s178_0, s178_1, s178_4, s178_5, s178_6, s178_7, s178_8, s178_9, s178_12, s178_13, s178_16, s178_18, s178_19, s178_20, s178_21, s178_22, s178_25, s178_26, s178_27, s178_30, s178_32, s178_33, s178_34, s178_35, s178_36, s178_37, s178_39, s178_40, s178_42, s178_43, s178_47, s178_49, s178_52, s178_54, s178_57, s178_58, s178_59, s178_62, s178_64, s178_65, s178_66, s178_67, s178_68, s178_70, s178_71, s178_72, s178_73, s178_74, s178_75, s178_78, s178_79, s178_82, s178_83, s178_85, s178_88, s178_91, s178_92, s178_96, s178_98, s178_101, s178_103, s178_106, s178_107, s178_110, s178_112, s178_113, s178_114, s178_115, s178_116, s178_118, s178_119, s178_120, s178_122, s178_124, s178_125, s178_128, s178_129, s178_130, s178_133, s178_134, s178_135, s178_136, s178_139, s178_141, s178_142, s178_143, s178_144, s178_145, s178_147, s178_150, s178_151, s178_154, s178_157, s178_160, ltI, geL, leL, not_true_eq_false, not_false_eq_true, if_true, if_false, and_self, and_true, true_and, and_false, false_and, or_self, or_true, true_or, or_false, false_or, bo_T, bo_F, bo_e0, nI10, nI00, nI11, nI01, bo_e1, nem, eqL, af_v, af_0, rf_s, rf_n, nn, ite_self, ly63, p63_0, p63_1, p63_2, p63_7, p63_10, p63_11, p63_13, p63_14, p63_16, p63_18, p63_22, p63_23, p63_24, p63_30, p63_31, p63_32, p63_33, ly68, al68, ly69, al69, r3, n1, mulN, addN, q1, q2, eqN, hk1, sm_cl]
  · rw [if_neg hb] at r3
    refine ⟨I, fun c _ => rfl, same (fun h => hb h.1), ?_⟩
    rw [e178]
    simp (discharger := (first | omega | decide | assumption | exact rg_lt | exact rg_ly | (simp only [ly63, p63_0, p63_1, p63_2, p63_7, p63_10, p63_11, p63_13, p63_14, p63_16, p63_18, p63_22, p63_23, p63_24, p63_30, p63_31, p63_32, p63_33, ly68, al68, ly69, al69]; omega))) only [s178_0, s178_1, s178_4, s178_5, s178_6, s178_7, s178_8, s178_9, s178_12, s178_13, s178_16, s178_18, s178_19, s178_20, s178_21, s178_22, s178_25, s178_26, s178_27, s178_30, s178_32, s178_33, s178_34, s178_35, s178_36, s178_37, s178_39, s178_40, s178_42, s178_43, s178_47, s178_49, s178_52, s178_54, s178_57, s178_58, s178_59, s178_62, s178_64, s178_65, s178_66, s178_67, s178_68, s178_70, s178_71, s178_72, s178_73, s178_74, s178_75, s178_78, s178_79, s178_82, s178_83, s178_85, s178_88, s178_91, s178_92, s178_96, s178_98, s178_101, s178_103, s178_106, s178_107, s178_110, s178_112, s178_113, s178_114, s178_115, s178_116, s178_118, s178_119, s178_120, s178_122, s178_124, s178_125, s178_128, s178_129, s178_130, s178_133, s178_134, s178_135, s178_136, s178_139, s178_141, s178_142, s178_143, s178_144, s178_145, s178_147, s178_150, s178_151, s178_154, s178_157, s178_160, ltI, geL, leL, not_true_eq_false, not_false_eq_true, if_true, if_false, and_self, and_true, true_and, and_false, false_and, or_self, or_true, true_or, or_false, false_or, bo_T, bo_F, bo_e0, nI10, nI00, nI11, nI01, bo_e1, nem, eqL, af_v, af_0, rf_s, rf_n, nn, ite_self, ly63, p63_0, p63_1, p63_2, p63_7, p63_10, p63_11, p63_13, p63_14, p63_16, p63_18, p63_22, p63_23, p63_24, p63_30, p63_31, p63_32, p63_33, ly68, al68, ly69, al69, r3, sm_cl]
theorem m_lw_1 (hr : ∀ k, k < 36 → I 64 k = nI (r k) ∧ r k ≤ 99) : ∀ (g k : Nat), k + g = 36 → ∀ J : sm_Im, (∀ c, c ≠ 71 → J c = I c) → (∀ i, i < k → J 71 i = nI (bs 1000000 r (i / 6) (i % 6))) → ∃ J1 : sm_Im, (∀ c, c ≠ 71 → J1 c = I c) ∧ (∀ i, i < 36 → J1 71 i = nI (bs 1000000 r (i / 6) (i % 6))) ∧ sm_at (sm_ex d) none 179 2 [some (.ref 63), some (.int x), some (.int (nI k))] [] 81 J L (pX sw) = sm_at (sm_ex d) none 179 57 [some (.ref 63), some (.int x), some (.int (nI 0))] [] 81 J1 L (pX sw) := by
  intro g
  induction g with
  | zero =>
    intro k hk J hJ hW
    obtain rfl : k = 36 := by omega
    refine ⟨J, hJ, hW, ?_⟩
    rw [s179_2]
    simp only [s179_0, s179_1, s179_3, s179_5, s179_8, s179_9, s179_12, s179_13, s179_14, s179_16, s179_17, s179_18, s179_20, s179_21, s179_24, s179_25, s179_28, s179_29, s179_32, s179_33, s179_34, s179_37, s179_38, s179_41, s179_42, s179_43, s179_46, s179_48, s179_49, s179_52, s179_55, s179_56, s179_58, s179_60, s179_63, s179_64, s179_65, s179_66, s179_69, s179_72, s179_75, ltI, geL, leL, not_true_eq_false, not_false_eq_true, if_true, if_false, and_self, and_true, true_and, and_false, false_and, or_self, or_true, true_or, or_false, false_or, bo_T, bo_F, bo_e0, nI10, nI00, nI11, nI01, bo_e1, nem, eqL, af_v, af_0, rf_s, rf_n, nn, ite_self, Int32.le_refl, sm_cl]
  | succ g ih =>
    intro k hk J hJ hW
    have c1 : ¬ 36 ≤ k := by omega
    have hr1 := hr k (by omega)
    have e8 : J 64 k = nI (r k) := by rw [hJ 64 (by decide)]; exact hr1.1
    obtain ⟨J1, h1, h2, h3⟩ := ih (k + 1) (by omega) (sm_up J 71 k (nI (bs 1000000 r (k / 6) (k % 6)))) (fun c hc => by rw [up_row hc]; exact hJ c hc) (fun i hi => by
      rw [up_at]
      by_cases e : i = k
      · rw [if_pos e, e]
      · rw [if_neg e]; exact hW i (by omega))
    refine ⟨J1, h1, h2, ?_⟩
    have z : ¬ nI 6 = 0 := by decide
    have e2 : nI k / nI 6 = nI (k / 6) := divN (by omega) (by decide) (by decide)
    have e1 : nI k - nI (k / 6) * nI 6 = nI (k % 6) := by rw [← e2]; exact remN (by omega) (by decide) (by decide)
    have e5 : 6 * (k / 6) + k % 6 = k := Nat.div_add_mod k 6
    rw [← h3, s179_2]
    unfold bs
    by_cases c : k / 6 = k % 6
    · have c' := eq_true c
      rw [if_pos c]
      simp (discharger := (first | omega | decide | assumption | exact rg_lt | exact rg_ly | (simp only [ly63, p63_0, p63_1, p63_2, p63_7, p63_10, p63_11, p63_13, p63_14, p63_16, p63_18, p63_22, p63_23, p63_24, p63_30, p63_31, p63_32, p63_33, ly71, al71]; omega))) only [s179_0, s179_1, s179_3, s179_5, s179_8, s179_9, s179_12, s179_13, s179_14, s179_16, s179_17, s179_18, s179_20, s179_21, s179_24, s179_25, s179_28, s179_29, s179_32, s179_33, s179_34, s179_37, s179_38, s179_41, s179_42, s179_43, s179_46, s179_48, s179_49, s179_52, s179_55, s179_56, s179_58, s179_60, s179_63, s179_64, s179_65, s179_66, s179_69, s179_72, s179_75, ltI, geL, leL, not_true_eq_false, not_false_eq_true, if_true, if_false, and_self, and_true, true_and, and_false, false_and, or_self, or_true, true_or, or_false, false_or, bo_T, bo_F, bo_e0, nI10, nI00, nI11, nI01, bo_e1, nem, eqL, af_v, af_0, rf_s, rf_n, nn, ite_self, ly63, p63_0, p63_1, p63_2, p63_7, p63_10, p63_11, p63_13, p63_14, p63_16, p63_18, p63_22, p63_23, p63_24, p63_30, p63_31, p63_32, p63_33, ly71, al71, leN, c1, e2, e1, eqN, c', z, addN, sm_cl]
    · rw [if_neg c, e5]
      by_cases c0 : r k = 0
      · rw [if_pos c0]
        have c0' := eq_true c0
        simp (discharger := (first | omega | decide | assumption | exact rg_lt | exact rg_ly | (simp only [ly63, p63_0, p63_1, p63_2, p63_7, p63_10, p63_11, p63_13, p63_14, p63_16, p63_18, p63_22, p63_23, p63_24, p63_30, p63_31, p63_32, p63_33, ly64, al64, ly71, al71]; omega))) only [s179_0, s179_1, s179_3, s179_5, s179_8, s179_9, s179_12, s179_13, s179_14, s179_16, s179_17, s179_18, s179_20, s179_21, s179_24, s179_25, s179_28, s179_29, s179_32, s179_33, s179_34, s179_37, s179_38, s179_41, s179_42, s179_43, s179_46, s179_48, s179_49, s179_52, s179_55, s179_56, s179_58, s179_60, s179_63, s179_64, s179_65, s179_66, s179_69, s179_72, s179_75, ltI, geL, leL, not_true_eq_false, not_false_eq_true, if_true, if_false, and_self, and_true, true_and, and_false, false_and, or_self, or_true, true_or, or_false, false_or, bo_T, bo_F, bo_e0, nI10, nI00, nI11, nI01, bo_e1, nem, eqL, af_v, af_0, rf_s, rf_n, nn, ite_self, ly63, p63_0, p63_1, p63_2, p63_7, p63_10, p63_11, p63_13, p63_14, p63_16, p63_18, p63_22, p63_23, p63_24, p63_30, p63_31, p63_32, p63_33, ly64, al64, ly71, al71, leN, c1, e2, e1, eqN, c, z, e8, le00, c0', addN, sm_cl]
      · rw [if_neg c0]
        simp (discharger := (first | omega | decide | assumption | exact rg_lt | exact rg_ly | (simp only [ly63, p63_0, p63_1, p63_2, p63_7, p63_10, p63_11, p63_13, p63_14, p63_16, p63_18, p63_22, p63_23, p63_24, p63_30, p63_31, p63_32, p63_33, ly64, al64, ly71, al71]; omega))) only [s179_0, s179_1, s179_3, s179_5, s179_8, s179_9, s179_12, s179_13, s179_14, s179_16, s179_17, s179_18, s179_20, s179_21, s179_24, s179_25, s179_28, s179_29, s179_32, s179_33, s179_34, s179_37, s179_38, s179_41, s179_42, s179_43, s179_46, s179_48, s179_49, s179_52, s179_55, s179_56, s179_58, s179_60, s179_63, s179_64, s179_65, s179_66, s179_69, s179_72, s179_75, ltI, geL, leL, not_true_eq_false, not_false_eq_true, if_true, if_false, and_self, and_true, true_and, and_false, false_and, or_self, or_true, true_or, or_false, false_or, bo_T, bo_F, bo_e0, nI10, nI00, nI11, nI01, bo_e1, nem, eqL, af_v, af_0, rf_s, rf_n, nn, ite_self, ly63, p63_0, p63_1, p63_2, p63_7, p63_10, p63_11, p63_13, p63_14, p63_16, p63_18, p63_22, p63_23, p63_24, p63_30, p63_31, p63_32, p63_33, ly64, al64, ly71, al71, leN, c1, e2, e1, eqN, c, z, e8, le00, c0, addN, sm_cl]
theorem m_lw_2 (R : RMB I β) (O : BOk β) (ht : ∀ p, p < 10 → I 65 p = nI (t p) ∧ t p < 6) : ∀ (g p : Nat), p + g = 10 → ∀ J : sm_Im, (∀ c, c ≠ 71 → J c = I c) → LW (J 71) 1000000 r t β (CP β x p) → ∃ J1 : sm_Im, (∀ c, c ≠ 71 → J1 c = I c) ∧ LW (J1 71) 1000000 r t β (CP β x 10) ∧ sm_at (sm_ex (d + 3)) none 179 57 [some (.ref 63), some (.int x), some (.int (nI p))] [] 81 J L (pX sw) = some (none, 81, J1, L, pX sw) := by
  intro g
  induction g with
  | zero =>
    intro p hp J hJ hW
    obtain rfl : p = 10 := by omega
    refine ⟨J, hJ, hW, ?_⟩
    rw [s179_57]
    simp only [s179_0, s179_1, s179_3, s179_5, s179_8, s179_9, s179_12, s179_13, s179_14, s179_16, s179_17, s179_18, s179_20, s179_21, s179_24, s179_25, s179_28, s179_29, s179_32, s179_33, s179_34, s179_37, s179_38, s179_41, s179_42, s179_43, s179_46, s179_48, s179_49, s179_52, s179_55, s179_56, s179_58, s179_60, s179_63, s179_64, s179_65, s179_66, s179_69, s179_72, s179_75, ltI, geL, leL, not_true_eq_false, not_false_eq_true, if_true, if_false, and_self, and_true, true_and, and_false, false_and, or_self, or_true, true_or, or_false, false_or, bo_T, bo_F, bo_e0, nI10, nI00, nI11, nI01, bo_e1, nem, eqL, af_v, af_0, rf_s, rf_n, nn, ite_self, Int32.le_refl, sm_cl]
  | succ g ih =>
    intro p hp J hJ hW
    have c1 : ¬ 10 ≤ p := by omega
    have R' : RMB J β := RMB_cong (fun c hc => hJ c (by omega)) R
    obtain ⟨J0, k1, k2, k3⟩ := m_layTouch (d := d) (L := L) (sw := sw) (p := p) R' O (fun p hp => by rw [hJ 65 (by decide)]; exact ht p hp) (by omega) hW
    obtain ⟨J1, h1, h2, h3⟩ := ih (p + 1) (by omega) J0 (fun c hc => by rw [k1 c hc]; exact hJ c hc) k2
    refine ⟨J1, h1, h2, ?_⟩
    rw [← h3, s179_57]
    simp (discharger := (first | omega | decide | assumption | exact rg_lt | exact rg_ly | (simp only [ly63, p63_0, p63_1, p63_2, p63_7, p63_10, p63_11, p63_13, p63_14, p63_16, p63_18, p63_22, p63_23, p63_24, p63_30, p63_31, p63_32, p63_33]; omega))) only [s179_0, s179_1, s179_3, s179_5, s179_8, s179_9, s179_12, s179_13, s179_14, s179_16, s179_17, s179_18, s179_20, s179_21, s179_24, s179_25, s179_28, s179_29, s179_32, s179_33, s179_34, s179_37, s179_38, s179_41, s179_42, s179_43, s179_46, s179_48, s179_49, s179_52, s179_55, s179_56, s179_58, s179_60, s179_63, s179_64, s179_65, s179_66, s179_69, s179_72, s179_75, ltI, geL, leL, not_true_eq_false, not_false_eq_true, if_true, if_false, and_self, and_true, true_and, and_false, false_and, or_self, or_true, true_or, or_false, false_or, bo_T, bo_F, bo_e0, nI10, nI00, nI11, nI01, bo_e1, nem, eqL, af_v, af_0, rf_s, rf_n, nn, ite_self, ly63, p63_0, p63_1, p63_2, p63_7, p63_10, p63_11, p63_13, p63_14, p63_16, p63_18, p63_22, p63_23, p63_24, p63_30, p63_31, p63_32, p63_33, leN, c1, k3, addN, sm_cl]
theorem m_layWays (R : RMB I β) (O : BOk β) (ht : ∀ p, p < 10 → I 65 p = nI (t p) ∧ t p < 6) (hr : ∀ k, k < 36 → I 64 k = nI (r k) ∧ r k ≤ 99) : ∃ (J1 : sm_Im) (V : Mx), (∀ c, c ≠ 71 → J1 c = I c) ∧ PW V 1000000 r t β (CF β x) ∧ RW (J1 71) V ∧ sm_ex (d + 4) 179 [.ref 63, .int x] 81 I L (pX sw) = some (none, 81, J1, L, pX sw) := by
  obtain ⟨J0, a1, a2, a3⟩ := m_lw_1 (d := d + 3) (x := x) (L := L) (sw := sw) hr 36 0 rfl I (fun c _ => rfl) (fun i hi => by omega)
  have w0 : LW (J0 71) 1000000 r t β (fun _ _ => False) := LW_0 (fun k hk => (hr k hk).2) (by decide) (fun i j hi hj => by
    have := a2 (6 * i + j) (by omega)
    rw [show (6 * i + j) / 6 = i by omega, show (6 * i + j) % 6 = j by omega] at this
    exact this)
  obtain ⟨J1, b1, b2, b3⟩ := m_lw_2 (d := d) (x := x) (L := L) (sw := sw) R O ht 10 0 rfl J0 a1 (LW_mono w0 (fun p q s hp hq h => by
    unfold CP
    constructor
    · exact fun h => h.elim
    · rintro ⟨h1, h2⟩; omega))
  obtain ⟨V, v1, v2, v3⟩ := LW_mono (C' := CF β x) b2 (fun p q s hp hq h => by
    unfold CP
    exact ⟨fun h => h.2, fun h => ⟨hp, h⟩⟩)
  refine ⟨J1, V, b1, ⟨v2, v3⟩, v1, ?_⟩
  rw [← b3, ← a3, e179]
  simp only [s179_0, s179_1, s179_3, s179_5, s179_8, s179_9, s179_12, s179_13, s179_14, s179_16, s179_17, s179_18, s179_20, s179_21, s179_24, s179_25, s179_28, s179_29, s179_32, s179_33, s179_34, s179_37, s179_38, s179_41, s179_42, s179_43, s179_46, s179_48, s179_49, s179_52, s179_55, s179_56, s179_58, s179_60, s179_63, s179_64, s179_65, s179_66, s179_69, s179_72, s179_75, ltI, geL, leL, not_true_eq_false, not_false_eq_true, if_true, if_false, and_self, and_true, true_and, and_false, false_and, or_self, or_true, true_or, or_false, false_or, bo_T, bo_F, bo_e0, nI10, nI00, nI11, nI01, bo_e1, nem, eqL, af_v, af_0, rf_s, rf_n, nn, ite_self, sm_cl]
end MN
