section KP4
variable {d N : Nat} {I J : sm_Im} {L : sm_Lm} {P : sm_Pm} {sw : Bool} {x y z u v : Int32} {a b m n q i j p k c s w o R : Nat} {f : Nat → Int32} {D E W V : Mx} {β : Nat → Nat → Nat} {r t : Nat → Nat} {o1 o2 : Option Nat}
def F1 (V : Mx) (m c : Nat) : Bool := decide (c / 6 < c % 6) && !exc (fw (bM V (c / 6) (c % 6)) 6) m
def F2 (V : Mx) (m c c2 : Nat) : Bool := decide (c2 / 6 < c2 % 6) && !exc (fw (bM (bM V (c / 6) (c % 6)) (c2 / 6) (c2 % 6)) 6) m
def G2 (V : Mx) (m c : Nat) : Option Nat := if c / 6 < c % 6 then firstF (F2 V m c) (35 - c) (c + 1) else none
def mq (V : Mx) (m : Nat) : Int32 × Option Nat × Option Nat := sr (exc (fw V 6) m) (firstF (F1 V m) 36 0) (firstO (G2 V m) 36 0)
theorem okp_0 : okp none := fun c h => by cases h
theorem okp_s (h1 : c < 36) (h2 : c / 6 < c % 6) : okp (some c) := fun c' h => by cases h; exact ⟨h1, h2⟩
/-- what the calls of isSoon need of the cells, but for the row 71 -/
def KC (I : sm_Im) (r t : Nat → Nat) (β : Nat → Nat → Nat) : Prop := RMB I β ∧ (∀ p, p < 10 → I 65 p = nI (t p) ∧ t p < 6) ∧ ∀ k, k < 36 → I 64 k = nI (r k) ∧ r k ≤ 99
theorem KC_c (h : KC I r t β) (hJ : ∀ c, c ≠ 71 → J c = I c) : KC J r t β := ⟨RMB_cong (fun b hb => hJ b (by omega)) h.1, by rw [hJ 65 (by decide)]; exact h.2.1, by rw [hJ 64 (by decide)]; exact h.2.2⟩
theorem m_soon0 (K : KC I r t β) (O : BOk β) (hV : PW V 1000000 r t β (CF β (nI 0))) (hm : m ≤ 999) : ∃ J1 : sm_Im, (∀ c, c ≠ 71 → J1 c = I c) ∧ sm_ex (d + 5) 184 [.ref 63, .int (nI m), .int (-1), .int (-1)] 81 I L (pX sw) = some (some (.int (bo (exc (fw V 6) m = false))), 81, J1, L, pX sw) := m_isSoon K.1 O K.2.1 K.2.2 hV okp_0 okp_0 hm
theorem m_soon1 (K : KC I r t β) (O : BOk β) (hV : PW V 1000000 r t β (CF β (nI 0))) (hm : m ≤ 999) (h1 : c < 36) (h2 : c / 6 < c % 6) : ∃ J1 : sm_Im, (∀ c, c ≠ 71 → J1 c = I c) ∧ sm_ex (d + 5) 184 [.ref 63, .int (nI m), .int (nI c), .int (-1)] 81 I L (pX sw) = some (some (.int (bo (exc (fw (bM V (c / 6) (c % 6)) 6) m = false))), 81, J1, L, pX sw) := m_isSoon K.1 O K.2.1 K.2.2 hV (okp_s h1 h2) okp_0 hm
theorem m_soon2 (K : KC I r t β) (O : BOk β) (hV : PW V 1000000 r t β (CF β (nI 0))) (hm : m ≤ 999) (h1 : c < 36) (h2 : c / 6 < c % 6) (h3 : k < 36) (h4 : k / 6 < k % 6) : ∃ J1 : sm_Im, (∀ c, c ≠ 71 → J1 c = I c) ∧ sm_ex (d + 5) 184 [.ref 63, .int (nI m), .int (nI c), .int (nI k)] 81 I L (pX sw) = some (some (.int (bo (exc (fw (bM (bM V (c / 6) (c % 6)) (k / 6) (k % 6)) 6) m = false))), 81, J1, L, pX sw) := m_isSoon K.1 O K.2.1 K.2.2 hV (okp_s h1 h2) (okp_s h3 h4) hm
theorem m_tp1 (hw : w ≤ 4) (h1 : c < 36) (h2 : c / 6 < c % 6) : sm_ex (d + 1) 185 [.int x, .int (nI c), .int (-1), .int (nI w)] 81 I L (pX sw) = some (some (.int (tl (x, some c, none) w)), 81, I, L, pX sw) := m_tellPairs hw (okp_s h1 h2) okp_0
theorem m_tp2 (hw : w ≤ 4) (h1 : c < 36) (h2 : c / 6 < c % 6) (h3 : k < 36) (h4 : k / 6 < k % 6) : sm_ex (d + 1) 185 [.int x, .int (nI c), .int (nI k), .int (nI w)] 81 I L (pX sw) = some (some (.int (tl (x, some c, some k) w)), 81, I, L, pX sw) := m_tellPairs hw (okp_s h1 h2) (okp_s h3 h4)
theorem cdiv (h : c < 36) : nI c / nI 6 = nI (c / 6) := divN (by omega) (by decide) (by decide)
theorem cmod (h : c < 36) : nI c - nI (c / 6) * nI 6 = nI (c % 6) := by rw [← cdiv h]; exact remN (by omega) (by decide) (by decide)
theorem m_k1 (K : KC I r t β) (O : BOk β) (hV : PW V 1000000 r t β (CF β (nI 0))) (hm : m ≤ 999) (hw : w ≤ 4) : ∀ (g c : Nat), c + g = 36 → ∀ (J : sm_Im) (l4 : Option Value), (∀ c, c ≠ 71 → J c = I c) → ∃ J1 : sm_Im, (∀ c, c ≠ 71 → J1 c = I c) ∧ sm_at (sm_ex (d + 5)) none 186 69 [some (.ref 63), some (.int (nI m)), some (.int (nI w)), some (.int (nI c)), l4] [] 81 J L (pX sw) = match firstF (F1 V m) g c with
    | some k => some (some (.int (tl (nI 1, some k, none) w)), 81, J1, L, pX sw)
    | none => sm_at (sm_ex (d + 5)) none 186 112 [some (.ref 63), some (.int (nI m)), some (.int (nI w)), some (.int (nI 0)), l4] [] 81 J1 L (pX sw) := by
  have z6 : ¬ nI 6 = 0 := by decide
  intro g
  induction g with
  | zero =>
    intro c hc J l4 hJ
    obtain rfl : c = 36 := by omega
    refine ⟨J, hJ, ?_⟩
    rw [s186_69]
    simp only [s186_0, s186_1, s186_2, s186_3, s186_6, s186_9, s186_12, s186_13, s186_14, s186_15, s186_18, s186_21, s186_24, s186_26, s186_27, s186_28, s186_31, s186_33, s186_36, s186_38, s186_39, s186_40, s186_41, s186_44, s186_45, s186_46, s186_49, s186_50, s186_51, s186_52, s186_53, s186_56, s186_59, s186_60, s186_61, s186_62, s186_63, s186_66, s186_67, s186_68, s186_70, s186_72, s186_75, s186_76, s186_78, s186_79, s186_80, s186_82, s186_83, s186_86, s186_87, s186_88, s186_89, s186_90, s186_93, s186_96, s186_97, s186_98, s186_99, s186_100, s186_103, s186_104, s186_107, s186_110, s186_111, s186_113, s186_115, s186_118, s186_119, s186_120, s186_121, s186_125, s186_127, s186_130, s186_131, s186_133, s186_134, s186_135, s186_137, s186_138, s186_141, s186_143, s186_145, s186_146, s186_148, s186_150, s186_151, s186_154, s186_155, s186_156, s186_157, s186_159, s186_162, s186_165, s186_166, s186_167, s186_169, s186_170, s186_173, s186_174, s186_177, s186_180, s186_183, s186_186, s186_187, ltI, geL, leL, not_true_eq_false, not_false_eq_true, if_true, if_false, and_self, and_true, true_and, and_false, false_and, or_self, or_true, true_or, or_false, false_or, bo_T, bo_F, bo_e0, nI10, nI00, nI11, nI01, bo_e1, nem, eqL, af_v, af_0, rf_s, rf_n, nn, ite_self, Int32.le_refl, firstF, sm_cl]
  | succ g ih =>
    intro c hc J l4 hJ
    have c1 : ¬ 36 ≤ c := by omega
    have hc6 : c < 36 := by omega
    rw [firstF_s]
    by_cases c2 : c / 6 < c % 6
    · have c3 : ¬ c % 6 ≤ c / 6 := by omega
      obtain ⟨J1, g1, g2⟩ := m_soon1 (d := d) (L := L) (sw := sw) (KC_c K hJ) O hV hm hc6 c2
      have g1' : ∀ c, c ≠ 71 → J1 c = I c := fun c h => by rw [g1 c h]; exact hJ c h
      cases e : exc (fw (bM V (c / 6) (c % 6)) 6) m with
      | false =>
        have e1 : F1 V m c = true := by unfold F1; rw [e, decide_eq_true c2]; rfl
        rw [e] at g2
        refine ⟨J1, g1', ?_⟩
        rw [if_pos e1, s186_69]
        simp (discharger := (first | omega | decide | assumption | exact rg_lt | exact rg_ly | (simp only [ly63, p63_0, p63_1, p63_2, p63_7, p63_10, p63_11, p63_13, p63_14, p63_16, p63_18, p63_22, p63_23, p63_24, p63_30, p63_31, p63_32, p63_33]; omega))) only [s186_0, s186_1, s186_2, s186_3, s186_6, s186_9, s186_12, s186_13, s186_14, s186_15, s186_18, s186_21, s186_24, s186_26, s186_27, s186_28, s186_31, s186_33, s186_36, s186_38, s186_39, s186_40, s186_41, s186_44, s186_45, s186_46, s186_49, s186_50, s186_51, s186_52, s186_53, s186_56, s186_59, s186_60, s186_61, s186_62, s186_63, s186_66, s186_67, s186_68, s186_70, s186_72, s186_75, s186_76, s186_78, s186_79, s186_80, s186_82, s186_83, s186_86, s186_87, s186_88, s186_89, s186_90, s186_93, s186_96, s186_97, s186_98, s186_99, s186_100, s186_103, s186_104, s186_107, s186_110, s186_111, s186_113, s186_115, s186_118, s186_119, s186_120, s186_121, s186_125, s186_127, s186_130, s186_131, s186_133, s186_134, s186_135, s186_137, s186_138, s186_141, s186_143, s186_145, s186_146, s186_148, s186_150, s186_151, s186_154, s186_155, s186_156, s186_157, s186_159, s186_162, s186_165, s186_166, s186_167, s186_169, s186_170, s186_173, s186_174, s186_177, s186_180, s186_183, s186_186, s186_187, ltI, geL, leL, not_true_eq_false, not_false_eq_true, if_true, if_false, and_self, and_true, true_and, and_false, false_and, or_self, or_true, true_or, or_false, false_or, bo_T, bo_F, bo_e0, nI10, nI00, nI11, nI01, bo_e1, nem, eqL, af_v, af_0, rf_s, rf_n, nn, ite_self, ly63, p63_0, p63_1, p63_2, p63_7, p63_10, p63_11, p63_13, p63_14, p63_16, p63_18, p63_22, p63_23, p63_24, p63_30, p63_31, p63_32, p63_33, leN, c1, z6, cdiv hc6, cmod hc6, c3, g2, m_tp1 hw hc6 c2]
      | true =>
        have e1 : ¬ F1 V m c = true := by unfold F1; rw [e, Bool.not_true, Bool.and_false]; decide
        rw [e] at g2
        obtain ⟨J2, h1, h2⟩ := ih (c + 1) (by omega) J1 l4 g1'
        refine ⟨J2, h1, ?_⟩
        rw [if_neg e1, ← h2, s186_69]
        simp (discharger := (first | omega | decide | assumption | exact rg_lt | exact rg_ly | (simp only [ly63, p63_0, p63_1, p63_2, p63_7, p63_10, p63_11, p63_13, p63_14, p63_16, p63_18, p63_22, p63_23, p63_24, p63_30, p63_31, p63_32, p63_33]; omega))) only [s186_0, s186_1, s186_2, s186_3, s186_6, s186_9, s186_12, s186_13, s186_14, s186_15, s186_18, s186_21, s186_24, s186_26, s186_27, s186_28, s186_31, s186_33, s186_36, s186_38, s186_39, s186_40, s186_41, s186_44, s186_45, s186_46, s186_49, s186_50, s186_51, s186_52, s186_53, s186_56, s186_59, s186_60, s186_61, s186_62, s186_63, s186_66, s186_67, s186_68, s186_70, s186_72, s186_75, s186_76, s186_78, s186_79, s186_80, s186_82, s186_83, s186_86, s186_87, s186_88, s186_89, s186_90, s186_93, s186_96, s186_97, s186_98, s186_99, s186_100, s186_103, s186_104, s186_107, s186_110, s186_111, s186_113, s186_115, s186_118, s186_119, s186_120, s186_121, s186_125, s186_127, s186_130, s186_131, s186_133, s186_134, s186_135, s186_137, s186_138, s186_141, s186_143, s186_145, s186_146, s186_148, s186_150, s186_151, s186_154, s186_155, s186_156, s186_157, s186_159, s186_162, s186_165, s186_166, s186_167, s186_169, s186_170, s186_173, s186_174, s186_177, s186_180, s186_183, s186_186, s186_187, ltI, geL, leL, not_true_eq_false, not_false_eq_true, if_true, if_false, and_self, and_true, true_and, and_false, false_and, or_self, or_true, true_or, or_false, false_or, bo_T, bo_F, bo_e0, nI10, nI00, nI11, nI01, bo_e1, nem, eqL, af_v, af_0, rf_s, rf_n, nn, ite_self, ly63, p63_0, p63_1, p63_2, p63_7, p63_10, p63_11, p63_13, p63_14, p63_16, p63_18, p63_22, p63_23, p63_24, p63_30, p63_31, p63_32, p63_33, leN, c1, z6, cdiv hc6, cmod hc6, c3, g2, addN, sm_cl, Bool.true_eq_false]
    · have c3 : c % 6 ≤ c / 6 := by omega
      have e1 : ¬ F1 V m c = true := by unfold F1; rw [decide_eq_false c2, Bool.false_and]; decide
      obtain ⟨J2, h1, h2⟩ := ih (c + 1) (by omega) J l4 hJ
      refine ⟨J2, h1, ?_⟩
      rw [if_neg e1, ← h2, s186_69]
      simp (discharger := (first | omega | decide | assumption | exact rg_lt | exact rg_ly | (simp only [ly63, p63_0, p63_1, p63_2, p63_7, p63_10, p63_11, p63_13, p63_14, p63_16, p63_18, p63_22, p63_23, p63_24, p63_30, p63_31, p63_32, p63_33]; omega))) only [s186_0, s186_1, s186_2, s186_3, s186_6, s186_9, s186_12, s186_13, s186_14, s186_15, s186_18, s186_21, s186_24, s186_26, s186_27, s186_28, s186_31, s186_33, s186_36, s186_38, s186_39, s186_40, s186_41, s186_44, s186_45, s186_46, s186_49, s186_50, s186_51, s186_52, s186_53, s186_56, s186_59, s186_60, s186_61, s186_62, s186_63, s186_66, s186_67, s186_68, s186_70, s186_72, s186_75, s186_76, s186_78, s186_79, s186_80, s186_82, s186_83, s186_86, s186_87, s186_88, s186_89, s186_90, s186_93, s186_96, s186_97, s186_98, s186_99, s186_100, s186_103, s186_104, s186_107, s186_110, s186_111, s186_113, s186_115, s186_118, s186_119, s186_120, s186_121, s186_125, s186_127, s186_130, s186_131, s186_133, s186_134, s186_135, s186_137, s186_138, s186_141, s186_143, s186_145, s186_146, s186_148, s186_150, s186_151, s186_154, s186_155, s186_156, s186_157, s186_159, s186_162, s186_165, s186_166, s186_167, s186_169, s186_170, s186_173, s186_174, s186_177, s186_180, s186_183, s186_186, s186_187, ltI, geL, leL, not_true_eq_false, not_false_eq_true, if_true, if_false, and_self, and_true, true_and, and_false, false_and, or_self, or_true, true_or, or_false, false_or, bo_T, bo_F, bo_e0, nI10, nI00, nI11, nI01, bo_e1, nem, eqL, af_v, af_0, rf_s, rf_n, nn, ite_self, ly63, p63_0, p63_1, p63_2, p63_7, p63_10, p63_11, p63_13, p63_14, p63_16, p63_18, p63_22, p63_23, p63_24, p63_30, p63_31, p63_32, p63_33, leN, c1, z6, cdiv hc6, cmod hc6, c3, addN, sm_cl]
theorem m_k2 (K : KC I r t β) (O : BOk β) (hV : PW V 1000000 r t β (CF β (nI 0))) (hm : m ≤ 999) (hw : w ≤ 4) (hc6 : c < 36) (hcc : c / 6 < c % 6) : ∀ (g k : Nat), k + g = 36 → ∀ (J : sm_Im), (∀ c, c ≠ 71 → J c = I c) → ∃ J1 : sm_Im, (∀ c, c ≠ 71 → J1 c = I c) ∧ sm_at (sm_ex (d + 5)) none 186 123 [some (.ref 63), some (.int (nI m)), some (.int (nI w)), some (.int (nI c)), some (.int (nI k))] [] 81 J L (pX sw) = match firstF (F2 V m c) g k with
    | some k => some (some (.int (tl (nI 2, some c, some k) w)), 81, J1, L, pX sw)
    | none => sm_at (sm_ex (d + 5)) none 186 112 [some (.ref 63), some (.int (nI m)), some (.int (nI w)), some (.int (nI (c + 1))), some (.int (nI 36))] [] 81 J1 L (pX sw) := by
  have z6 : ¬ nI 6 = 0 := by decide
  have c3 : ¬ c % 6 ≤ c / 6 := by omega
  intro g
  induction g with
  | zero =>
    intro k hk J hJ
    obtain rfl : k = 36 := by omega
    refine ⟨J, hJ, ?_⟩
    rw [s186_123]
    simp only [s186_0, s186_1, s186_2, s186_3, s186_6, s186_9, s186_12, s186_13, s186_14, s186_15, s186_18, s186_21, s186_24, s186_26, s186_27, s186_28, s186_31, s186_33, s186_36, s186_38, s186_39, s186_40, s186_41, s186_44, s186_45, s186_46, s186_49, s186_50, s186_51, s186_52, s186_53, s186_56, s186_59, s186_60, s186_61, s186_62, s186_63, s186_66, s186_67, s186_68, s186_70, s186_72, s186_75, s186_76, s186_78, s186_79, s186_80, s186_82, s186_83, s186_86, s186_87, s186_88, s186_89, s186_90, s186_93, s186_96, s186_97, s186_98, s186_99, s186_100, s186_103, s186_104, s186_107, s186_110, s186_111, s186_113, s186_115, s186_118, s186_119, s186_120, s186_121, s186_125, s186_127, s186_130, s186_131, s186_133, s186_134, s186_135, s186_137, s186_138, s186_141, s186_143, s186_145, s186_146, s186_148, s186_150, s186_151, s186_154, s186_155, s186_156, s186_157, s186_159, s186_162, s186_165, s186_166, s186_167, s186_169, s186_170, s186_173, s186_174, s186_177, s186_180, s186_183, s186_186, s186_187, ltI, geL, leL, not_true_eq_false, not_false_eq_true, if_true, if_false, and_self, and_true, true_and, and_false, false_and, or_self, or_true, true_or, or_false, false_or, bo_T, bo_F, bo_e0, nI10, nI00, nI11, nI01, bo_e1, nem, eqL, af_v, af_0, rf_s, rf_n, nn, ite_self, Int32.le_refl, firstF, sm_cl, addN]
  | succ g ih =>
    intro k hk J hJ
    have c1 : ¬ 36 ≤ k := by omega
    have hk6 : k < 36 := by omega
    rw [firstF_s]
    by_cases c2 : k / 6 < k % 6
    · have c4 : ¬ k % 6 ≤ k / 6 := by omega
      obtain ⟨J1, g1, g2⟩ := m_soon2 (d := d) (L := L) (sw := sw) (KC_c K hJ) O hV hm hc6 hcc hk6 c2
      have g1' : ∀ c, c ≠ 71 → J1 c = I c := fun c h => by rw [g1 c h]; exact hJ c h
      cases e : exc (fw (bM (bM V (c / 6) (c % 6)) (k / 6) (k % 6)) 6) m with
      | false =>
        have e1 : F2 V m c k = true := by unfold F2; rw [e, decide_eq_true c2]; rfl
        rw [e] at g2
        refine ⟨J1, g1', ?_⟩
        rw [if_pos e1, s186_123]
        simp (discharger := (first | omega | decide | assumption | exact rg_lt | exact rg_ly | (simp only [ly63, p63_0, p63_1, p63_2, p63_7, p63_10, p63_11, p63_13, p63_14, p63_16, p63_18, p63_22, p63_23, p63_24, p63_30, p63_31, p63_32, p63_33]; omega))) only [s186_0, s186_1, s186_2, s186_3, s186_6, s186_9, s186_12, s186_13, s186_14, s186_15, s186_18, s186_21, s186_24, s186_26, s186_27, s186_28, s186_31, s186_33, s186_36, s186_38, s186_39, s186_40, s186_41, s186_44, s186_45, s186_46, s186_49, s186_50, s186_51, s186_52, s186_53, s186_56, s186_59, s186_60, s186_61, s186_62, s186_63, s186_66, s186_67, s186_68, s186_70, s186_72, s186_75, s186_76, s186_78, s186_79, s186_80, s186_82, s186_83, s186_86, s186_87, s186_88, s186_89, s186_90, s186_93, s186_96, s186_97, s186_98, s186_99, s186_100, s186_103, s186_104, s186_107, s186_110, s186_111, s186_113, s186_115, s186_118, s186_119, s186_120, s186_121, s186_125, s186_127, s186_130, s186_131, s186_133, s186_134, s186_135, s186_137, s186_138, s186_141, s186_143, s186_145, s186_146, s186_148, s186_150, s186_151, s186_154, s186_155, s186_156, s186_157, s186_159, s186_162, s186_165, s186_166, s186_167, s186_169, s186_170, s186_173, s186_174, s186_177, s186_180, s186_183, s186_186, s186_187, ltI, geL, leL, not_true_eq_false, not_false_eq_true, if_true, if_false, and_self, and_true, true_and, and_false, false_and, or_self, or_true, true_or, or_false, false_or, bo_T, bo_F, bo_e0, nI10, nI00, nI11, nI01, bo_e1, nem, eqL, af_v, af_0, rf_s, rf_n, nn, ite_self, ly63, p63_0, p63_1, p63_2, p63_7, p63_10, p63_11, p63_13, p63_14, p63_16, p63_18, p63_22, p63_23, p63_24, p63_30, p63_31, p63_32, p63_33, leN, c1, z6, cdiv hc6, cmod hc6, cdiv hk6, cmod hk6, c3, c4, g2, m_tp2 hw hc6 hcc hk6 c2]
      | true =>
        have e1 : ¬ F2 V m c k = true := by unfold F2; rw [e, Bool.not_true, Bool.and_false]; decide
        rw [e] at g2
        obtain ⟨J2, h1, h2⟩ := ih (k + 1) (by omega) J1 g1'
        refine ⟨J2, h1, ?_⟩
        rw [if_neg e1, ← h2, s186_123]
        simp (discharger := (first | omega | decide | assumption | exact rg_lt | exact rg_ly | (simp only [ly63, p63_0, p63_1, p63_2, p63_7, p63_10, p63_11, p63_13, p63_14, p63_16, p63_18, p63_22, p63_23, p63_24, p63_30, p63_31, p63_32, p63_33]; omega))) only [s186_0, s186_1, s186_2, s186_3, s186_6, s186_9, s186_12, s186_13, s186_14, s186_15, s186_18, s186_21, s186_24, s186_26, s186_27, s186_28, s186_31, s186_33, s186_36, s186_38, s186_39, s186_40, s186_41, s186_44, s186_45, s186_46, s186_49, s186_50, s186_51, s186_52, s186_53, s186_56, s186_59, s186_60, s186_61, s186_62, s186_63, s186_66, s186_67, s186_68, s186_70, s186_72, s186_75, s186_76, s186_78, s186_79, s186_80, s186_82, s186_83, s186_86, s186_87, s186_88, s186_89, s186_90, s186_93, s186_96, s186_97, s186_98, s186_99, s186_100, s186_103, s186_104, s186_107, s186_110, s186_111, s186_113, s186_115, s186_118, s186_119, s186_120, s186_121, s186_125, s186_127, s186_130, s186_131, s186_133, s186_134, s186_135, s186_137, s186_138, s186_141, s186_143, s186_145, s186_146, s186_148, s186_150, s186_151, s186_154, s186_155, s186_156, s186_157, s186_159, s186_162, s186_165, s186_166, s186_167, s186_169, s186_170, s186_173, s186_174, s186_177, s186_180, s186_183, s186_186, s186_187, ltI, geL, leL, not_true_eq_false, not_false_eq_true, if_true, if_false, and_self, and_true, true_and, and_false, false_and, or_self, or_true, true_or, or_false, false_or, bo_T, bo_F, bo_e0, nI10, nI00, nI11, nI01, bo_e1, nem, eqL, af_v, af_0, rf_s, rf_n, nn, ite_self, ly63, p63_0, p63_1, p63_2, p63_7, p63_10, p63_11, p63_13, p63_14, p63_16, p63_18, p63_22, p63_23, p63_24, p63_30, p63_31, p63_32, p63_33, leN, c1, z6, cdiv hc6, cmod hc6, cdiv hk6, cmod hk6, c3, c4, g2, addN, sm_cl, Bool.true_eq_false]
    · have c4 : k % 6 ≤ k / 6 := by omega
      have e1 : ¬ F2 V m c k = true := by unfold F2; rw [decide_eq_false c2, Bool.false_and]; decide
      obtain ⟨J2, h1, h2⟩ := ih (k + 1) (by omega) J hJ
      refine ⟨J2, h1, ?_⟩
      rw [if_neg e1, ← h2, s186_123]
      simp (discharger := (first | omega | decide | assumption | exact rg_lt | exact rg_ly | (simp only [ly63, p63_0, p63_1, p63_2, p63_7, p63_10, p63_11, p63_13, p63_14, p63_16, p63_18, p63_22, p63_23, p63_24, p63_30, p63_31, p63_32, p63_33]; omega))) only [s186_0, s186_1, s186_2, s186_3, s186_6, s186_9, s186_12, s186_13, s186_14, s186_15, s186_18, s186_21, s186_24, s186_26, s186_27, s186_28, s186_31, s186_33, s186_36, s186_38, s186_39, s186_40, s186_41, s186_44, s186_45, s186_46, s186_49, s186_50, s186_51, s186_52, s186_53, s186_56, s186_59, s186_60, s186_61, s186_62, s186_63, s186_66, s186_67, s186_68, s186_70, s186_72, s186_75, s186_76, s186_78, s186_79, s186_80, s186_82, s186_83, s186_86, s186_87, s186_88, s186_89, s186_90, s186_93, s186_96, s186_97, s186_98, s186_99, s186_100, s186_103, s186_104, s186_107, s186_110, s186_111, s186_113, s186_115, s186_118, s186_119, s186_120, s186_121, s186_125, s186_127, s186_130, s186_131, s186_133, s186_134, s186_135, s186_137, s186_138, s186_141, s186_143, s186_145, s186_146, s186_148, s186_150, s186_151, s186_154, s186_155, s186_156, s186_157, s186_159, s186_162, s186_165, s186_166, s186_167, s186_169, s186_170, s186_173, s186_174, s186_177, s186_180, s186_183, s186_186, s186_187, ltI, geL, leL, not_true_eq_false, not_false_eq_true, if_true, if_false, and_self, and_true, true_and, and_false, false_and, or_self, or_true, true_or, or_false, false_or, bo_T, bo_F, bo_e0, nI10, nI00, nI11, nI01, bo_e1, nem, eqL, af_v, af_0, rf_s, rf_n, nn, ite_self, ly63, p63_0, p63_1, p63_2, p63_7, p63_10, p63_11, p63_13, p63_14, p63_16, p63_18, p63_22, p63_23, p63_24, p63_30, p63_31, p63_32, p63_33, leN, c1, z6, cdiv hc6, cmod hc6, cdiv hk6, cmod hk6, c3, c4, addN, sm_cl]
theorem m_k3 (K : KC I r t β) (O : BOk β) (hV : PW V 1000000 r t β (CF β (nI 0))) (hm : m ≤ 999) (hw : w ≤ 4) : ∀ (g c : Nat), c + g = 36 → ∀ (J : sm_Im) (l4 : Option Value), (∀ c, c ≠ 71 → J c = I c) → ∃ J1 : sm_Im, (∀ c, c ≠ 71 → J1 c = I c) ∧ sm_at (sm_ex (d + 5)) none 186 112 [some (.ref 63), some (.int (nI m)), some (.int (nI w)), some (.int (nI c)), l4] [] 81 J L (pX sw) = match firstO (G2 V m) g c with
    | some q => some (some (.int (tl (nI 2, some q.1, some q.2) w)), 81, J1, L, pX sw)
    | none => some (some (.int (-1)), 81, J1, L, pX sw) := by
  have z6 : ¬ nI 6 = 0 := by decide
  intro g
  induction g with
  | zero =>
    intro c hc J l4 hJ
    obtain rfl : c = 36 := by omega
    refine ⟨J, hJ, ?_⟩
    rw [s186_112]
    simp only [s186_0, s186_1, s186_2, s186_3, s186_6, s186_9, s186_12, s186_13, s186_14, s186_15, s186_18, s186_21, s186_24, s186_26, s186_27, s186_28, s186_31, s186_33, s186_36, s186_38, s186_39, s186_40, s186_41, s186_44, s186_45, s186_46, s186_49, s186_50, s186_51, s186_52, s186_53, s186_56, s186_59, s186_60, s186_61, s186_62, s186_63, s186_66, s186_67, s186_68, s186_70, s186_72, s186_75, s186_76, s186_78, s186_79, s186_80, s186_82, s186_83, s186_86, s186_87, s186_88, s186_89, s186_90, s186_93, s186_96, s186_97, s186_98, s186_99, s186_100, s186_103, s186_104, s186_107, s186_110, s186_111, s186_113, s186_115, s186_118, s186_119, s186_120, s186_121, s186_125, s186_127, s186_130, s186_131, s186_133, s186_134, s186_135, s186_137, s186_138, s186_141, s186_143, s186_145, s186_146, s186_148, s186_150, s186_151, s186_154, s186_155, s186_156, s186_157, s186_159, s186_162, s186_165, s186_166, s186_167, s186_169, s186_170, s186_173, s186_174, s186_177, s186_180, s186_183, s186_186, s186_187, ltI, geL, leL, not_true_eq_false, not_false_eq_true, if_true, if_false, and_self, and_true, true_and, and_false, false_and, or_self, or_true, true_or, or_false, false_or, bo_T, bo_F, bo_e0, nI10, nI00, nI11, nI01, bo_e1, nem, eqL, af_v, af_0, rf_s, rf_n, nn, ite_self, Int32.le_refl, firstO, sm_cl]
  | succ g ih =>
    intro c hc J l4 hJ
    have c1 : ¬ 36 ≤ c := by omega
    have hc6 : c < 36 := by omega
    have hgo : sm_at (sm_ex (d + 5)) none 186 112 [some (.ref 63), some (.int (nI m)), some (.int (nI w)), some (.int (nI c)), l4] [] 81 J L (pX sw) = sm_at (sm_ex (d + 5)) none 186 123 [some (.ref 63), some (.int (nI m)), some (.int (nI w)), some (.int (nI c)), some (.int (nI (c + 1)))] [] 81 J L (pX sw) := by
      rw [s186_112]
      simp (discharger := (first | omega | decide | assumption | exact rg_lt | exact rg_ly | (simp only [ly63, p63_0, p63_1, p63_2, p63_7, p63_10, p63_11, p63_13, p63_14, p63_16, p63_18, p63_22, p63_23, p63_24, p63_30, p63_31, p63_32, p63_33]; omega))) only [s186_0, s186_1, s186_2, s186_3, s186_6, s186_9, s186_12, s186_13, s186_14, s186_15, s186_18, s186_21, s186_24, s186_26, s186_27, s186_28, s186_31, s186_33, s186_36, s186_38, s186_39, s186_40, s186_41, s186_44, s186_45, s186_46, s186_49, s186_50, s186_51, s186_52, s186_53, s186_56, s186_59, s186_60, s186_61, s186_62, s186_63, s186_66, s186_67, s186_68, s186_70, s186_72, s186_75, s186_76, s186_78, s186_79, s186_80, s186_82, s186_83, s186_86, s186_87, s186_88, s186_89, s186_90, s186_93, s186_96, s186_97, s186_98, s186_99, s186_100, s186_103, s186_104, s186_107, s186_110, s186_111, s186_113, s186_115, s186_118, s186_119, s186_120, s186_121, s186_125, s186_127, s186_130, s186_131, s186_133, s186_134, s186_135, s186_137, s186_138, s186_141, s186_143, s186_145, s186_146, s186_148, s186_150, s186_151, s186_154, s186_155, s186_156, s186_157, s186_159, s186_162, s186_165, s186_166, s186_167, s186_169, s186_170, s186_173, s186_174, s186_177, s186_180, s186_183, s186_186, s186_187, ltI, geL, leL, not_true_eq_false, not_false_eq_true, if_true, if_false, and_self, and_true, true_and, and_false, false_and, or_self, or_true, true_or, or_false, false_or, bo_T, bo_F, bo_e0, nI10, nI00, nI11, nI01, bo_e1, nem, eqL, af_v, af_0, rf_s, rf_n, nn, ite_self, ly63, p63_0, p63_1, p63_2, p63_7, p63_10, p63_11, p63_13, p63_14, p63_16, p63_18, p63_22, p63_23, p63_24, p63_30, p63_31, p63_32, p63_33, leN, c1, addN, sm_cl]
    by_cases c2 : c / 6 < c % 6
    · obtain ⟨J1, g1, g2⟩ := m_k2 (d := d) (L := L) (sw := sw) K O hV hm hw hc6 c2 (35 - c) (c + 1) (by omega) J hJ
      have eG : G2 V m c = firstF (F2 V m c) (35 - c) (c + 1) := if_pos c2
      cases e : firstF (F2 V m c) (35 - c) (c + 1) with
      | some k =>
        rw [e] at g2 eG
        refine ⟨J1, g1, ?_⟩
        rw [firstO_t eG, hgo, g2]
      | none =>
        rw [e] at g2 eG
        obtain ⟨J2, h1, h2⟩ := ih (c + 1) (by omega) J1 (some (.int (nI 36))) g1
        refine ⟨J2, h1, ?_⟩
        rw [firstO_f eG, hgo, g2, h2]
    · have eG : G2 V m c = none := if_neg c2
      have c3 : c % 6 ≤ c / 6 := by omega
      obtain ⟨J2, h1, h2⟩ := ih (c + 1) (by omega) J (some (.int (nI (c + 1)))) hJ
      refine ⟨J2, h1, ?_⟩
      rw [firstO_f eG, hgo, ← h2, s186_123]
      by_cases c4 : 36 ≤ c + 1
      · simp (discharger := (first | omega | decide | assumption | exact rg_lt | exact rg_ly | (simp only [ly63, p63_0, p63_1, p63_2, p63_7, p63_10, p63_11, p63_13, p63_14, p63_16, p63_18, p63_22, p63_23, p63_24, p63_30, p63_31, p63_32, p63_33]; omega))) only [s186_0, s186_1, s186_2, s186_3, s186_6, s186_9, s186_12, s186_13, s186_14, s186_15, s186_18, s186_21, s186_24, s186_26, s186_27, s186_28, s186_31, s186_33, s186_36, s186_38, s186_39, s186_40, s186_41, s186_44, s186_45, s186_46, s186_49, s186_50, s186_51, s186_52, s186_53, s186_56, s186_59, s186_60, s186_61, s186_62, s186_63, s186_66, s186_67, s186_68, s186_70, s186_72, s186_75, s186_76, s186_78, s186_79, s186_80, s186_82, s186_83, s186_86, s186_87, s186_88, s186_89, s186_90, s186_93, s186_96, s186_97, s186_98, s186_99, s186_100, s186_103, s186_104, s186_107, s186_110, s186_111, s186_113, s186_115, s186_118, s186_119, s186_120, s186_121, s186_125, s186_127, s186_130, s186_131, s186_133, s186_134, s186_135, s186_137, s186_138, s186_141, s186_143, s186_145, s186_146, s186_148, s186_150, s186_151, s186_154, s186_155, s186_156, s186_157, s186_159, s186_162, s186_165, s186_166, s186_167, s186_169, s186_170, s186_173, s186_174, s186_177, s186_180, s186_183, s186_186, s186_187, ltI, geL, leL, not_true_eq_false, not_false_eq_true, if_true, if_false, and_self, and_true, true_and, and_false, false_and, or_self, or_true, true_or, or_false, false_or, bo_T, bo_F, bo_e0, nI10, nI00, nI11, nI01, bo_e1, nem, eqL, af_v, af_0, rf_s, rf_n, nn, ite_self, ly63, p63_0, p63_1, p63_2, p63_7, p63_10, p63_11, p63_13, p63_14, p63_16, p63_18, p63_22, p63_23, p63_24, p63_30, p63_31, p63_32, p63_33, leN, c4, addN, sm_cl]
      · simp (discharger := (first | omega | decide | assumption | exact rg_lt | exact rg_ly | (simp only [ly63, p63_0, p63_1, p63_2, p63_7, p63_10, p63_11, p63_13, p63_14, p63_16, p63_18, p63_22, p63_23, p63_24, p63_30, p63_31, p63_32, p63_33]; omega))) only [s186_0, s186_1, s186_2, s186_3, s186_6, s186_9, s186_12, s186_13, s186_14, s186_15, s186_18, s186_21, s186_24, s186_26, s186_27, s186_28, s186_31, s186_33, s186_36, s186_38, s186_39, s186_40, s186_41, s186_44, s186_45, s186_46, s186_49, s186_50, s186_51, s186_52, s186_53, s186_56, s186_59, s186_60, s186_61, s186_62, s186_63, s186_66, s186_67, s186_68, s186_70, s186_72, s186_75, s186_76, s186_78, s186_79, s186_80, s186_82, s186_83, s186_86, s186_87, s186_88, s186_89, s186_90, s186_93, s186_96, s186_97, s186_98, s186_99, s186_100, s186_103, s186_104, s186_107, s186_110, s186_111, s186_113, s186_115, s186_118, s186_119, s186_120, s186_121, s186_125, s186_127, s186_130, s186_131, s186_133, s186_134, s186_135, s186_137, s186_138, s186_141, s186_143, s186_145, s186_146, s186_148, s186_150, s186_151, s186_154, s186_155, s186_156, s186_157, s186_159, s186_162, s186_165, s186_166, s186_167, s186_169, s186_170, s186_173, s186_174, s186_177, s186_180, s186_183, s186_186, s186_187, ltI, geL, leL, not_true_eq_false, not_false_eq_true, if_true, if_false, and_self, and_true, true_and, and_false, false_and, or_self, or_true, true_or, or_false, false_or, bo_T, bo_F, bo_e0, nI10, nI00, nI11, nI01, bo_e1, nem, eqL, af_v, af_0, rf_s, rf_n, nn, ite_self, ly63, p63_0, p63_1, p63_2, p63_7, p63_10, p63_11, p63_13, p63_14, p63_16, p63_18, p63_22, p63_23, p63_24, p63_30, p63_31, p63_32, p63_33, leN, c4, z6, cdiv hc6, cmod hc6, c3, addN, sm_cl]
theorem m_kept_1 (h : ¬ ((nI 0 ≤ x ∧ x ≤ nI 999) ∧ (nI 0 ≤ y ∧ y ≤ nI 4))) : sm_ex (d + 7) 186 [.ref 63, .int x, .int y] 81 I L (pX sw) = some (some (.int (-102)), 81, I, L, pX sw) := by
  rw [e186]
  by_cases h1 : (nI 0 ≤ x ∧ x ≤ nI 999)
  · have h2 : ¬ (nI 0 ≤ y ∧ y ≤ nI 4) := fun q => h ⟨h1, q⟩
    simp only [s186_0, s186_1, s186_2, s186_3, s186_6, s186_9, s186_12, s186_13, s186_14, s186_15, s186_18, s186_21, s186_24, s186_26, s186_27, s186_28, s186_31, s186_33, s186_36, s186_38, s186_39, s186_40, s186_41, s186_44, s186_45, s186_46, s186_49, s186_50, s186_51, s186_52, s186_53, s186_56, s186_59, s186_60, s186_61, s186_62, s186_63, s186_66, s186_67, s186_68, s186_70, s186_72, s186_75, s186_76, s186_78, s186_79, s186_80, s186_82, s186_83, s186_86, s186_87, s186_88, s186_89, s186_90, s186_93, s186_96, s186_97, s186_98, s186_99, s186_100, s186_103, s186_104, s186_107, s186_110, s186_111, s186_113, s186_115, s186_118, s186_119, s186_120, s186_121, s186_125, s186_127, s186_130, s186_131, s186_133, s186_134, s186_135, s186_137, s186_138, s186_141, s186_143, s186_145, s186_146, s186_148, s186_150, s186_151, s186_154, s186_155, s186_156, s186_157, s186_159, s186_162, s186_165, s186_166, s186_167, s186_169, s186_170, s186_173, s186_174, s186_177, s186_180, s186_183, s186_186, s186_187, ltI, geL, leL, not_true_eq_false, not_false_eq_true, if_true, if_false, and_self, and_true, true_and, and_false, false_and, or_self, or_true, true_or, or_false, false_or, bo_T, bo_F, bo_e0, nI10, nI00, nI11, nI01, bo_e1, nem, eqL, af_v, af_0, rf_s, rf_n, nn, ite_self, m_in, wN 0 (by decide), wN 999 (by decide), wN 4 (by decide), wl, h1, h2]
  · simp only [s186_0, s186_1, s186_2, s186_3, s186_6, s186_9, s186_12, s186_13, s186_14, s186_15, s186_18, s186_21, s186_24, s186_26, s186_27, s186_28, s186_31, s186_33, s186_36, s186_38, s186_39, s186_40, s186_41, s186_44, s186_45, s186_46, s186_49, s186_50, s186_51, s186_52, s186_53, s186_56, s186_59, s186_60, s186_61, s186_62, s186_63, s186_66, s186_67, s186_68, s186_70, s186_72, s186_75, s186_76, s186_78, s186_79, s186_80, s186_82, s186_83, s186_86, s186_87, s186_88, s186_89, s186_90, s186_93, s186_96, s186_97, s186_98, s186_99, s186_100, s186_103, s186_104, s186_107, s186_110, s186_111, s186_113, s186_115, s186_118, s186_119, s186_120, s186_121, s186_125, s186_127, s186_130, s186_131, s186_133, s186_134, s186_135, s186_137, s186_138, s186_141, s186_143, s186_145, s186_146, s186_148, s186_150, s186_151, s186_154, s186_155, s186_156, s186_157, s186_159, s186_162, s186_165, s186_166, s186_167, s186_169, s186_170, s186_173, s186_174, s186_177, s186_180, s186_183, s186_186, s186_187, ltI, geL, leL, not_true_eq_false, not_false_eq_true, if_true, if_false, and_self, and_true, true_and, and_false, false_and, or_self, or_true, true_or, or_false, false_or, bo_T, bo_F, bo_e0, nI10, nI00, nI11, nI01, bo_e1, nem, eqL, af_v, af_0, rf_s, rf_n, nn, ite_self, m_in, wN 0 (by decide), wN 999 (by decide), wN 4 (by decide), wl, h1]
theorem m_kept_2 (h1 : (nI 0 ≤ x ∧ x ≤ nI 999)) (h2 : (nI 0 ≤ y ∧ y ≤ nI 4)) (hn : I 63 15 = nI 20) : sm_ex (d + 7) 186 [.ref 63, .int x, .int y] 81 I L (pX sw) = some (some (.int (-103)), 81, I, L, pX sw) := by
  rw [e186]
  simp (discharger := (first | omega | decide | assumption | exact rg_lt | exact rg_ly | (simp only [ly63, p63_0, p63_1, p63_2, p63_7, p63_10, p63_11, p63_13, p63_14, p63_16, p63_18, p63_22, p63_23, p63_24, p63_30, p63_31, p63_32, p63_33]; omega))) only [s186_0, s186_1, s186_2, s186_3, s186_6, s186_9, s186_12, s186_13, s186_14, s186_15, s186_18, s186_21, s186_24, s186_26, s186_27, s186_28, s186_31, s186_33, s186_36, s186_38, s186_39, s186_40, s186_41, s186_44, s186_45, s186_46, s186_49, s186_50, s186_51, s186_52, s186_53, s186_56, s186_59, s186_60, s186_61, s186_62, s186_63, s186_66, s186_67, s186_68, s186_70, s186_72, s186_75, s186_76, s186_78, s186_79, s186_80, s186_82, s186_83, s186_86, s186_87, s186_88, s186_89, s186_90, s186_93, s186_96, s186_97, s186_98, s186_99, s186_100, s186_103, s186_104, s186_107, s186_110, s186_111, s186_113, s186_115, s186_118, s186_119, s186_120, s186_121, s186_125, s186_127, s186_130, s186_131, s186_133, s186_134, s186_135, s186_137, s186_138, s186_141, s186_143, s186_145, s186_146, s186_148, s186_150, s186_151, s186_154, s186_155, s186_156, s186_157, s186_159, s186_162, s186_165, s186_166, s186_167, s186_169, s186_170, s186_173, s186_174, s186_177, s186_180, s186_183, s186_186, s186_187, ltI, geL, leL, not_true_eq_false, not_false_eq_true, if_true, if_false, and_self, and_true, true_and, and_false, false_and, or_self, or_true, true_or, or_false, false_or, bo_T, bo_F, bo_e0, nI10, nI00, nI11, nI01, bo_e1, nem, eqL, af_v, af_0, rf_s, rf_n, nn, ite_self, ly63, p63_0, p63_1, p63_2, p63_7, p63_10, p63_11, p63_13, p63_14, p63_16, p63_18, p63_22, p63_23, p63_24, p63_30, p63_31, p63_32, p63_33, m_in, wN 0 (by decide), wN 999 (by decide), wN 4 (by decide), wl, h1, h2, hn]
theorem RMB_up {k : Nat} (hk : k ≠ 8) (h : RMB I β) : RMB (sm_up I 63 k v) β := by
  have e1 : sm_up I 63 k v 63 8 = I 63 8 := up_cell (fun q => hk q.2.symm)
  have e2 : sm_up I 63 k v 68 = I 68 := up_row (by decide)
  have e3 : sm_up I 63 k v 69 = I 69 := up_row (by decide)
  unfold RMB
  rw [e1, e2, e3]
  exact h
theorem m_kept_3 (K : KC I r t β) (O : BOk β) (hV : PW V 1000000 r t β (CF β (nI 0))) (hm : m ≤ 999) (hw : w ≤ 4) (hn : I 63 15 = nI n) (hn2 : n < 20) : ∃ J1 : sm_Im, (∀ c, c ≠ 63 → c ≠ 71 → J1 c = I c) ∧ J1 63 = sm_up I 63 15 (nI (n + 1)) 63 ∧ sm_ex (d + 7) 186 [.ref 63, .int (nI m), .int (nI w)] 81 I L (pX sw) = some (some (.int (tl (mq V m) w)), 81, J1, L, pX sw) := by
  have K1 : KC (sm_up I 63 15 (nI (n + 1))) r t β := ⟨RMB_up (by decide) K.1, by rw [up_row (by decide)]; exact K.2.1, by rw [up_row (by decide)]; exact K.2.2⟩
  have hn3 : ¬ n = 20 := by omega
  obtain ⟨J0, a1, a2⟩ := m_soon0 (d := d + 1) (L := L) (sw := sw) K1 O hV hm
  have fr : ∀ J1 : sm_Im, (∀ c, c ≠ 71 → J1 c = sm_up I 63 15 (nI (n + 1)) c) → (∀ c, c ≠ 63 → c ≠ 71 → J1 c = I c) ∧ J1 63 = sm_up I 63 15 (nI (n + 1)) 63 := fun J1 h => ⟨fun c h1 h2 => by rw [h c h2, up_row h1], h 63 (by decide)⟩
  have t0 : sm_ex (d + 6) 185 [.int (nI 0), .int (-1), .int (-1), .int (nI w)] 81 J0 L (pX sw) = some (some (.int (tl (nI 0, none, none) w)), 81, J0, L, pX sw) := m_tellPairs (d := d + 5) hw okp_0 okp_0
  cases e : exc (fw V 6) m with
  | false =>
    rw [e] at a2
    refine ⟨J0, (fr J0 a1).1, (fr J0 a1).2, ?_⟩
    rw [show mq V m = (nI 0, none, none) by unfold mq; rw [e]; rfl, e186]
    simp (discharger := (first | omega | decide | assumption | exact rg_lt | exact rg_ly | (simp only [ly63, p63_0, p63_1, p63_2, p63_7, p63_10, p63_11, p63_13, p63_14, p63_16, p63_18, p63_22, p63_23, p63_24, p63_30, p63_31, p63_32, p63_33]; omega))) only [s186_0, s186_1, s186_2, s186_3, s186_6, s186_9, s186_12, s186_13, s186_14, s186_15, s186_18, s186_21, s186_24, s186_26, s186_27, s186_28, s186_31, s186_33, s186_36, s186_38, s186_39, s186_40, s186_41, s186_44, s186_45, s186_46, s186_49, s186_50, s186_51, s186_52, s186_53, s186_56, s186_59, s186_60, s186_61, s186_62, s186_63, s186_66, s186_67, s186_68, s186_70, s186_72, s186_75, s186_76, s186_78, s186_79, s186_80, s186_82, s186_83, s186_86, s186_87, s186_88, s186_89, s186_90, s186_93, s186_96, s186_97, s186_98, s186_99, s186_100, s186_103, s186_104, s186_107, s186_110, s186_111, s186_113, s186_115, s186_118, s186_119, s186_120, s186_121, s186_125, s186_127, s186_130, s186_131, s186_133, s186_134, s186_135, s186_137, s186_138, s186_141, s186_143, s186_145, s186_146, s186_148, s186_150, s186_151, s186_154, s186_155, s186_156, s186_157, s186_159, s186_162, s186_165, s186_166, s186_167, s186_169, s186_170, s186_173, s186_174, s186_177, s186_180, s186_183, s186_186, s186_187, ltI, geL, leL, not_true_eq_false, not_false_eq_true, if_true, if_false, and_self, and_true, true_and, and_false, false_and, or_self, or_true, true_or, or_false, false_or, bo_T, bo_F, bo_e0, nI10, nI00, nI11, nI01, bo_e1, nem, eqL, af_v, af_0, rf_s, rf_n, nn, ite_self, ly63, p63_0, p63_1, p63_2, p63_7, p63_10, p63_11, p63_13, p63_14, p63_16, p63_18, p63_22, p63_23, p63_24, p63_30, p63_31, p63_32, p63_33, m_in, wN 0 (by decide), wN 999 (by decide), wN 4 (by decide), wl, ixt, hn, eqN, hn3, addN, a2, t0]
  | true =>
    rw [e] at a2
    obtain ⟨J1, b1, b2⟩ := m_k1 (d := d + 1) (L := L) (sw := sw) K1 O hV hm hw 36 0 rfl J0 none a1
    have hgo : ∀ Z : Option sm_Rs, sm_at (sm_ex (d + 6)) none 186 69 [some (.ref 63), some (.int (nI m)), some (.int (nI w)), some (.int (nI 0)), none] [] 81 J0 L (pX sw) = Z → sm_ex (d + 7) 186 [.ref 63, .int (nI m), .int (nI w)] 81 I L (pX sw) = Z := fun Z hZ => by
      rw [← hZ, e186]
      simp (discharger := (first | omega | decide | assumption | exact rg_lt | exact rg_ly | (simp only [ly63, p63_0, p63_1, p63_2, p63_7, p63_10, p63_11, p63_13, p63_14, p63_16, p63_18, p63_22, p63_23, p63_24, p63_30, p63_31, p63_32, p63_33]; omega))) only [s186_0, s186_1, s186_2, s186_3, s186_6, s186_9, s186_12, s186_13, s186_14, s186_15, s186_18, s186_21, s186_24, s186_26, s186_27, s186_28, s186_31, s186_33, s186_36, s186_38, s186_39, s186_40, s186_41, s186_44, s186_45, s186_46, s186_49, s186_50, s186_51, s186_52, s186_53, s186_56, s186_59, s186_60, s186_61, s186_62, s186_63, s186_66, s186_67, s186_68, s186_70, s186_72, s186_75, s186_76, s186_78, s186_79, s186_80, s186_82, s186_83, s186_86, s186_87, s186_88, s186_89, s186_90, s186_93, s186_96, s186_97, s186_98, s186_99, s186_100, s186_103, s186_104, s186_107, s186_110, s186_111, s186_113, s186_115, s186_118, s186_119, s186_120, s186_121, s186_125, s186_127, s186_130, s186_131, s186_133, s186_134, s186_135, s186_137, s186_138, s186_141, s186_143, s186_145, s186_146, s186_148, s186_150, s186_151, s186_154, s186_155, s186_156, s186_157, s186_159, s186_162, s186_165, s186_166, s186_167, s186_169, s186_170, s186_173, s186_174, s186_177, s186_180, s186_183, s186_186, s186_187, ltI, geL, leL, not_true_eq_false, not_false_eq_true, if_true, if_false, and_self, and_true, true_and, and_false, false_and, or_self, or_true, true_or, or_false, false_or, bo_T, bo_F, bo_e0, nI10, nI00, nI11, nI01, bo_e1, nem, eqL, af_v, af_0, rf_s, rf_n, nn, ite_self, ly63, p63_0, p63_1, p63_2, p63_7, p63_10, p63_11, p63_13, p63_14, p63_16, p63_18, p63_22, p63_23, p63_24, p63_30, p63_31, p63_32, p63_33, m_in, wN 0 (by decide), wN 999 (by decide), wN 4 (by decide), wl, ixt, hn, eqN, hn3, addN, a2, sm_cl, Bool.true_eq_false]
    cases e1 : firstF (F1 V m) 36 0 with
    | some k =>
      rw [e1] at b2
      refine ⟨J1, (fr J1 b1).1, (fr J1 b1).2, hgo _ ?_⟩
      rw [b2, show mq V m = (nI 1, some k, none) by unfold mq; rw [e, e1]; rfl]
    | none =>
      rw [e1] at b2
      obtain ⟨J2, c1, c2⟩ := m_k3 (d := d + 1) (L := L) (sw := sw) K1 O hV hm hw 36 0 rfl J1 none b1
      refine ⟨J2, (fr J2 c1).1, (fr J2 c1).2, hgo _ ?_⟩
      rw [b2]
      dsimp only
      rw [c2]
      cases e2 : firstO (G2 V m) 36 0 with
      | some q => rw [show mq V m = (nI 2, some q.1, some q.2) by unfold mq; rw [e, e1, e2]; rfl]
      | none =>
        rw [show mq V m = (-1, none, none) by unfold mq; rw [e, e1, e2]; rfl]
        rw [show tl (-1, none, none) w = -1 by unfold tl; by_cases h : w = 0; rw [if_pos h]; rw [if_neg h]; simp]
/-- both tell the same pairs -/
theorem firstO_map {α γ : Type} {G : Nat → Option α} (h : α → γ) : ∀ g i, firstO (fun k => (G k).map h) g i = (firstO G g i).map (fun q => (q.1, h q.2)) := by
  intro g
  induction g with
  | zero => intro i; rfl
  | succ g ih =>
    intro i
    cases e : G i with
    | some v => rw [firstO_t e, firstO_t (G := fun k => (G k).map h) (v := h v) (by rw [e]; rfl)]; rfl
    | none => rw [firstO_f e, firstO_f (G := fun k => (G k).map h) (by rw [e]; rfl)]; exact ih (i + 1)
theorem IsC_m {M M' C : Mx} (h : IsC M C) (e : ∀ a b, a < 6 → b < 6 → M a b = M' a b) : IsC M' C :=
  ⟨fun a b ha hb => by rw [← e a b ha hb]; exact h.1 a b ha hb, h.2.1, h.2.2.1, fun T h1 h2 => h.2.2.2 T (fun a b ha hb => by rw [e a b ha hb]; exact h1 a b ha hb) h2⟩
theorem kept_b {M C : Mx} (hC : IsC (fun a b => min 100000 (M a b)) C) (hM : ∀ a, a < 6 → M a a = 0) (hm : m ≤ 999) : exc C m = exc (fw M 6) m := by
  rw [exc_cong (IsC_eq hC (IsC_cap 100000 (fw_C hM)) (fun a b _ _ => rfl)), exc_cap (by omega)]
theorem kept_s {M C : Mx} (hC : IsC (fun a b => min 100000 (M a b)) C) (ha : a < 6) (hb : b < 6) (hab : a ≠ b) : IsC (fun i j => min 100000 (bM M a b i j)) (bd C a b) := IsC_m (bd_C ha hb hab hC) (fun i j _ _ => bM_cap (by decide) i j)
theorem kept_same (hW : PW W 100000 r t β (CF β (nI 0))) (hV : PW V 1000000 r t β (CF β (nI 0))) (hr : ∀ k, k < 36 → r k ≤ 99) (hm : m ≤ 999) : kq (fw W 6) m = mq V m := by
  have dV := PW_d hV
  have hC : IsC (fun a b => min 100000 (V a b)) (fw W 6) := IsC_m (fw_C (PW_d hW)) (fun a b ha hb => PW_fun hW hV (by decide) hr (by decide) a b ha hb)
  have e0 : exc (fw W 6) m = exc (fw V 6) m := kept_b hC dV hm
  have e1 : ∀ k, k < 15 → fb1 (fw W 6) m k = F1 V m (cod k) := fun k hk => by
    obtain ⟨-, -, t3, t4, t5, t6⟩ := tab_k k hk
    unfold fb1 F1
    rw [kept_b (kept_s hC t3 t4 (by omega)) (bM_d (by omega) dV) hm, decide_eq_true t5, Bool.true_and]
  have e2 : ∀ k, k < 15 → ∀ k2, k2 < 15 → fb2 (fw W 6) m k k2 = F2 V m (cod k) (cod k2) := fun k hk k2 hk2 => by
    obtain ⟨-, -, t3, t4, t5, t6⟩ := tab_k k hk
    obtain ⟨-, -, u3, u4, u5, u6⟩ := tab_k k2 hk2
    unfold fb2 F2
    rw [kept_b (kept_s (kept_s hC t3 t4 (by omega)) u3 u4 (by omega)) (bM_d (by omega) (bM_d (by omega) dV)) hm, decide_eq_true u5, Bool.true_and]
  have e3 : ∀ k, k < 15 → G2 V m (cod k) = (gb2 (fw W 6) m k).map cod := fun k hk => by
    obtain ⟨-, -, t3, t4, t5, t6⟩ := tab_k k hk
    unfold G2 gb2
    rw [if_pos t5, show cod k + 1 = stt (k + 1) from (stt_s k hk).symm, show 35 - cod k = 36 - stt (k + 1) by rw [stt_s k hk]; omega]
    rw [F_all (F := F2 V m (cod k)) (fun c h1 h2 => by unfold F2; rw [decide_eq_false h2]; rfl) (14 - k) (k + 1) (by omega)]
    congr 1
    exact firstF_cong _ _ (fun j h1 h2 => (e2 k hk j (by omega)).symm)
  have s0 : stt 0 = 0 := rfl
  have h1 := F_all (F := F1 V m) (fun c h1 h2 => by unfold F1; rw [decide_eq_false h2]; rfl) 15 0 rfl
  rw [s0, Nat.sub_zero] at h1
  have h2 := O_all (G := G2 V m) (fun c h1 h2 => by unfold G2; rw [if_neg h2]) 15 0 rfl
  rw [s0, Nat.sub_zero] at h2
  have h3 : firstF (fun k => F1 V m (cod k)) 15 0 = firstF (fb1 (fw W 6) m) 15 0 := firstF_cong _ _ (fun j a1 a2 => (e1 j (by omega)).symm)
  have h4 : firstO (fun k => G2 V m (cod k)) 15 0 = firstO (fun k => (gb2 (fw W 6) m k).map cod) 15 0 := firstO_cong 15 0 (fun j a1 a2 => e3 j (by omega))
  rw [h3] at h1
  rw [h4, firstO_map cod, Option.map_map] at h2
  unfold kq mq
  rw [e0, h1, h2]
  rfl
end KP4
