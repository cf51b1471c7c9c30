section MCR
variable {d N : Nat} {I J : sm_Im} {L : sm_Lm} {P : sm_Pm} {sw : Bool} {x y z u v v1 v2 : Int32} {a b m n q i j p k c s w o S K : Nat} {A t : Nat → Nat} {κ : Nat → Nat → Nat}
theorem bitV (hs : s < 2147483648) (hk : k < 32) : (nI s >>> (nI k &&& 31)) &&& nI 1 = nI (if s.testBit k = true then 1 else 0) := by
  have : s / 2 ^ k ≤ s := Nat.div_le_self _ _
  rw [shrN hs hk, and1 _ (by omega), tb_div]
theorem m_lp_1 (hS : S < 256) (h0 : 0 < S) : ∀ (g i : Nat), i + g = lo S → ∀ (l0 l1 l2 l6 l7 : Option Value), sm_at (sm_ex d) none 198 27 [l0, l1, l2, some (.int (nI S)), some (.int v), some (.int (nI i)), l6, l7] [] 81 J L (pX sw) = sm_at (sm_ex d) none 198 42 [l0, l1, l2, some (.int (nI S)), some (.int v), some (.int (nI (lo S))), l6, l7] [] 81 J L (pX sw) := by
  obtain ⟨a1, a2, a3⟩ := lo_ok S hS h0
  intro g
  induction g with
  | zero =>
    intro i hi l0 l1 l2 l6 l7
    obtain rfl : i = lo S := by omega
    have e := bitV (s := S) (k := lo S) (by omega) (by omega)
    rw [if_pos a1] at e
    rw [s198_27]
    simp (discharger := first | omega | decide) only [s198_0, s198_1, s198_2, s198_3, s198_4, s198_7, s198_8, s198_9, s198_10, s198_11, s198_12, s198_15, s198_16, s198_17, s198_21, s198_24, s198_25, s198_28, s198_30, s198_31, s198_32, s198_33, s198_36, s198_39, s198_43, s198_44, s198_46, s198_47, s198_48, s198_49, s198_50, s198_52, s198_53, s198_55, s198_56, s198_58, s198_59, s198_60, s198_62, s198_63, s198_64, s198_67, s198_69, s198_70, s198_71, s198_72, s198_75, s198_77, s198_80, s198_82, s198_83, s198_85, s198_86, s198_87, s198_88, s198_89, s198_91, s198_94, s198_97, s198_98, s198_99, s198_101, s198_102, s198_103, s198_104, s198_105, s198_108, s198_110, s198_112, s198_113, s198_114, s198_117, s198_119, s198_121, s198_122, s198_125, s198_128, ltI, geL, leL, not_true_eq_false, not_false_eq_true, if_true, if_false, and_self, and_true, true_and, and_false, false_and, or_self, or_true, true_or, or_false, false_or, bo_T, bo_F, bo_e0, nI10, nI00, nI11, nI01, bo_e1, nem, eqL, af_v, af_0, rf_s, rf_n, nn, ite_self, e]
  | succ g ih =>
    intro i hi l0 l1 l2 l6 l7
    have e := bitV (s := S) (k := i) (by omega) (by omega)
    rw [a3 i (by omega) (by omega), if_neg (by decide)] at e
    rw [s198_27]
    simp (discharger := first | omega | decide) only [s198_0, s198_1, s198_2, s198_3, s198_4, s198_7, s198_8, s198_9, s198_10, s198_11, s198_12, s198_15, s198_16, s198_17, s198_21, s198_24, s198_25, s198_28, s198_30, s198_31, s198_32, s198_33, s198_36, s198_39, s198_43, s198_44, s198_46, s198_47, s198_48, s198_49, s198_50, s198_52, s198_53, s198_55, s198_56, s198_58, s198_59, s198_60, s198_62, s198_63, s198_64, s198_67, s198_69, s198_70, s198_71, s198_72, s198_75, s198_77, s198_80, s198_82, s198_83, s198_85, s198_86, s198_87, s198_88, s198_89, s198_91, s198_94, s198_97, s198_98, s198_99, s198_101, s198_102, s198_103, s198_104, s198_105, s198_108, s198_110, s198_112, s198_113, s198_114, s198_117, s198_119, s198_121, s198_122, s198_125, s198_128, ltI, geL, leL, not_true_eq_false, not_false_eq_true, if_true, if_false, and_self, and_true, true_and, and_false, false_and, or_self, or_true, true_or, or_false, false_or, bo_T, bo_F, bo_e0, nI10, nI00, nI11, nI01, bo_e1, nem, eqL, af_v, af_0, rf_s, rf_n, nn, ite_self, e, addN, sm_cl]
    exact ih (i + 1) (by omega) _ _ _ _ _
theorem pop_up (s i : Nat) : ∀ j, pop s i ≤ pop s (i + j) := by
  intro j
  induction j with
  | zero => exact Nat.le_refl _
  | succ j ih => rw [show i + (j + 1) = (i + j) + 1 by omega, pop_s]; omega
theorem m_lp_2 (hS : S < 256) (ho : o < 8) (hb : S.testBit o = true) (hK : pop S o = K) : ∀ (g i : Nat), i + g = o → ∀ (l0 l1 l2 l4 : Option Value), sm_at (sm_ex d) none 198 66 [l0, l1, l2, some (.int (nI S)), l4, some (.int v), some (.int (nI (K - pop S i))), some (.int (nI i))] [] 81 J L (pX sw) = sm_at (sm_ex d) none 198 97 [l0, l1, l2, some (.int (nI S)), l4, some (.int v), some (.int (nI 0)), some (.int (nI o))] [] 81 J L (pX sw) := by
  have hK8 := pop_le S o
  intro g
  induction g with
  | zero =>
    intro i hi l0 l1 l2 l4
    obtain rfl : i = o := by omega
    have e := bitV (s := S) (k := i) (by omega) (by omega)
    rw [if_pos hb] at e
    have e0 : (nI 0 ≤ 0) = True := by decide
    rw [hK, Nat.sub_self, s198_66]
    simp (discharger := first | omega | decide) only [s198_0, s198_1, s198_2, s198_3, s198_4, s198_7, s198_8, s198_9, s198_10, s198_11, s198_12, s198_15, s198_16, s198_17, s198_21, s198_24, s198_25, s198_28, s198_30, s198_31, s198_32, s198_33, s198_36, s198_39, s198_42, s198_43, s198_44, s198_46, s198_47, s198_48, s198_49, s198_50, s198_52, s198_53, s198_55, s198_56, s198_58, s198_59, s198_60, s198_62, s198_63, s198_64, s198_67, s198_69, s198_70, s198_71, s198_72, s198_75, s198_77, s198_80, s198_82, s198_83, s198_85, s198_86, s198_87, s198_88, s198_89, s198_91, s198_94, s198_98, s198_99, s198_101, s198_102, s198_103, s198_104, s198_105, s198_108, s198_110, s198_112, s198_113, s198_114, s198_117, s198_119, s198_121, s198_122, s198_125, s198_128, ltI, geL, leL, not_true_eq_false, not_false_eq_true, if_true, if_false, and_self, and_true, true_and, and_false, false_and, or_self, or_true, true_or, or_false, false_or, bo_T, bo_F, bo_e0, nI10, nI00, nI11, nI01, bo_e1, nem, eqL, af_v, af_0, rf_s, rf_n, nn, ite_self, e, e0]
  | succ g ih =>
    intro i hi l0 l1 l2 l4
    have e := bitV (s := S) (k := i) (by omega) (by omega)
    have hpi := pop_s S i
    have hup := pop_up S (i + 1) g
    rw [show i + 1 + g = o by omega, hK] at hup
    have := ih (i + 1) (by omega) l0 l1 l2 l4
    rw [hpi] at this
    rw [s198_66]
    by_cases b : S.testBit i = true
    · rw [if_pos b] at e this hpi
      have e1 : (nI (K - pop S i) ≤ 0) = False := by rw [le00 (by omega)]; exact eq_false (by omega)
      have e2 : nI (K - pop S i) - nI 1 = nI (K - (pop S i + 1)) := by rw [subN (by omega)]; congr 1
      simp (discharger := first | omega | decide) only [s198_0, s198_1, s198_2, s198_3, s198_4, s198_7, s198_8, s198_9, s198_10, s198_11, s198_12, s198_15, s198_16, s198_17, s198_21, s198_24, s198_25, s198_28, s198_30, s198_31, s198_32, s198_33, s198_36, s198_39, s198_42, s198_43, s198_44, s198_46, s198_47, s198_48, s198_49, s198_50, s198_52, s198_53, s198_55, s198_56, s198_58, s198_59, s198_60, s198_62, s198_63, s198_64, s198_67, s198_69, s198_70, s198_71, s198_72, s198_75, s198_77, s198_80, s198_82, s198_83, s198_85, s198_86, s198_87, s198_88, s198_89, s198_91, s198_94, s198_98, s198_99, s198_101, s198_102, s198_103, s198_104, s198_105, s198_108, s198_110, s198_112, s198_113, s198_114, s198_117, s198_119, s198_121, s198_122, s198_125, s198_128, ltI, geL, leL, not_true_eq_false, not_false_eq_true, if_true, if_false, and_self, and_true, true_and, and_false, false_and, or_self, or_true, true_or, or_false, false_or, bo_T, bo_F, bo_e0, nI10, nI00, nI11, nI01, bo_e1, nem, eqL, af_v, af_0, rf_s, rf_n, nn, ite_self, e, e1, e2, addN, sm_cl]
      exact this
    · rw [if_neg b] at e this hpi
      have e2 : nI (K - pop S i) - nI 0 = nI (K - (pop S i + 0)) := by rw [subN (by omega)]; congr 1
      simp (discharger := first | omega | decide) only [s198_0, s198_1, s198_2, s198_3, s198_4, s198_7, s198_8, s198_9, s198_10, s198_11, s198_12, s198_15, s198_16, s198_17, s198_21, s198_24, s198_25, s198_28, s198_30, s198_31, s198_32, s198_33, s198_36, s198_39, s198_42, s198_43, s198_44, s198_46, s198_47, s198_48, s198_49, s198_50, s198_52, s198_53, s198_55, s198_56, s198_58, s198_59, s198_60, s198_62, s198_63, s198_64, s198_67, s198_69, s198_70, s198_71, s198_72, s198_75, s198_77, s198_80, s198_82, s198_83, s198_85, s198_86, s198_87, s198_88, s198_89, s198_91, s198_94, s198_98, s198_99, s198_101, s198_102, s198_103, s198_104, s198_105, s198_108, s198_110, s198_112, s198_113, s198_114, s198_117, s198_119, s198_121, s198_122, s198_125, s198_128, ltI, geL, leL, not_true_eq_false, not_false_eq_true, if_true, if_false, and_self, and_true, true_and, and_false, false_and, or_self, or_true, true_or, or_false, false_or, bo_T, bo_F, bo_e0, nI10, nI00, nI11, nI01, bo_e1, nem, eqL, af_v, af_0, rf_s, rf_n, nn, ite_self, e, e2, addN, sm_cl]
      exact this
def mo (m : Nat) : Int32 := match m with
  | 0 => -1
  | m + 1 => nI (2 * m + 1)
theorem mo_s (m : Nat) (h : m < 5) : nI (2 * m + 1) + -2 = mo m := by
  have : ∀ m, m < 5 → nI (2 * m + 1) + -2 = mo m := by decide
  exact this m h
theorem pop_lo : ∀ S, S < 256 → 0 < S → pop (s1 S) (lo S + 1) = 0 := by decide +kernel
set_option maxHeartbeats 4000000 in
theorem m_lp : ∀ (m S c : Nat) (J : sm_Im) (l5 l6 l7 : Option Value), S < 256 → pop S 8 = 2 * m → c < 2147483648 → ∃ J1 : sm_Im, (∀ r, r ≠ 75 → J1 r = J r) ∧ (∀ x, x < 8 → S.testBit x = true → J1 75 x = nI (tw m S c x)) ∧ (∀ x, x < 8 → S.testBit x = false → J1 75 x = J 75 x) ∧ sm_at (sm_ex d) none 198 19 [some (.ref 63), some (.int v1), some (.int (nI c)), some (.int (nI S)), some (.int (mo m)), l5, l6, l7] [] 81 J L (pX sw) = some (none, 81, J1, L, pX sw) := by
  intro m
  induction m with
  | zero =>
    intro S c J l5 l6 l7 hS hp hc
    obtain rfl := pop8_0 S hS hp
    have e0 : (mo 0 ≤ 0) = True := by decide
    refine ⟨J, fun r _ => rfl, fun x _ h => (by rw [Nat.zero_testBit] at h; cases h), fun x _ _ => rfl, ?_⟩
    rw [s198_19]
    simp (discharger := first | omega | decide) only [s198_0, s198_1, s198_2, s198_3, s198_4, s198_7, s198_8, s198_9, s198_10, s198_11, s198_12, s198_15, s198_16, s198_17, s198_21, s198_24, s198_25, s198_28, s198_30, s198_31, s198_32, s198_33, s198_36, s198_39, s198_42, s198_43, s198_44, s198_46, s198_47, s198_48, s198_49, s198_50, s198_52, s198_53, s198_55, s198_56, s198_58, s198_59, s198_60, s198_62, s198_63, s198_64, s198_67, s198_69, s198_70, s198_71, s198_72, s198_75, s198_77, s198_80, s198_82, s198_83, s198_85, s198_86, s198_87, s198_88, s198_89, s198_91, s198_94, s198_97, s198_98, s198_99, s198_101, s198_102, s198_103, s198_104, s198_105, s198_108, s198_110, s198_112, s198_113, s198_114, s198_117, s198_119, s198_121, s198_122, s198_125, s198_128, ltI, geL, leL, not_true_eq_false, not_false_eq_true, if_true, if_false, and_self, and_true, true_and, and_false, false_and, or_self, or_true, true_or, or_false, false_or, bo_T, bo_F, bo_e0, nI10, nI00, nI11, nI01, bo_e1, nem, eqL, af_v, af_0, rf_s, rf_n, nn, ite_self, e0]
  | succ m ih =>
    intro S c J l5 l6 l7 hS hp hc
    have hp8 := pop_le S 8
    obtain ⟨a1, a2, a3, a4, a5, a6⟩ := s1_ok hS hp
    have h0 : 0 < S := by
      rcases Nat.eq_zero_or_pos S with e | e
      · subst e; revert hp; rw [show pop 0 8 = 0 from rfl]; omega
      · exact e
    obtain ⟨-, r2, -, -⟩ := rm_ok S hS (lo S) a2 a1
    have hK : c % (2 * m + 1) < 2 * m + 1 := Nat.mod_lt _ (by omega)
    obtain ⟨k1, k2, k3⟩ := ot_ok (s1 S) a3 (c % (2 * m + 1)) (by omega) (by omega)
    obtain ⟨b1, b2, b3, b4, b5⟩ := s2_ok hS hp k3 k1
    obtain ⟨-, r3, -, -⟩ := rm_ok (s1 S) a3 _ k3 k1
    have hlt := a6 _ k3 k1
    have tws : ∀ x, tw (m + 1) S c x = if x = lo S then ot (s1 S) (c % (2 * m + 1)) else if x = ot (s1 S) (c % (2 * m + 1)) then lo S else tw m (s1 S - 2 ^ ot (s1 S) (c % (2 * m + 1))) (c / (2 * m + 1)) x := fun x => by rw [tw]
    have hdv : c / (2 * m + 1) ≤ c := Nat.div_le_self _ _
    have f1 := m_lp_1 (d := d) (J := J) (L := L) (sw := sw) (v := nI (2 * m + 1)) hS h0 (lo S) 0 (Nat.zero_add _)
    have f2 := m_lp_2 (d := d) (J := J) (L := L) (sw := sw) (v := nI (lo S)) a3 k3 k1 k2 (ot (s1 S) (c % (2 * m + 1)) - (lo S + 1)) (lo S + 1) (by omega)
    rw [pop_lo S hS h0, Nat.sub_zero] at f2
    generalize ho : ot (s1 S) (c % (2 * m + 1)) = o at *
    obtain ⟨J1, g1, g2, g3, g4⟩ := ih (s1 S - 2 ^ o) (c / (2 * m + 1)) (sm_up (sm_up J 75 (lo S) (nI o)) 75 o (nI (lo S))) (some (.int (nI (lo S)))) (some (.int (nI 0))) (some (.int (nI o))) b1 b2 (by omega)
    have e0 : (nI (2 * m + 1) ≤ 0) = False := by rw [le00 (by omega)]; exact eq_false (by omega)
    have em : mo (m + 1) = nI (2 * m + 1) := rfl
    have e1 := sh1 (show lo S ≤ 16 by omega)
    have e2 := sh1 (show o ≤ 16 by omega)
    have e3 : nI S - nI (2 ^ lo S) = nI (s1 S) := by rw [subN r2]; rfl
    have e4 : nI (s1 S) - nI (2 ^ o) = nI (s1 S - 2 ^ o) := subN r3
    have e5 : nI c - nI c / nI (2 * m + 1) * nI (2 * m + 1) = nI (c % (2 * m + 1)) := remN hc (by omega) (by omega)
    have e6 : nI c / nI (2 * m + 1) = nI (c / (2 * m + 1)) := divN hc (by omega) (by omega)
    rw [e6] at e5
    have e7 := mo_s m (by omega)
    have z : ¬ nI (2 * m + 1) = 0 := by rw [zI_0, eqN (by omega) (by decide)]; omega
    refine ⟨J1, fun r hr => by rw [g1 r hr, up_row hr, up_row hr], fun x hx hb => ?_, fun x hx hb => ?_, ?_⟩
    · rw [tws]
      by_cases q1 : x = lo S
      · rw [if_pos q1, g3 x hx (by rw [b5 x hx, decide_eq_true q1]; simp), q1, up_cell (fun q => b4 q.2.symm), up_same]
      · rw [if_neg q1]
        by_cases q2 : x = o
        · rw [if_pos q2, g3 x hx (by rw [b5 x hx, decide_eq_true q2]; simp), q2, up_same]
        · rw [if_neg q2]
          exact g2 x hx (by rw [b5 x hx, hb, decide_eq_false q1, decide_eq_false q2]; rfl)
    · have q1 : ¬ x = lo S := fun q => by rw [q, a1] at hb; cases hb
      have q2 : ¬ x = o := fun q => by rw [q, b3] at hb; cases hb
      rw [g3 x hx (by rw [b5 x hx, hb]; rfl), up_cell (fun q => q2 q.2), up_cell (fun q => q1 q.2)]
    · rw [s198_19]
      simp (discharger := first | omega | decide) only [s198_0, s198_1, s198_2, s198_3, s198_4, s198_7, s198_8, s198_9, s198_10, s198_11, s198_12, s198_15, s198_16, s198_17, s198_21, s198_24, s198_25, s198_28, s198_30, s198_31, s198_32, s198_33, s198_36, s198_39, s198_42, s198_43, s198_44, s198_46, s198_47, s198_48, s198_49, s198_50, s198_52, s198_53, s198_55, s198_56, s198_58, s198_59, s198_60, s198_62, s198_63, s198_64, s198_67, s198_69, s198_70, s198_71, s198_72, s198_75, s198_77, s198_80, s198_82, s198_83, s198_85, s198_86, s198_87, s198_88, s198_89, s198_91, s198_94, s198_97, s198_98, s198_99, s198_101, s198_102, s198_103, s198_104, s198_105, s198_108, s198_110, s198_112, s198_113, s198_114, s198_117, s198_119, s198_121, s198_122, s198_125, s198_128, ltI, geL, leL, not_true_eq_false, not_false_eq_true, if_true, if_false, and_self, and_true, true_and, and_false, false_and, or_self, or_true, true_or, or_false, false_or, bo_T, bo_F, bo_e0, nI10, nI00, nI11, nI01, bo_e1, nem, eqL, af_v, af_0, rf_s, rf_n, nn, ite_self, e0, sm_cl, em]
      rw [f1]
      simp (discharger := first | assumption | omega | decide) only [s198_0, s198_1, s198_2, s198_3, s198_4, s198_7, s198_8, s198_9, s198_10, s198_11, s198_12, s198_15, s198_16, s198_17, s198_21, s198_24, s198_25, s198_28, s198_30, s198_31, s198_32, s198_33, s198_36, s198_39, s198_42, s198_43, s198_44, s198_46, s198_47, s198_48, s198_49, s198_50, s198_52, s198_53, s198_55, s198_56, s198_58, s198_59, s198_60, s198_62, s198_63, s198_64, s198_67, s198_69, s198_70, s198_71, s198_72, s198_75, s198_77, s198_80, s198_82, s198_83, s198_85, s198_86, s198_87, s198_88, s198_89, s198_91, s198_94, s198_97, s198_98, s198_99, s198_101, s198_102, s198_103, s198_104, s198_105, s198_108, s198_110, s198_112, s198_113, s198_114, s198_117, s198_119, s198_121, s198_122, s198_125, s198_128, ltI, geL, leL, not_true_eq_false, not_false_eq_true, if_true, if_false, and_self, and_true, true_and, and_false, false_and, or_self, or_true, true_or, or_false, false_or, bo_T, bo_F, bo_e0, nI10, nI00, nI11, nI01, bo_e1, nem, eqL, af_v, af_0, rf_s, rf_n, nn, ite_self, e1, e3, e5, e6, addN, sm_cl]
      rw [f2]
      simp (discharger := (first | omega | decide | assumption | exact rg_lt | exact rg_ly | (simp only [ly63, p63_0, p63_1, p63_2, p63_7, p63_10, p63_11, p63_13, p63_14, p63_16, p63_18, p63_22, p63_23, p63_24, p63_30, p63_31, p63_32, p63_33, ly75, al75]; omega))) only [s198_0, s198_1, s198_2, s198_3, s198_4, s198_7, s198_8, s198_9, s198_10, s198_11, s198_12, s198_15, s198_16, s198_17, s198_21, s198_24, s198_25, s198_28, s198_30, s198_31, s198_32, s198_33, s198_36, s198_39, s198_42, s198_43, s198_44, s198_46, s198_47, s198_48, s198_49, s198_50, s198_52, s198_53, s198_55, s198_56, s198_58, s198_59, s198_60, s198_62, s198_63, s198_64, s198_67, s198_69, s198_70, s198_71, s198_72, s198_75, s198_77, s198_80, s198_82, s198_83, s198_85, s198_86, s198_87, s198_88, s198_89, s198_91, s198_94, s198_97, s198_98, s198_99, s198_101, s198_102, s198_103, s198_104, s198_105, s198_108, s198_110, s198_112, s198_113, s198_114, s198_117, s198_119, s198_121, s198_122, s198_125, s198_128, ltI, geL, leL, not_true_eq_false, not_false_eq_true, if_true, if_false, and_self, and_true, true_and, and_false, false_and, or_self, or_true, true_or, or_false, false_or, bo_T, bo_F, bo_e0, nI10, nI00, nI11, nI01, bo_e1, nem, eqL, af_v, af_0, rf_s, rf_n, nn, ite_self, ly63, p63_0, p63_1, p63_2, p63_7, p63_10, p63_11, p63_13, p63_14, p63_16, p63_18, p63_22, p63_23, p63_24, p63_30, p63_31, p63_32, p63_33, ly75, al75, e2, e4, e7, sm_cl]
      exact g4
theorem mo_n (h : n4 n) : nI n - nI 1 = mo (n / 2) := by rcases h with rfl | rfl | rfl | rfl <;> decide
theorem m_layPairing (hn : n4 n) (h : I 63 19 = nI n) (hc : c < 1000) : ∃ J1 : sm_Im, (∀ r, r ≠ 75 → J1 r = I r) ∧ (∀ x, x < n → J1 75 x = nI (tw (n / 2) (2 ^ n - 1) c x)) ∧ sm_ex (d + 1) 198 [.ref 63, .int (nI c)] 81 I L (pX sw) = some (none, 81, J1, L, pX sw) := by
  have nk := n4_ok hn
  obtain ⟨J1, g1, g2, g3, g4⟩ := m_lp (d := d) (L := L) (sw := sw) (v1 := nI c) (n / 2) (2 ^ n - 1) c I none none none (by omega) nk.2.2.2.2.2.1 (by omega)
  refine ⟨J1, g1, fun x hx => g2 x (by omega) ((all_tb _ _).mpr hx), ?_⟩
  have e1 := sh1 (show n ≤ 16 by omega)
  have e2 : nI (2 ^ n) - nI 1 = nI (2 ^ n - 1) := subN (by omega)
  rw [e198]
  simp (discharger := (first | omega | decide | assumption | exact rg_lt | exact rg_ly | (simp only [ly63, p63_0, p63_1, p63_2, p63_7, p63_10, p63_11, p63_13, p63_14, p63_16, p63_18, p63_22, p63_23, p63_24, p63_30, p63_31, p63_32, p63_33]; omega))) only [s198_0, s198_1, s198_2, s198_3, s198_4, s198_7, s198_8, s198_9, s198_10, s198_11, s198_12, s198_15, s198_16, s198_17, s198_21, s198_24, s198_25, s198_28, s198_30, s198_31, s198_32, s198_33, s198_36, s198_39, s198_42, s198_43, s198_44, s198_46, s198_47, s198_48, s198_49, s198_50, s198_52, s198_53, s198_55, s198_56, s198_58, s198_59, s198_60, s198_62, s198_63, s198_64, s198_67, s198_69, s198_70, s198_71, s198_72, s198_75, s198_77, s198_80, s198_82, s198_83, s198_85, s198_86, s198_87, s198_88, s198_89, s198_91, s198_94, s198_97, s198_98, s198_99, s198_101, s198_102, s198_103, s198_104, s198_105, s198_108, s198_110, s198_112, s198_113, s198_114, s198_117, s198_119, s198_121, s198_122, s198_125, s198_128, ltI, geL, leL, not_true_eq_false, not_false_eq_true, if_true, if_false, and_self, and_true, true_and, and_false, false_and, or_self, or_true, true_or, or_false, false_or, bo_T, bo_F, bo_e0, nI10, nI00, nI11, nI01, bo_e1, nem, eqL, af_v, af_0, rf_s, rf_n, nn, ite_self, ly63, p63_0, p63_1, p63_2, p63_7, p63_10, p63_11, p63_13, p63_14, p63_16, p63_18, p63_22, p63_23, p63_24, p63_30, p63_31, p63_32, p63_33, h, e1, e2, mo_n hn, sm_cl]
  exact g4
def bdS (κ : Nat → Nat → Nat) (t : Nat → Nat) (k : Nat) : Bool := !(κ 2 k).testBit (t (κ 1 k))
theorem m_isSo_loop (Rr : RCM J κ) (O : COk κ) (hT : ∀ x, x < κ 0 0 → J 75 x = nI (t x) ∧ t x < 8) : ∀ (g i : Nat), i + g = κ 0 1 → sm_at (sm_ex d) none 199 4 [some (.ref 63), some (.int (bo (anyN (bdS κ t) i = false))), some (.int (nI i))] [] 81 J L (pX sw) = some (some (.int (bo (anyN (bdS κ t) (κ 0 1) = false))), 81, J, L, pX sw) := by
  obtain ⟨R1, R2, R3⟩ := Rr
  obtain ⟨O1, O2, O3⟩ := O
  have nk := n4_ok O1
  intro g
  induction g with
  | zero =>
    intro i hi
    obtain rfl : i = κ 0 1 := by omega
    have hbo := bo_01 (anyN (bdS κ t) (κ 0 1) = false)
    rw [s199_4]
    simp (discharger := (first | omega | decide | assumption | exact rg_lt | exact rg_ly | (simp only [ly63, p63_0, p63_1, p63_2, p63_7, p63_10, p63_11, p63_13, p63_14, p63_16, p63_18, p63_22, p63_23, p63_24, p63_30, p63_31, p63_32, p63_33]; omega))) only [s199_0, s199_1, s199_2, s199_3, s199_5, s199_6, s199_9, s199_12, s199_13, s199_16, s199_17, s199_20, s199_21, s199_22, s199_23, s199_24, s199_25, s199_26, s199_27, s199_30, s199_31, s199_34, s199_35, s199_36, s199_37, s199_38, s199_39, s199_40, s199_41, s199_42, s199_43, s199_46, s199_47, s199_50, s199_51, s199_52, s199_55, s199_58, s199_59, ltI, geL, leL, not_true_eq_false, not_false_eq_true, if_true, if_false, and_self, and_true, true_and, and_false, false_and, or_self, or_true, true_or, or_false, false_or, bo_T, bo_F, bo_e0, nI10, nI00, nI11, nI01, bo_e1, nem, eqL, af_v, af_0, rf_s, rf_n, nn, ite_self, ly63, p63_0, p63_1, p63_2, p63_7, p63_10, p63_11, p63_13, p63_14, p63_16, p63_18, p63_22, p63_23, p63_24, p63_30, p63_31, p63_32, p63_33, R2, Int32.le_refl]
  | succ g ih =>
    intro i hi
    have c1 : ¬ κ 0 1 ≤ i := by omega
    obtain ⟨q1, q2⟩ := R3 i (by omega)
    obtain ⟨o1, o2⟩ := O3 i (by omega)
    obtain ⟨t1, t2⟩ := hT (κ 1 i) o1
    have := ih (i + 1) (by omega)
    rw [anyN_s] at this
    have e := bitT1 (s := κ 2 i) (k := t (κ 1 i)) (by omega) (by omega)
    rw [s199_4]
    by_cases b : anyN (bdS κ t) i = true
    · rw [b, Bool.true_or] at this
      rw [b]
      have ef : (true = false) = False := by decide
      rw [bo_f (by decide)] at this ⊢
      simp (discharger := (first | omega | decide | assumption | exact rg_lt | exact rg_ly | (simp only [ly63, p63_0, p63_1, p63_2, p63_7, p63_10, p63_11, p63_13, p63_14, p63_16, p63_18, p63_22, p63_23, p63_24, p63_30, p63_31, p63_32, p63_33, ly74, al74, ly75, al75]; omega))) only [s199_0, s199_1, s199_2, s199_3, s199_5, s199_6, s199_9, s199_12, s199_13, s199_16, s199_17, s199_20, s199_21, s199_22, s199_23, s199_24, s199_25, s199_26, s199_27, s199_30, s199_31, s199_34, s199_35, s199_36, s199_37, s199_38, s199_39, s199_40, s199_41, s199_42, s199_43, s199_46, s199_47, s199_50, s199_51, s199_52, s199_55, s199_58, s199_59, ltI, geL, leL, not_true_eq_false, not_false_eq_true, if_true, if_false, and_self, and_true, true_and, and_false, false_and, or_self, or_true, true_or, or_false, false_or, bo_T, bo_F, bo_e0, nI10, nI00, nI11, nI01, bo_e1, nem, eqL, af_v, af_0, rf_s, rf_n, nn, ite_self, ly63, p63_0, p63_1, p63_2, p63_7, p63_10, p63_11, p63_13, p63_14, p63_16, p63_18, p63_22, p63_23, p63_24, p63_30, p63_31, p63_32, p63_33, ly74, al74, ly75, al75, R2, leN, c1, addN, sm_cl]
      exact this
    · have b' : anyN (bdS κ t) i = false := Bool.eq_false_iff.mpr b
      rw [b', Bool.false_or] at this
      rw [b']
      rw [bo_t rfl]
      by_cases c2 : (κ 2 i).testBit (t (κ 1 i)) = true
      · have c3 : bdS κ t i = false := by unfold bdS; rw [c2]; rfl
        rw [c3, bo_t rfl] at this
        simp (discharger := (first | omega | decide | assumption | exact rg_lt | exact rg_ly | (simp only [ly63, p63_0, p63_1, p63_2, p63_7, p63_10, p63_11, p63_13, p63_14, p63_16, p63_18, p63_22, p63_23, p63_24, p63_30, p63_31, p63_32, p63_33, ly74, al74, ly75, al75]; omega))) only [s199_0, s199_1, s199_2, s199_3, s199_5, s199_6, s199_9, s199_12, s199_13, s199_16, s199_17, s199_20, s199_21, s199_22, s199_23, s199_24, s199_25, s199_26, s199_27, s199_30, s199_31, s199_34, s199_35, s199_36, s199_37, s199_38, s199_39, s199_40, s199_41, s199_42, s199_43, s199_46, s199_47, s199_50, s199_51, s199_52, s199_55, s199_58, s199_59, ltI, geL, leL, not_true_eq_false, not_false_eq_true, if_true, if_false, and_self, and_true, true_and, and_false, false_and, or_self, or_true, true_or, or_false, false_or, bo_T, bo_F, bo_e0, nI10, nI00, nI11, nI01, bo_e1, nem, eqL, af_v, af_0, rf_s, rf_n, nn, ite_self, ly63, p63_0, p63_1, p63_2, p63_7, p63_10, p63_11, p63_13, p63_14, p63_16, p63_18, p63_22, p63_23, p63_24, p63_30, p63_31, p63_32, p63_33, ly74, al74, ly75, al75, R2, leN, c1, addN, mulN, q1, q2, t1, e, c2, sm_cl]
        exact this
      · have c3 : bdS κ t i = true := by unfold bdS; rw [Bool.eq_false_iff.mpr c2]; rfl
        rw [c3, bo_f (by decide)] at this
        simp (discharger := (first | omega | decide | assumption | exact rg_lt | exact rg_ly | (simp only [ly63, p63_0, p63_1, p63_2, p63_7, p63_10, p63_11, p63_13, p63_14, p63_16, p63_18, p63_22, p63_23, p63_24, p63_30, p63_31, p63_32, p63_33, ly74, al74, ly75, al75]; omega))) only [s199_0, s199_1, s199_2, s199_3, s199_5, s199_6, s199_9, s199_12, s199_13, s199_16, s199_17, s199_20, s199_21, s199_22, s199_23, s199_24, s199_25, s199_26, s199_27, s199_30, s199_31, s199_34, s199_35, s199_36, s199_37, s199_38, s199_39, s199_40, s199_41, s199_42, s199_43, s199_46, s199_47, s199_50, s199_51, s199_52, s199_55, s199_58, s199_59, ltI, geL, leL, not_true_eq_false, not_false_eq_true, if_true, if_false, and_self, and_true, true_and, and_false, false_and, or_self, or_true, true_or, or_false, false_or, bo_T, bo_F, bo_e0, nI10, nI00, nI11, nI01, bo_e1, nem, eqL, af_v, af_0, rf_s, rf_n, nn, ite_self, ly63, p63_0, p63_1, p63_2, p63_7, p63_10, p63_11, p63_13, p63_14, p63_16, p63_18, p63_22, p63_23, p63_24, p63_30, p63_31, p63_32, p63_33, ly74, al74, ly75, al75, R2, leN, c1, addN, mulN, q1, q2, t1, e, c2, sm_cl, Bool.false_eq_true]
        exact this
theorem m_isSo (Rr : RCM J κ) (O : COk κ) (hT : ∀ x, x < κ 0 0 → J 75 x = nI (t x) ∧ t x < 8) : sm_ex (d + 1) 199 [.ref 63] 81 J L (pX sw) = some (some (.int (bo (anyN (bdS κ t) (κ 0 1) = false))), 81, J, L, pX sw) := by
  rw [e199]
  simp only [s199_0, s199_1, s199_2, s199_3, s199_5, s199_6, s199_9, s199_12, s199_13, s199_16, s199_17, s199_20, s199_21, s199_22, s199_23, s199_24, s199_25, s199_26, s199_27, s199_30, s199_31, s199_34, s199_35, s199_36, s199_37, s199_38, s199_39, s199_40, s199_41, s199_42, s199_43, s199_46, s199_47, s199_50, s199_51, s199_52, s199_55, s199_58, s199_59, ltI, geL, leL, not_true_eq_false, not_false_eq_true, if_true, if_false, and_self, and_true, true_and, and_false, false_and, or_self, or_true, true_or, or_false, false_or, bo_T, bo_F, bo_e0, nI10, nI00, nI11, nI01, bo_e1, nem, eqL, af_v, af_0, rf_s, rf_n, nn, ite_self, sm_cl]
  have := m_isSo_loop (d := d) (L := L) (sw := sw) Rr O hT (κ 0 1) 0 (Nat.zero_add _)
  rw [show anyN (bdS κ t) 0 = false from rfl, bo_t rfl] at this
  exact this
theorem so_vd (O : COk κ) (c : Nat) : (anyN (bdS κ (tw (κ 0 0 / 2) (2 ^ κ 0 0 - 1) c)) (κ 0 1) = false) ↔ vd (awl κ (κ 0 1)) (κ 0 0 / 2) (2 ^ κ 0 0 - 1) c = true := by
  have nk := n4_ok O.1
  rw [vd_so _ _ _ (by omega) nk.2.2.2.2.2.1]
  constructor
  · intro h x hx hb
    have hi := tw_in (κ 0 0 / 2) (2 ^ κ 0 0 - 1) c (by omega) nk.2.2.2.2.2.1 x hx hb
    rw [awl_tb O]
    refine ⟨(all_tb _ _).mp hi.2, fun k hk hx' => ?_⟩
    rcases Bool.eq_false_or_eq_true ((κ 2 k).testBit (tw (κ 0 0 / 2) (2 ^ κ 0 0 - 1) c x)) with e | e
    · exact e
    · have : anyN (bdS κ (tw (κ 0 0 / 2) (2 ^ κ 0 0 - 1) c)) (κ 0 1) = true := anyN_t (i := k) (by unfold bdS; rw [hx', e]; rfl) _ hk
      rw [h] at this; cases this
  · intro h
    apply Bool.eq_false_iff.mpr
    intro q
    obtain ⟨k, hk, hb⟩ := anyN_ex q
    have ok := O.2.2 k hk
    have := (awl_tb O _ _ _).mp (h (κ 1 k) (by omega) ((all_tb _ _).mpr ok.1))
    have := this.2 k hk rfl
    unfold bdS at hb
    rw [this] at hb
    cases hb
theorem RCM_c (h : ∀ r, r ≠ 75 → r ≠ 76 → J r = I r) (R : RCM I κ) : RCM J κ := by
  unfold RCM
  rw [h 63 (by decide) (by decide), h 74 (by decide) (by decide)]
  exact R
theorem m_po_3 (hn : n ≤ 8) (h19 : I 63 19 = nI n) (hT : ∀ x, x < n → I 75 x = nI (t x) ∧ t x < 8) (hA : ∀ x, x < n → A x < 256) {l1 l2 l3 : Int32} : ∀ (g k : Nat), k + g = n → ∀ (J : sm_Im), (∀ r, r ≠ 76 → J r = I r) → (∀ x, x < n → J 76 x = nI (if x < k then A x ||| 2 ^ t x else A x)) → ∃ J1 : sm_Im, (∀ r, r ≠ 76 → J1 r = I r) ∧ (∀ x, x < n → J1 76 x = nI (A x ||| 2 ^ t x)) ∧ sm_at (sm_ex d) none 200 89 [some (.ref 63), some (.int l1), some (.int l2), some (.int l3), some (.int (nI k))] [] 81 J L (pX sw) = sm_at (sm_ex d) none 200 123 [some (.ref 63), some (.int l1), some (.int l2), some (.int l3), some (.int (nI n))] [] 81 J1 L (pX sw) := by
  intro g
  induction g with
  | zero =>
    intro k hk J hJ h
    obtain rfl : k = n := by omega
    refine ⟨J, hJ, fun x hx => by rw [h x hx, if_pos hx], ?_⟩
    have r1 : J 63 19 = nI k := by rw [hJ 63 (by decide)]; exact h19
    rw [s200_89]
    simp (discharger := (first | omega | decide | assumption | exact rg_lt | exact rg_ly | (simp only [ly63, p63_0, p63_1, p63_2, p63_7, p63_10, p63_11, p63_13, p63_14, p63_16, p63_18, p63_22, p63_23, p63_24, p63_30, p63_31, p63_32, p63_33]; omega))) only [s200_0, s200_1, s200_4, s200_5, s200_8, s200_9, s200_12, s200_13, s200_16, s200_17, s200_20, s200_21, s200_24, s200_25, s200_28, s200_30, s200_33, s200_35, s200_38, s200_40, s200_41, s200_42, s200_44, s200_46, s200_49, s200_50, s200_53, s200_54, s200_55, s200_56, s200_59, s200_62, s200_63, s200_64, s200_65, s200_67, s200_68, s200_71, s200_72, s200_73, s200_76, s200_77, s200_80, s200_83, s200_86, s200_87, s200_91, s200_92, s200_95, s200_98, s200_99, s200_102, s200_104, s200_105, s200_106, s200_107, s200_108, s200_111, s200_113, s200_114, s200_115, s200_116, s200_117, s200_120, s200_126, s200_129, s200_130, ltI, geL, leL, not_true_eq_false, not_false_eq_true, if_true, if_false, and_self, and_true, true_and, and_false, false_and, or_self, or_true, true_or, or_false, false_or, bo_T, bo_F, bo_e0, nI10, nI00, nI11, nI01, bo_e1, nem, eqL, af_v, af_0, rf_s, rf_n, nn, ite_self, ly63, p63_0, p63_1, p63_2, p63_7, p63_10, p63_11, p63_13, p63_14, p63_16, p63_18, p63_22, p63_23, p63_24, p63_30, p63_31, p63_32, p63_33, r1, Int32.le_refl]
  | succ g ih =>
    intro k hk J hJ h
    have c1 : ¬ n ≤ k := by omega
    have r1 : J 63 19 = nI n := by rw [hJ 63 (by decide)]; exact h19
    obtain ⟨t1, t2⟩ := hT k (by omega)
    have r2 : J 75 k = nI (t k) := by rw [hJ 75 (by decide)]; exact t1
    have r3 := h k (by omega)
    rw [if_neg (Nat.lt_irrefl _)] at r3
    have hAk := hA k (by omega)
    have hp : 2 ^ t k < 2 ^ 8 := wb_lt2 t2
    have e1 := sh1 (show t k ≤ 16 by omega)
    have e2 : nI (A k) ||| nI (2 ^ t k) = nI (A k ||| 2 ^ t k) := orI (by omega) (by omega)
    obtain ⟨J1, g1, g2, g3⟩ := ih (k + 1) (by omega) (sm_up J 76 k (nI (A k ||| 2 ^ t k))) (fun r hr => by rw [up_row hr]; exact hJ r hr) (fun x hx => by
      rw [up_at]
      by_cases e : x = k
      · rw [if_pos e, if_pos (by omega), e]
      · rw [if_neg e, h x hx]
        by_cases q : x < k
        · rw [if_pos q, if_pos (by omega)]
        · rw [if_neg q, if_neg (by omega)])
    refine ⟨J1, g1, g2, ?_⟩
    rw [← g3, s200_89]
    simp (discharger := (first | omega | decide | assumption | exact rg_lt | exact rg_ly | (simp only [ly63, p63_0, p63_1, p63_2, p63_7, p63_10, p63_11, p63_13, p63_14, p63_16, p63_18, p63_22, p63_23, p63_24, p63_30, p63_31, p63_32, p63_33, ly75, al75, ly76, al76]; omega))) only [s200_0, s200_1, s200_4, s200_5, s200_8, s200_9, s200_12, s200_13, s200_16, s200_17, s200_20, s200_21, s200_24, s200_25, s200_28, s200_30, s200_33, s200_35, s200_38, s200_40, s200_41, s200_42, s200_44, s200_46, s200_49, s200_50, s200_53, s200_54, s200_55, s200_56, s200_59, s200_62, s200_63, s200_64, s200_65, s200_67, s200_68, s200_71, s200_72, s200_73, s200_76, s200_77, s200_80, s200_83, s200_86, s200_87, s200_91, s200_92, s200_95, s200_98, s200_99, s200_102, s200_104, s200_105, s200_106, s200_107, s200_108, s200_111, s200_113, s200_114, s200_115, s200_116, s200_117, s200_120, s200_126, s200_129, s200_130, ltI, geL, leL, not_true_eq_false, not_false_eq_true, if_true, if_false, and_self, and_true, true_and, and_false, false_and, or_self, or_true, true_or, or_false, false_or, bo_T, bo_F, bo_e0, nI10, nI00, nI11, nI01, bo_e1, nem, eqL, af_v, af_0, rf_s, rf_n, nn, ite_self, ly63, p63_0, p63_1, p63_2, p63_7, p63_10, p63_11, p63_13, p63_14, p63_16, p63_18, p63_22, p63_23, p63_24, p63_30, p63_31, p63_32, p63_33, ly75, al75, ly76, al76, r1, leN, c1, r2, r3, e1, e2, addN, sm_cl]
theorem m_po_2 (Rr : RCM I κ) (O : COk κ) : ∀ (g c : Nat), c + g = df (κ 0 0 / 2) → ∀ (J : sm_Im) (l4 : Option Value), (∀ r, r ≠ 75 → r ≠ 76 → J r = I r) → (∀ x, x < κ 0 0 → J 76 x = nI (uo (awl κ (κ 0 1)) (κ 0 0 / 2) (2 ^ κ 0 0 - 1) c x)) → ∃ J1 : sm_Im, (∀ r, r ≠ 75 → r ≠ 76 → J1 r = I r) ∧ (∀ x, x < κ 0 0 → J1 76 x = nI (tws κ x)) ∧ sm_at (sm_ex (d + 1)) none 200 66 [some (.ref 63), some (.int (nI (df (κ 0 0 / 2)))), some (.int (nI (cn (vd (awl κ (κ 0 1)) (κ 0 0 / 2) (2 ^ κ 0 0 - 1)) c))), some (.int (nI c)), l4] [] 81 J L (pX sw) = some (some (.int (nI (pgs κ))), 81, J1, L, pX sw) := by
  have nk := n4_ok O.1
  have hdf := df_le (κ 0 0 / 2) (by omega)
  intro g
  induction g with
  | zero =>
    intro c hc J l4 hJ h
    obtain rfl : c = df (κ 0 0 / 2) := by omega
    refine ⟨J, hJ, h, ?_⟩
    rw [pu_cn _ _ (by omega) nk.2.2.2.2.2.1, s200_66]
    simp (discharger := (first | omega | decide | assumption | exact rg_lt | exact rg_ly | (simp only [ly63, p63_0, p63_1, p63_2, p63_7, p63_10, p63_11, p63_13, p63_14, p63_16, p63_18, p63_22, p63_23, p63_24, p63_30, p63_31, p63_32, p63_33]; omega))) only [s200_0, s200_1, s200_4, s200_5, s200_8, s200_9, s200_12, s200_13, s200_16, s200_17, s200_20, s200_21, s200_24, s200_25, s200_28, s200_30, s200_33, s200_35, s200_38, s200_40, s200_41, s200_42, s200_44, s200_46, s200_49, s200_50, s200_53, s200_54, s200_55, s200_56, s200_59, s200_62, s200_63, s200_64, s200_65, s200_67, s200_68, s200_71, s200_72, s200_73, s200_76, s200_77, s200_80, s200_83, s200_86, s200_87, s200_91, s200_92, s200_95, s200_98, s200_99, s200_102, s200_104, s200_105, s200_106, s200_107, s200_108, s200_111, s200_113, s200_114, s200_115, s200_116, s200_117, s200_120, s200_123, s200_126, s200_129, s200_130, ltI, geL, leL, not_true_eq_false, not_false_eq_true, if_true, if_false, and_self, and_true, true_and, and_false, false_and, or_self, or_true, true_or, or_false, false_or, bo_T, bo_F, bo_e0, nI10, nI00, nI11, nI01, bo_e1, nem, eqL, af_v, af_0, rf_s, rf_n, nn, ite_self, ly63, p63_0, p63_1, p63_2, p63_7, p63_10, p63_11, p63_13, p63_14, p63_16, p63_18, p63_22, p63_23, p63_24, p63_30, p63_31, p63_32, p63_33, Int32.le_refl, pgs]
  | succ g ih =>
    intro c hc J l4 hJ h
    have c1 : ¬ df (κ 0 0 / 2) ≤ c := by omega
    have hcn := cn_le (vd (awl κ (κ 0 1)) (κ 0 0 / 2) (2 ^ κ 0 0 - 1)) c
    have RJ := RCM_c hJ Rr
    obtain ⟨J2, f1, f2, f3⟩ := m_layPairing (d := d) (L := L) (sw := sw) (c := c) O.1 RJ.1 (by omega)
    have hJ2 : ∀ r, r ≠ 75 → r ≠ 76 → J2 r = I r := fun r h1 h2 => (f1 r h1).trans (hJ r h1 h2)
    have R2 := RCM_c hJ2 Rr
    have hT : ∀ x, x < κ 0 0 → J2 75 x = nI (tw (κ 0 0 / 2) (2 ^ κ 0 0 - 1) c x) ∧ tw (κ 0 0 / 2) (2 ^ κ 0 0 - 1) c x < 8 := fun x hx => ⟨f2 x hx, (tw_in _ _ c (by omega) nk.2.2.2.2.2.1 x (by omega) ((all_tb _ _).mpr hx)).1⟩
    have f4 : sm_ex (d + 1) 199 [.ref 63] 81 J2 L (pX sw) = _ := m_isSo (d := d) (L := L) (sw := sw) R2 O hT
    have cs := cn_s (vd (awl κ (κ 0 1)) (κ 0 0 / 2) (2 ^ κ 0 0 - 1)) c
    have h76 : ∀ x, x < κ 0 0 → J2 76 x = nI (uo (awl κ (κ 0 1)) (κ 0 0 / 2) (2 ^ κ 0 0 - 1) c x) := fun x hx => by rw [f1 76 (by decide)]; exact h x hx
    by_cases e : vd (awl κ (κ 0 1)) (κ 0 0 / 2) (2 ^ κ 0 0 - 1) c = true
    · rw [bo_t ((so_vd O c).mpr e)] at f4
      rw [if_pos e] at cs
      obtain ⟨J3, p1, p2, p3⟩ := m_po_3 (d := d + 1) (L := L) (sw := sw) (l1 := nI (df (κ 0 0 / 2))) (l2 := nI (cn (vd (awl κ (κ 0 1)) (κ 0 0 / 2) (2 ^ κ 0 0 - 1)) c + 1)) (l3 := nI c) nk.1 R2.1 hT (A := uo (awl κ (κ 0 1)) (κ 0 0 / 2) (2 ^ κ 0 0 - 1) c) (fun x hx => uo_lt (by omega) nk.2.2.2.2.2.1 (by omega) ((all_tb _ _).mpr hx) _) (κ 0 0) 0 (Nat.zero_add _) J2 (fun r _ => rfl) (fun x hx => by rw [if_neg (Nat.not_lt_zero _)]; exact h76 x hx)
      obtain ⟨J1, g1, g2, g3⟩ := ih (c + 1) (by omega) J3 (some (.int (nI (κ 0 0)))) (fun r h1 h2 => (p1 r h2).trans (hJ2 r h1 h2)) (fun x hx => by
        rw [p2 x hx]
        show _ = nI (if _ then _ else _)
        rw [if_pos e])
      refine ⟨J1, g1, g2, ?_⟩
      rw [← g3, cs, s200_66]
      simp (discharger := (first | omega | decide | assumption | exact rg_lt | exact rg_ly | (simp only [ly63, p63_0, p63_1, p63_2, p63_7, p63_10, p63_11, p63_13, p63_14, p63_16, p63_18, p63_22, p63_23, p63_24, p63_30, p63_31, p63_32, p63_33]; omega))) only [s200_0, s200_1, s200_4, s200_5, s200_8, s200_9, s200_12, s200_13, s200_16, s200_17, s200_20, s200_21, s200_24, s200_25, s200_28, s200_30, s200_33, s200_35, s200_38, s200_40, s200_41, s200_42, s200_44, s200_46, s200_49, s200_50, s200_53, s200_54, s200_55, s200_56, s200_59, s200_62, s200_63, s200_64, s200_65, s200_67, s200_68, s200_71, s200_72, s200_73, s200_76, s200_77, s200_80, s200_83, s200_86, s200_87, s200_91, s200_92, s200_95, s200_98, s200_99, s200_102, s200_104, s200_105, s200_106, s200_107, s200_108, s200_111, s200_113, s200_114, s200_115, s200_116, s200_117, s200_120, s200_123, s200_126, s200_129, s200_130, ltI, geL, leL, not_true_eq_false, not_false_eq_true, if_true, if_false, and_self, and_true, true_and, and_false, false_and, or_self, or_true, true_or, or_false, false_or, bo_T, bo_F, bo_e0, nI10, nI00, nI11, nI01, bo_e1, nem, eqL, af_v, af_0, rf_s, rf_n, nn, ite_self, ly63, p63_0, p63_1, p63_2, p63_7, p63_10, p63_11, p63_13, p63_14, p63_16, p63_18, p63_22, p63_23, p63_24, p63_30, p63_31, p63_32, p63_33, leN, c1, f3, f4, addN, sm_cl]
      rw [p3]
      simp (discharger := (first | omega | decide | assumption | exact rg_lt | exact rg_ly | (simp only [ly63, p63_0, p63_1, p63_2, p63_7, p63_10, p63_11, p63_13, p63_14, p63_16, p63_18, p63_22, p63_23, p63_24, p63_30, p63_31, p63_32, p63_33]; omega))) only [s200_0, s200_1, s200_4, s200_5, s200_8, s200_9, s200_12, s200_13, s200_16, s200_17, s200_20, s200_21, s200_24, s200_25, s200_28, s200_30, s200_33, s200_35, s200_38, s200_40, s200_41, s200_42, s200_44, s200_46, s200_49, s200_50, s200_53, s200_54, s200_55, s200_56, s200_59, s200_62, s200_63, s200_64, s200_65, s200_67, s200_68, s200_71, s200_72, s200_73, s200_76, s200_77, s200_80, s200_83, s200_86, s200_87, s200_91, s200_92, s200_95, s200_98, s200_99, s200_102, s200_104, s200_105, s200_106, s200_107, s200_108, s200_111, s200_113, s200_114, s200_115, s200_116, s200_117, s200_120, s200_123, s200_126, s200_129, s200_130, ltI, geL, leL, not_true_eq_false, not_false_eq_true, if_true, if_false, and_self, and_true, true_and, and_false, false_and, or_self, or_true, true_or, or_false, false_or, bo_T, bo_F, bo_e0, nI10, nI00, nI11, nI01, bo_e1, nem, eqL, af_v, af_0, rf_s, rf_n, nn, ite_self, ly63, p63_0, p63_1, p63_2, p63_7, p63_10, p63_11, p63_13, p63_14, p63_16, p63_18, p63_22, p63_23, p63_24, p63_30, p63_31, p63_32, p63_33, addN, sm_cl]
    · rw [bo_f (fun q => e ((so_vd O c).mp q))] at f4
      rw [if_neg e] at cs
      have cs := cs.trans (Nat.add_zero (cn (vd (awl κ (κ 0 1)) (κ 0 0 / 2) (2 ^ κ 0 0 - 1)) c))
      obtain ⟨J1, g1, g2, g3⟩ := ih (c + 1) (by omega) J2 l4 hJ2 (fun x hx => by
        rw [h76 x hx]
        show _ = nI (if _ then _ else _)
        rw [if_neg e])
      refine ⟨J1, g1, g2, ?_⟩
      rw [← g3, cs, s200_66]
      simp (discharger := (first | omega | decide | assumption | exact rg_lt | exact rg_ly | (simp only [ly63, p63_0, p63_1, p63_2, p63_7, p63_10, p63_11, p63_13, p63_14, p63_16, p63_18, p63_22, p63_23, p63_24, p63_30, p63_31, p63_32, p63_33]; omega))) only [s200_0, s200_1, s200_4, s200_5, s200_8, s200_9, s200_12, s200_13, s200_16, s200_17, s200_20, s200_21, s200_24, s200_25, s200_28, s200_30, s200_33, s200_35, s200_38, s200_40, s200_41, s200_42, s200_44, s200_46, s200_49, s200_50, s200_53, s200_54, s200_55, s200_56, s200_59, s200_62, s200_63, s200_64, s200_65, s200_67, s200_68, s200_71, s200_72, s200_73, s200_76, s200_77, s200_80, s200_83, s200_86, s200_87, s200_91, s200_92, s200_95, s200_98, s200_99, s200_102, s200_104, s200_105, s200_106, s200_107, s200_108, s200_111, s200_113, s200_114, s200_115, s200_116, s200_117, s200_120, s200_123, s200_126, s200_129, s200_130, ltI, geL, leL, not_true_eq_false, not_false_eq_true, if_true, if_false, and_self, and_true, true_and, and_false, false_and, or_self, or_true, true_or, or_false, false_or, bo_T, bo_F, bo_e0, nI10, nI00, nI11, nI01, bo_e1, nem, eqL, af_v, af_0, rf_s, rf_n, nn, ite_self, ly63, p63_0, p63_1, p63_2, p63_7, p63_10, p63_11, p63_13, p63_14, p63_16, p63_18, p63_22, p63_23, p63_24, p63_30, p63_31, p63_32, p63_33, leN, c1, f3, f4, addN, sm_cl]
theorem m_po_1 : ∀ (g i : Nat), i + g = 8 → ∀ (J : sm_Im) (l1 : Option Value), (∀ r, r ≠ 76 → J r = I r) → (∀ x, x < i → J 76 x = nI 0) → ∃ J1 : sm_Im, (∀ r, r ≠ 76 → J1 r = I r) ∧ (∀ x, x < 8 → J1 76 x = nI 0) ∧ sm_at (sm_ex d) none 200 43 [some (.ref 63), some (.int v), some (.int (nI i)), none, none] [] 81 J L (pX sw) = sm_at (sm_ex d) none 200 66 [some (.ref 63), some (.int v), some (.int (nI 0)), some (.int (nI 0)), none] [] 81 J1 L (pX sw) := by
  intro g
  induction g with
  | zero =>
    intro i hi J l1 hJ h
    obtain rfl : i = 8 := by omega
    refine ⟨J, hJ, h, ?_⟩
    rw [s200_43]
    simp (discharger := (first | omega | decide | assumption | exact rg_lt | exact rg_ly | (simp only [ly63, p63_0, p63_1, p63_2, p63_7, p63_10, p63_11, p63_13, p63_14, p63_16, p63_18, p63_22, p63_23, p63_24, p63_30, p63_31, p63_32, p63_33]; omega))) only [s200_0, s200_1, s200_4, s200_5, s200_8, s200_9, s200_12, s200_13, s200_16, s200_17, s200_20, s200_21, s200_24, s200_25, s200_28, s200_30, s200_33, s200_35, s200_38, s200_40, s200_41, s200_42, s200_44, s200_46, s200_49, s200_50, s200_53, s200_54, s200_55, s200_56, s200_59, s200_62, s200_63, s200_64, s200_65, s200_67, s200_68, s200_71, s200_72, s200_73, s200_76, s200_77, s200_80, s200_83, s200_86, s200_87, s200_91, s200_92, s200_95, s200_98, s200_99, s200_102, s200_104, s200_105, s200_106, s200_107, s200_108, s200_111, s200_113, s200_114, s200_115, s200_116, s200_117, s200_120, s200_123, s200_126, s200_129, s200_130, ltI, geL, leL, not_true_eq_false, not_false_eq_true, if_true, if_false, and_self, and_true, true_and, and_false, false_and, or_self, or_true, true_or, or_false, false_or, bo_T, bo_F, bo_e0, nI10, nI00, nI11, nI01, bo_e1, nem, eqL, af_v, af_0, rf_s, rf_n, nn, ite_self, ly63, p63_0, p63_1, p63_2, p63_7, p63_10, p63_11, p63_13, p63_14, p63_16, p63_18, p63_22, p63_23, p63_24, p63_30, p63_31, p63_32, p63_33, Int32.le_refl, sm_cl]
  | succ g ih =>
    intro i hi J l1 hJ h
    have c1 : ¬ 8 ≤ i := by omega
    obtain ⟨J1, g1, g2, g3⟩ := ih (i + 1) (by omega) (sm_up J 76 i (nI 0)) l1 (fun r hr => by rw [up_row hr]; exact hJ r hr) (fun x hx => by
      rw [up_at]
      by_cases e : x = i
      · rw [if_pos e]
      · rw [if_neg e]; exact h x (by omega))
    refine ⟨J1, g1, g2, ?_⟩
    rw [← g3, s200_43]
    simp (discharger := (first | omega | decide | assumption | exact rg_lt | exact rg_ly | (simp only [ly63, p63_0, p63_1, p63_2, p63_7, p63_10, p63_11, p63_13, p63_14, p63_16, p63_18, p63_22, p63_23, p63_24, p63_30, p63_31, p63_32, p63_33, ly76, al76]; omega))) only [s200_0, s200_1, s200_4, s200_5, s200_8, s200_9, s200_12, s200_13, s200_16, s200_17, s200_20, s200_21, s200_24, s200_25, s200_28, s200_30, s200_33, s200_35, s200_38, s200_40, s200_41, s200_42, s200_44, s200_46, s200_49, s200_50, s200_53, s200_54, s200_55, s200_56, s200_59, s200_62, s200_63, s200_64, s200_65, s200_67, s200_68, s200_71, s200_72, s200_73, s200_76, s200_77, s200_80, s200_83, s200_86, s200_87, s200_91, s200_92, s200_95, s200_98, s200_99, s200_102, s200_104, s200_105, s200_106, s200_107, s200_108, s200_111, s200_113, s200_114, s200_115, s200_116, s200_117, s200_120, s200_123, s200_126, s200_129, s200_130, ltI, geL, leL, not_true_eq_false, not_false_eq_true, if_true, if_false, and_self, and_true, true_and, and_false, false_and, or_self, or_true, true_or, or_false, false_or, bo_T, bo_F, bo_e0, nI10, nI00, nI11, nI01, bo_e1, nem, eqL, af_v, af_0, rf_s, rf_n, nn, ite_self, ly63, p63_0, p63_1, p63_2, p63_7, p63_10, p63_11, p63_13, p63_14, p63_16, p63_18, p63_22, p63_23, p63_24, p63_30, p63_31, p63_32, p63_33, ly76, al76, leN, c1, addN, sm_cl]
theorem m_pairingsOf (Rr : RCM I κ) (O : COk κ) : ∃ J1 : sm_Im, (∀ r, r ≠ 75 → r ≠ 76 → J1 r = I r) ∧ (∀ x, x < κ 0 0 → J1 76 x = nI (tws κ x)) ∧ sm_ex (d + 2) 200 [.ref 63] 81 I L (pX sw) = some (some (.int (nI (pgs κ))), 81, J1, L, pX sw) := by
  have nk := n4_ok O.1
  obtain ⟨J0, f1, f2, f3⟩ := m_po_1 (d := d + 1) (L := L) (sw := sw) (v := nI (df (κ 0 0 / 2))) 8 0 rfl I none (fun r _ => rfl) (fun x hx => absurd hx (Nat.not_lt_zero _))
  obtain ⟨J1, g1, g2, g3⟩ := m_po_2 (d := d) (L := L) (sw := sw) Rr O (df (κ 0 0 / 2)) 0 (Nat.zero_add _) J0 none (fun r _ h2 => f1 r h2) (fun x hx => f2 x (by omega))
  refine ⟨J1, g1, g2, ?_⟩
  rw [show cn (vd (awl κ (κ 0 1)) (κ 0 0 / 2) (2 ^ κ 0 0 - 1)) 0 = 0 from rfl] at g3
  rw [← g3, ← f3, e200]
  have R1 := Rr.1
  have e42 : (nI 4 = nI 2) = False := by decide
  have e62 : (nI 6 = nI 2) = False := by decide
  have e82 : (nI 8 = nI 2) = False := by decide
  have e64 : (nI 6 = nI 4) = False := by decide
  have e84 : (nI 8 = nI 4) = False := by decide
  have e86 : (nI 8 = nI 6) = False := by decide
  rcases O.1 with h | h | h | h <;> rw [h] at R1 ⊢ <;> simp (discharger := (first | omega | decide | assumption | exact rg_lt | exact rg_ly | (simp only [ly63, p63_0, p63_1, p63_2, p63_7, p63_10, p63_11, p63_13, p63_14, p63_16, p63_18, p63_22, p63_23, p63_24, p63_30, p63_31, p63_32, p63_33]; omega))) only [s200_0, s200_1, s200_4, s200_5, s200_8, s200_9, s200_12, s200_13, s200_16, s200_17, s200_20, s200_21, s200_24, s200_25, s200_28, s200_30, s200_33, s200_35, s200_38, s200_40, s200_41, s200_42, s200_44, s200_46, s200_49, s200_50, s200_53, s200_54, s200_55, s200_56, s200_59, s200_62, s200_63, s200_64, s200_65, s200_67, s200_68, s200_71, s200_72, s200_73, s200_76, s200_77, s200_80, s200_83, s200_86, s200_87, s200_91, s200_92, s200_95, s200_98, s200_99, s200_102, s200_104, s200_105, s200_106, s200_107, s200_108, s200_111, s200_113, s200_114, s200_115, s200_116, s200_117, s200_120, s200_123, s200_126, s200_129, s200_130, ltI, geL, leL, not_true_eq_false, not_false_eq_true, if_true, if_false, and_self, and_true, true_and, and_false, false_and, or_self, or_true, true_or, or_false, false_or, bo_T, bo_F, bo_e0, nI10, nI00, nI11, nI01, bo_e1, nem, eqL, af_v, af_0, rf_s, rf_n, nn, ite_self, ly63, p63_0, p63_1, p63_2, p63_7, p63_10, p63_11, p63_13, p63_14, p63_16, p63_18, p63_22, p63_23, p63_24, p63_30, p63_31, p63_32, p63_33, R1, e42, e62, e82, e64, e84, e86, sm_cl] <;> rfl
theorem m_pairings (Rr : RCM I κ) (O : COk κ) : ∃ J1 : sm_Im, (∀ r, r ≠ 75 → r ≠ 76 → J1 r = I r) ∧ sm_ex (d + 3) 201 [.ref 63] 81 I L (pX sw) = some (some (.int (nI (pgs κ))), 81, J1, L, pX sw) := by
  obtain ⟨J1, g1, g2, g3⟩ := m_pairingsOf (d := d) (L := L) (sw := sw) Rr O
  refine ⟨J1, g1, ?_⟩
  rw [e201]
  simp (discharger := (first | omega | decide | assumption | exact rg_lt | exact rg_ly | (simp only [ly63, p63_0, p63_1, p63_2, p63_7, p63_10, p63_11, p63_13, p63_14, p63_16, p63_18, p63_22, p63_23, p63_24, p63_30, p63_31, p63_32, p63_33]; omega))) only [s201_0, s201_1, s201_4, ltI, geL, leL, not_true_eq_false, not_false_eq_true, if_true, if_false, and_self, and_true, true_and, and_false, false_and, or_self, or_true, true_or, or_false, false_or, bo_T, bo_F, bo_e0, nI10, nI00, nI11, nI01, bo_e1, nem, eqL, af_v, af_0, rf_s, rf_n, nn, ite_self, ly63, p63_0, p63_1, p63_2, p63_7, p63_10, p63_11, p63_13, p63_14, p63_16, p63_18, p63_22, p63_23, p63_24, p63_30, p63_31, p63_32, p63_33, g3]
def fT (s : Nat) : Nat → Option Nat
  | 0 => none
  | k + 1 => if s = 2 ^ k then some k else fT s k
theorem fT_eq : ∀ n, n < 9 → ∀ s, s < 256 → s < 2 ^ n → fT s n = tn8 s := by decide +kernel
theorem m_twinNow_loop (h1 : J 63 19 = nI n) (hn : n ≤ 8) (ha : a < n) (h2 : J 76 a = nI s) (hs : s < 256) : ∀ (g k : Nat), k + g = n → sm_at (sm_ex d) none 202 4 [some (.ref 63), some (.int (nI a)), some (.int (oI (fT s k))), some (.int (nI k))] [] 81 J L (pX sw) = some (some (.int (oI (fT s n))), 81, J, L, pX sw) := by
  intro g
  induction g with
  | zero =>
    intro k hk
    obtain rfl : k = n := by omega
    rw [s202_4]
    simp (discharger := (first | omega | decide | assumption | exact rg_lt | exact rg_ly | (simp only [ly63, p63_0, p63_1, p63_2, p63_7, p63_10, p63_11, p63_13, p63_14, p63_16, p63_18, p63_22, p63_23, p63_24, p63_30, p63_31, p63_32, p63_33]; omega))) only [s202_0, s202_1, s202_2, s202_3, s202_5, s202_6, s202_9, s202_12, s202_13, s202_16, s202_17, s202_18, s202_19, s202_20, s202_21, s202_24, s202_25, s202_28, s202_29, s202_30, s202_33, s202_36, s202_37, ltI, geL, leL, not_true_eq_false, not_false_eq_true, if_true, if_false, and_self, and_true, true_and, and_false, false_and, or_self, or_true, true_or, or_false, false_or, bo_T, bo_F, bo_e0, nI10, nI00, nI11, nI01, bo_e1, nem, eqL, af_v, af_0, rf_s, rf_n, nn, ite_self, ly63, p63_0, p63_1, p63_2, p63_7, p63_10, p63_11, p63_13, p63_14, p63_16, p63_18, p63_22, p63_23, p63_24, p63_30, p63_31, p63_32, p63_33, h1, Int32.le_refl]
  | succ g ih =>
    intro k hk
    have c1 : ¬ n ≤ k := by omega
    have e1 := sh1 (show k ≤ 16 by omega)
    have hp := pw16 (show k ≤ 16 by omega)
    have := ih (k + 1) (by omega)
    rw [show fT s (k + 1) = if s = 2 ^ k then some k else fT s k from rfl] at this
    rw [s202_4]
    by_cases c : s = 2 ^ k
    · rw [if_pos c, show oI (some k) = nI k from rfl] at this
      have c' : (nI s = nI (2 ^ k)) = True := by rw [c]; exact eq_self _
      simp (discharger := (first | omega | decide | assumption | exact rg_lt | exact rg_ly | (simp only [ly63, p63_0, p63_1, p63_2, p63_7, p63_10, p63_11, p63_13, p63_14, p63_16, p63_18, p63_22, p63_23, p63_24, p63_30, p63_31, p63_32, p63_33, ly76, al76]; omega))) only [s202_0, s202_1, s202_2, s202_3, s202_5, s202_6, s202_9, s202_12, s202_13, s202_16, s202_17, s202_18, s202_19, s202_20, s202_21, s202_24, s202_25, s202_28, s202_29, s202_30, s202_33, s202_36, s202_37, ltI, geL, leL, not_true_eq_false, not_false_eq_true, if_true, if_false, and_self, and_true, true_and, and_false, false_and, or_self, or_true, true_or, or_false, false_or, bo_T, bo_F, bo_e0, nI10, nI00, nI11, nI01, bo_e1, nem, eqL, af_v, af_0, rf_s, rf_n, nn, ite_self, ly63, p63_0, p63_1, p63_2, p63_7, p63_10, p63_11, p63_13, p63_14, p63_16, p63_18, p63_22, p63_23, p63_24, p63_30, p63_31, p63_32, p63_33, ly76, al76, h1, leN, c1, h2, e1, c', addN, sm_cl]
      exact this
    · rw [if_neg c] at this
      simp (discharger := (first | omega | decide | assumption | exact rg_lt | exact rg_ly | (simp only [ly63, p63_0, p63_1, p63_2, p63_7, p63_10, p63_11, p63_13, p63_14, p63_16, p63_18, p63_22, p63_23, p63_24, p63_30, p63_31, p63_32, p63_33, ly76, al76]; omega))) only [s202_0, s202_1, s202_2, s202_3, s202_5, s202_6, s202_9, s202_12, s202_13, s202_16, s202_17, s202_18, s202_19, s202_20, s202_21, s202_24, s202_25, s202_28, s202_29, s202_30, s202_33, s202_36, s202_37, ltI, geL, leL, not_true_eq_false, not_false_eq_true, if_true, if_false, and_self, and_true, true_and, and_false, false_and, or_self, or_true, true_or, or_false, false_or, bo_T, bo_F, bo_e0, nI10, nI00, nI11, nI01, bo_e1, nem, eqL, af_v, af_0, rf_s, rf_n, nn, ite_self, ly63, p63_0, p63_1, p63_2, p63_7, p63_10, p63_11, p63_13, p63_14, p63_16, p63_18, p63_22, p63_23, p63_24, p63_30, p63_31, p63_32, p63_33, ly76, al76, h1, leN, c1, h2, e1, eqN, c, addN, sm_cl]
      exact this
theorem tws_lt2 (O : COk κ) (ha : a < κ 0 0) : tws κ a < 2 ^ κ 0 0 := by
  have nk := n4_ok O.1
  apply Nat.lt_pow_two_of_testBit
  intro i hi
  apply Bool.eq_false_iff.mpr
  intro q
  unfold tws at q
  rw [uo_tb] at q
  obtain ⟨c, q1, q2, q3⟩ := q
  have := (tw_in (κ 0 0 / 2) (2 ^ κ 0 0 - 1) c (by omega) nk.2.2.2.2.2.1 a (by omega) ((all_tb _ _).mpr ha)).2
  rw [q3, all_tb] at this
  omega
theorem m_twinNow (R1 : J 63 19 = nI (κ 0 0)) (O : COk κ) (ha : a < κ 0 0) (h2 : J 76 a = nI (tws κ a)) : sm_ex (d + 1) 202 [.ref 63, .int (nI a)] 81 J L (pX sw) = some (some (.int (oI (tn8 (tws κ a)))), 81, J, L, pX sw) := by
  have nk := n4_ok O.1
  have hl := tws_lt O ha
  rw [← fT_eq (κ 0 0) (by omega) _ hl (tws_lt2 O ha), e202]
  simp only [s202_0, s202_1, s202_2, s202_3, s202_5, s202_6, s202_9, s202_12, s202_13, s202_16, s202_17, s202_18, s202_19, s202_20, s202_21, s202_24, s202_25, s202_28, s202_29, s202_30, s202_33, s202_36, s202_37, ltI, geL, leL, not_true_eq_false, not_false_eq_true, if_true, if_false, and_self, and_true, true_and, and_false, false_and, or_self, or_true, true_or, or_false, false_or, bo_T, bo_F, bo_e0, nI10, nI00, nI11, nI01, bo_e1, nem, eqL, af_v, af_0, rf_s, rf_n, nn, ite_self, sm_cl]
  exact m_twinNow_loop R1 nk.1 ha h2 hl (κ 0 0) 0 (Nat.zero_add _)
theorem m_twin_1 (hs : I 63 19 = nI s) (hs2 : s ≤ 8) (h : ¬ (0 ≤ x ∧ ¬ nI s ≤ x)) : sm_ex (d + 3) 203 [.ref 63, .int x] 81 I L (pX sw) = some (some (.int (-101)), 81, I, L, pX sw) := by
  rw [e203]
  simp (discharger := (first | omega | decide | assumption | exact rg_lt | exact rg_ly | (simp only [ly63, p63_0, p63_1, p63_2, p63_7, p63_10, p63_11, p63_13, p63_14, p63_16, p63_18, p63_22, p63_23, p63_24, p63_30, p63_31, p63_32, p63_33]; omega))) only [s203_0, s203_1, s203_2, s203_3, s203_4, s203_7, s203_8, s203_9, s203_10, s203_13, s203_16, s203_18, s203_19, s203_20, s203_23, s203_24, s203_25, s203_26, s203_29, ltI, geL, leL, not_true_eq_false, not_false_eq_true, if_true, if_false, and_self, and_true, true_and, and_false, false_and, or_self, or_true, true_or, or_false, false_or, bo_T, bo_F, bo_e0, nI10, nI00, nI11, nI01, bo_e1, nem, eqL, af_v, af_0, rf_s, rf_n, nn, ite_self, ly63, p63_0, p63_1, p63_2, p63_7, p63_10, p63_11, p63_13, p63_14, p63_16, p63_18, p63_22, p63_23, p63_24, p63_30, p63_31, p63_32, p63_33, hs, m_in, wN 0 (by decide), wl, inb, h]
theorem m_twin_2 (Rr : RCM I κ) (O : COk κ) (ha : a < κ 0 0) : ∃ J1 : sm_Im, (∀ r, r ≠ 75 → r ≠ 76 → J1 r = I r) ∧ sm_ex (d + 3) 203 [.ref 63, .int (nI a)] 81 I L (pX sw) = some (some (.int (oI (tn8 (tws κ a)))), 81, J1, L, pX sw) := by
  have nk := n4_ok O.1
  obtain ⟨J1, g1, g2, g3⟩ := m_pairingsOf (d := d) (L := L) (sw := sw) Rr O
  have R1 := Rr.1
  have h1 : J1 63 19 = nI (κ 0 0) := by rw [g1 63 (by decide) (by decide)]; exact R1
  have f : sm_ex (d + 2) 202 [.ref 63, .int (nI a)] 81 J1 L (pX sw) = some (some (.int (oI (tn8 (tws κ a)))), 81, J1, L, pX sw) := m_twinNow h1 O ha (g2 a ha)
  refine ⟨J1, g1, ?_⟩
  rw [e203]
  simp (discharger := (first | omega | decide | assumption | exact rg_lt | exact rg_ly | (simp only [ly63, p63_0, p63_1, p63_2, p63_7, p63_10, p63_11, p63_13, p63_14, p63_16, p63_18, p63_22, p63_23, p63_24, p63_30, p63_31, p63_32, p63_33]; omega))) only [s203_0, s203_1, s203_2, s203_3, s203_4, s203_7, s203_8, s203_9, s203_10, s203_13, s203_16, s203_18, s203_19, s203_20, s203_23, s203_24, s203_25, s203_26, s203_29, ltI, geL, leL, not_true_eq_false, not_false_eq_true, if_true, if_false, and_self, and_true, true_and, and_false, false_and, or_self, or_true, true_or, or_false, false_or, bo_T, bo_F, bo_e0, nI10, nI00, nI11, nI01, bo_e1, nem, eqL, af_v, af_0, rf_s, rf_n, nn, ite_self, ly63, p63_0, p63_1, p63_2, p63_7, p63_10, p63_11, p63_13, p63_14, p63_16, p63_18, p63_22, p63_23, p63_24, p63_30, p63_31, p63_32, p63_33, R1, m_in, wN 0 (by decide), wl, inb, inbt ha, g3, f, sm_cl]
end MCR
