section BI
variable {d : Nat} {I J : sm_Im} {L : sm_Lm} {sw : Bool} {x y z : Int32} {a b m n q c k j p r v s : Nat} {β β' : Nat → Nat → Nat} {f : Nat → Nat}
theorem m_fo_loop (hn : I 63 3 = nI n) (hn2 : n ≤ 32) (hf : ∀ k, k < n → I 66 k = nI (f k) ∧ f k ≤ 126) : ∀ (g i : Nat), i + g = n → ∀ (J : sm_Im) (β : Nat → Nat → Nat), FM I J → RMp J β → PV β → ∃ J1 : sm_Im, FM I J1 ∧ ((prun f g i β).1 = n → RMp J1 (prun f g i β).2) ∧ sm_at (sm_ex (d + 4)) none 156 17 [some (.ref 63), some (.int (nI i))] [] 81 J L (pX sw) = some (some (.int (nI (prun f g i β).1)), 81, J1, L, pX sw) := by
  intro g
  induction g with
  | zero =>
    intro i hi J β hJ R V
    obtain rfl : i = n := by omega
    refine ⟨J, hJ, fun _ => R, ?_⟩
    have e1 : J 63 3 = nI i := by rw [hJ.2 3 (by decide) (by decide) (by decide)]; exact hn
    rw [s156_17]
    simp (discharger := (first | omega | decide | assumption | exact rg_lt | exact rg_ly | (simp only [ly63, p63_0, p63_1, p63_2, p63_7, p63_10, p63_11, p63_13, p63_14, p63_16, p63_18, p63_22, p63_23, p63_24, p63_30, p63_31, p63_32, p63_33]; omega))) only [s156_0, s156_1, s156_2, s156_5, s156_6, s156_7, s156_10, s156_11, s156_12, s156_15, s156_16, s156_18, s156_19, s156_22, s156_25, s156_26, s156_27, s156_30, s156_31, s156_32, s156_35, s156_38, s156_41, s156_44, s156_45, ltI, geL, leL, not_true_eq_false, not_false_eq_true, if_true, if_false, and_self, and_true, true_and, and_false, false_and, or_self, or_true, true_or, or_false, false_or, bo_T, bo_F, bo_e0, nI10, nI00, nI11, nI01, bo_e1, nem, eqL, af_v, af_0, rf_s, rf_n, nn, ite_self, ly63, p63_0, p63_1, p63_2, p63_7, p63_10, p63_11, p63_13, p63_14, p63_16, p63_18, p63_22, p63_23, p63_24, p63_30, p63_31, p63_32, p63_33, e1, Int32.le_refl, prun]
  | succ g ih =>
    intro i hi J β hJ R V
    have c1 : ¬ n ≤ i := by omega
    obtain ⟨f1, f2⟩ := hf i (by omega)
    have e1 : J 63 3 = nI n := by rw [hJ.2 3 (by decide) (by decide) (by decide)]; exact hn
    have e2 : J 66 i = nI (f i) := by rw [hJ.1 66 (by decide) (by decide)]; exact f1
    obtain ⟨J1, g1, g2, g3⟩ := m_go (d := d) (L := L) (sw := sw) R V f2
    have pe : prun f (g + 1) i β = match pst β (f i) with
      | some β' => prun f g (i + 1) β'
      | none => (i, β) := rfl
    cases hp : pst β (f i) with
    | none =>
      rw [hp] at pe
      dsimp only at pe
      refine ⟨J1, FM_tr hJ g1, fun h => (by rw [pe] at h; dsimp only at h; omega), ?_⟩
      rw [bnone hp] at g3
      rw [pe, s156_17]
      simp (discharger := (first | omega | decide | assumption | exact rg_lt | exact rg_ly | (simp only [ly63, p63_0, p63_1, p63_2, p63_7, p63_10, p63_11, p63_13, p63_14, p63_16, p63_18, p63_22, p63_23, p63_24, p63_30, p63_31, p63_32, p63_33, ly66, al66]; omega))) only [s156_0, s156_1, s156_2, s156_5, s156_6, s156_7, s156_10, s156_11, s156_12, s156_15, s156_16, s156_18, s156_19, s156_22, s156_25, s156_26, s156_27, s156_30, s156_31, s156_32, s156_35, s156_38, s156_41, s156_44, s156_45, ltI, geL, leL, not_true_eq_false, not_false_eq_true, if_true, if_false, and_self, and_true, true_and, and_false, false_and, or_self, or_true, true_or, or_false, false_or, bo_T, bo_F, bo_e0, nI10, nI00, nI11, nI01, bo_e1, nem, eqL, af_v, af_0, rf_s, rf_n, nn, ite_self, ly63, p63_0, p63_1, p63_2, p63_7, p63_10, p63_11, p63_13, p63_14, p63_16, p63_18, p63_22, p63_23, p63_24, p63_30, p63_31, p63_32, p63_33, ly66, al66, e1, leN, c1, e2, g3]
    | some β' =>
      rw [hp] at pe
      dsimp only at pe
      rw [bsome hp] at g3
      obtain ⟨J2, k1, k2, k3⟩ := ih (i + 1) (by omega) J1 β' (FM_tr hJ g1) (g2 β' hp) (pst_PV V hp)
      rw [pe]
      refine ⟨J2, k1, k2, ?_⟩
      rw [← k3, s156_17]
      simp (discharger := (first | omega | decide | assumption | exact rg_lt | exact rg_ly | (simp only [ly63, p63_0, p63_1, p63_2, p63_7, p63_10, p63_11, p63_13, p63_14, p63_16, p63_18, p63_22, p63_23, p63_24, p63_30, p63_31, p63_32, p63_33, ly66, al66]; omega))) only [s156_0, s156_1, s156_2, s156_5, s156_6, s156_7, s156_10, s156_11, s156_12, s156_15, s156_16, s156_18, s156_19, s156_22, s156_25, s156_26, s156_27, s156_30, s156_31, s156_32, s156_35, s156_38, s156_41, s156_44, s156_45, ltI, geL, leL, not_true_eq_false, not_false_eq_true, if_true, if_false, and_self, and_true, true_and, and_false, false_and, or_self, or_true, true_or, or_false, false_or, bo_T, bo_F, bo_e0, nI10, nI00, nI11, nI01, bo_e1, nem, eqL, af_v, af_0, rf_s, rf_n, nn, ite_self, ly63, p63_0, p63_1, p63_2, p63_7, p63_10, p63_11, p63_13, p63_14, p63_16, p63_18, p63_22, p63_23, p63_24, p63_30, p63_31, p63_32, p63_33, ly66, al66, e1, leN, c1, e2, g3, addN, sm_cl]
theorem m_faultOf (hn : I 63 3 = nI n) (hn2 : n ≤ 32) (hf : ∀ k, k < n → I 66 k = nI (f k) ∧ f k ≤ 126) : ∃ J1 : sm_Im, FM I J1 ∧ ((prun f n 0 be0).1 = n → RMp J1 (prun f n 0 be0).2) ∧ sm_ex (d + 5) 156 [.ref 63] 81 I L (pX sw) = some (some (.int (nI (prun f n 0 be0).1)), 81, J1, L, pX sw) := by
  have F : FM I (sm_up (sm_up (sm_up I 63 4 (nI 0)) 63 5 (nI 0)) 63 6 (nI 0)) := FM_3 (FM_3 (FM_3 FM_rf (by omega)) (by omega)) (by omega)
  have fr : frs be0 := ⟨rfl, rfl⟩
  have R0 : RMp (sm_up (sm_up (sm_up I 63 4 (nI 0)) 63 5 (nI 0)) 63 6 (nI 0)) be0 := by
    refine ⟨by rw [up_cell (by decide), up_cell (by decide), up_same]; rfl, by rw [up_same]; unfold sta; rw [if_pos fr], ⟨0, by decide, by rw [up_cell (by decide), up_same], fun p hp => ?_⟩, fun k hk hk2 => ?_⟩
    · rw [Nat.zero_testBit]; exact (decide_eq_false (by show ¬ 99 < 1; decide)).symm
    · rcases hk2 with z | z
      · have : k + 1 < 1 := z
        omega
      · exact absurd fr z
  obtain ⟨J1, k1, k2, k3⟩ := m_fo_loop (d := d) (L := L) (sw := sw) hn hn2 hf n 0 (Nat.zero_add _) _ be0 F R0 PV_0
  refine ⟨J1, k1, k2, ?_⟩
  rw [← k3, e156]
  simp (discharger := (first | omega | decide | assumption | exact rg_lt | exact rg_ly | (simp only [ly63, p63_0, p63_1, p63_2, p63_7, p63_10, p63_11, p63_13, p63_14, p63_16, p63_18, p63_22, p63_23, p63_24, p63_30, p63_31, p63_32, p63_33]; omega))) only [s156_0, s156_1, s156_2, s156_5, s156_6, s156_7, s156_10, s156_11, s156_12, s156_15, s156_16, s156_18, s156_19, s156_22, s156_25, s156_26, s156_27, s156_30, s156_31, s156_32, s156_35, s156_38, s156_41, s156_44, s156_45, ltI, geL, leL, not_true_eq_false, not_false_eq_true, if_true, if_false, and_self, and_true, true_and, and_false, false_and, or_self, or_true, true_or, or_false, false_or, bo_T, bo_F, bo_e0, nI10, nI00, nI11, nI01, bo_e1, nem, eqL, af_v, af_0, rf_s, rf_n, nn, ite_self, ly63, p63_0, p63_1, p63_2, p63_7, p63_10, p63_11, p63_13, p63_14, p63_16, p63_18, p63_22, p63_23, p63_24, p63_30, p63_31, p63_32, p63_33, sm_cl]
theorem m_fault (hn : I 63 3 = nI n) (hn2 : n ≤ 32) (hf : ∀ k, k < n → I 66 k = nI (f k) ∧ f k ≤ 126) : ∃ J1 : sm_Im, FM I J1 ∧ sm_ex (d + 6) 157 [.ref 63] 81 I L (pX sw) = some (some (.int (nI (prun f n 0 be0).1)), 81, J1, L, pX sw) := by
  obtain ⟨J1, k1, k2, k3⟩ := m_faultOf (d := d) (L := L) (sw := sw) hn hn2 hf
  refine ⟨J1, k1, ?_⟩
  rw [e157]
  simp (discharger := (first | omega | decide | assumption | exact rg_lt | exact rg_ly | (simp only [ly63, p63_0, p63_1, p63_2, p63_7, p63_10, p63_11, p63_13, p63_14, p63_16, p63_18, p63_22, p63_23, p63_24, p63_30, p63_31, p63_32, p63_33]; omega))) only [s157_0, s157_1, s157_4, ltI, geL, leL, not_true_eq_false, not_false_eq_true, if_true, if_false, and_self, and_true, true_and, and_false, false_and, or_self, or_true, true_or, or_false, false_or, bo_T, bo_F, bo_e0, nI10, nI00, nI11, nI01, bo_e1, nem, eqL, af_v, af_0, rf_s, rf_n, nn, ite_self, ly63, p63_0, p63_1, p63_2, p63_7, p63_10, p63_11, p63_13, p63_14, p63_16, p63_18, p63_22, p63_23, p63_24, p63_30, p63_31, p63_32, p63_33, k3]
theorem c_fault (hn : I 1 1 = nI n) (hn2 : n ≤ 32) (hf : ∀ k, k < n → I 2 k = nI (f k) ∧ f k ≤ 126) : ∃ J1 : sm_Im, FR (rg (!sw)) I J1 ∧ sm_ex (d + 6) 98 [.ref 0] 81 I L (pX sw) = some (some (.int (nI (prun f n 0 be0).1)), 81, J1, L, pX sw) := by
  have A := RA_rg (!sw)
  obtain ⟨J1, k1, k2, k3⟩ := c_readFrom (d := d) (L := L) (sw := sw) A (rg_ge _) hn hn2 hf
  refine ⟨J1, k1, ?_⟩
  have a1 := A.1
  have a2 := A.2.1
  rw [e98]
  simp (discharger := first | omega | decide | assumption) only [s98_0, s98_1, s98_4, s98_5, s98_8, s98_11, ltI, geL, leL, not_true_eq_false, not_false_eq_true, if_true, if_false, and_self, and_true, true_and, and_false, false_and, or_self, or_true, true_or, or_false, false_or, bo_T, bo_F, bo_e0, nI10, nI00, nI11, nI01, bo_e1, nem, eqL, af_v, af_0, rf_s, rf_n, nn, ite_self, ly0, p0_0, p0_1, p0_2, p0_3, p0_4, p0_5, p0_6, p0_7, p0_8, p0_9, k3]
theorem pX_sw : sm_up (sm_up (pX sw) 0 8 (some (rg (!sw)))) 0 9 (some (rg sw)) = pX (!sw) := by
  funext a k
  unfold sm_up pX
  by_cases h9 : a = 0 ∧ k = 9
  · rw [if_pos h9, if_neg (by omega), if_pos h9, Bool.not_not]
  · rw [if_neg h9]
    by_cases h8 : a = 0 ∧ k = 8
    · rw [if_pos h8, if_pos h8]
    · rw [if_neg h8, if_neg h8, if_neg h9, if_neg h8, if_neg h9]
/-- the births are read -/
def okB (f : Nat → Nat) (n : Nat) : Prop := (prun f n 0 be0).1 = n ∧ whl (prun f n 0 be0).2
theorem c_isWhole (A : RA r) (R : RB r J β) (V : PV β) : sm_ex (d + 2) 58 [.ref r] 81 J L (pX sw) = some (some (.int (bo (whl β))), 81, J, L, pX sw) := by
  have V1 := V.1
  have A' := A
  obtain ⟨A1, A2, A3, A4, A5, A6, A7, A8, A9, A10⟩ := A
  have A0 := A10 (β 0 0 - 1) (by omega)
  have a1 := A0.1
  have a2 := A0.2.1
  have R1 := R.1
  have sb : nI (β 0 0) - nI 1 = nI (β 0 0 - 1) := subN (by omega)
  have hf : sm_ex (d + 1) 60 [.ref r, .int (nI (β 0 0 - 1))] 81 J L (pX sw) = some (some (.ref (r + 3 + 2 * (β 0 0 - 1))), 81, J, L, pX sw) := r_find_1 A' R1 V1.2 (by omega)
  have iw := i_isWhole (d := d) (I := J) (L := L) (sw := sw) A0
  simp only [whl_e R V] at iw
  rw [e58]
  by_cases hw : whl β
  · rw [botx hw] at iw
    rw [botx hw]
    simp (discharger := first | omega | decide | assumption) only [s58_0, s58_1, s58_2, s58_5, s58_6, s58_7, s58_10, s58_10n, s58_11, s58_11n, s58_12, s58_12n, s58_15, s58_15n, s58_16, s58_19, s58_22, s58_23, s58_26, s58_27, ltI, geL, leL, not_true_eq_false, not_false_eq_true, if_true, if_false, and_self, and_true, true_and, and_false, false_and, or_self, or_true, true_or, or_false, false_or, bo_T, bo_F, bo_e0, nI10, nI00, nI11, nI01, bo_e1, nem, eqL, af_v, af_0, rf_s, rf_n, nn, ite_self, R1, sb, hf, iw, sm_cl]
  · rw [bofx hw] at iw
    rw [bofx hw]
    simp (discharger := first | omega | decide | assumption) only [s58_0, s58_1, s58_2, s58_5, s58_6, s58_7, s58_10, s58_10n, s58_11, s58_11n, s58_12, s58_12n, s58_15, s58_15n, s58_16, s58_19, s58_22, s58_23, s58_26, s58_27, ltI, geL, leL, not_true_eq_false, not_false_eq_true, if_true, if_false, and_self, and_true, true_and, and_false, false_and, or_self, or_true, true_or, or_false, false_or, bo_T, bo_F, bo_e0, nI10, nI00, nI11, nI01, bo_e1, nem, eqL, af_v, af_0, rf_s, rf_n, nn, ite_self, R1, sb, hf, iw, sm_cl]
theorem c_births_1 (hn : I 1 1 = nI n) (hn2 : n ≤ 32) (hf : ∀ k, k < n → I 2 k = nI (f k) ∧ f k ≤ 126) (h : ¬ okB f n) : ∃ J1 : sm_Im, FR (rg (!sw)) I J1 ∧ sm_ex (d + 6) 99 [.ref 0] 81 I L (pX sw) = some (some (.int (-103)), 81, J1, L, pX sw) := by
  have A := RA_rg (!sw)
  have hge := rg_ge (!sw)
  obtain ⟨J1, k1, k2, k3⟩ := c_readFrom (d := d) (L := L) (sw := sw) A hge hn hn2 hf
  have hle := prun_le f n 0 be0
  refine ⟨J1, k1, ?_⟩
  have a1 := A.1
  have a2 := A.2.1
  have e1 : J1 1 1 = nI n := by rw [k1 1 (by omega)]; exact hn
  have cs : sm_ex (d + 5) 50 [.ref 1] 81 J1 L (pX sw) = _ := c_psize
  by_cases c : (prun f n 0 be0).1 = n
  · have hw : ¬ whl (prun f n 0 be0).2 := fun z => h ⟨c, z⟩
    have cw : sm_ex (d + 5) 58 [.ref (rg (!sw))] 81 J1 L (pX sw) = _ := c_isWhole (d := d + 3) A (k2 c) (prun_PV f n 0 be0 PV_0)
    rw [bofx hw] at cw
    have c1 : (nI n ≤ nI (prun f n 0 be0).1) = True := by rw [c]; exact eq_true (Int32.le_refl _)
    rw [e99]
    simp (discharger := (first | omega | decide | assumption | exact rg_lt | exact rg_ly | (simp only [ly0, p0_0, p0_1, p0_2, p0_3, p0_4, p0_5, p0_6, p0_7, p0_8, p0_9, ly1, p1_0]; omega))) only [s99_0, s99_1, s99_4, s99_5, s99_8, s99_11, s99_12, s99_15, s99_18, s99_21, s99_22, s99_25, s99_28, s99_31, s99_33, s99_34, s99_35, s99_38, s99_38n, s99_39, s99_40, s99_41, s99_44, s99_47, s99_48, s99_48n, s99_49, s99_52, s99_53, s99_56, s99_59, s99_60, s99_63, s99_66, s99_67, s99_70, s99_73, s99_74, s99_75, s99_78, s99_79, s99_80, s99_83, s99_84, s99_87, s99_90, ltI, geL, leL, not_true_eq_false, not_false_eq_true, if_true, if_false, and_self, and_true, true_and, and_false, false_and, or_self, or_true, true_or, or_false, false_or, bo_T, bo_F, bo_e0, nI10, nI00, nI11, nI01, bo_e1, nem, eqL, af_v, af_0, rf_s, rf_n, nn, ite_self, ly0, p0_0, p0_1, p0_2, p0_3, p0_4, p0_5, p0_6, p0_7, p0_8, p0_9, ly1, p1_0, k3, cs, e1, c1, cw]
  · have c1 : (nI n ≤ nI (prun f n 0 be0).1) = False := by rw [leN (by omega) (by omega)]; exact eq_false (by omega)
    rw [e99]
    simp (discharger := (first | omega | decide | assumption | exact rg_lt | exact rg_ly | (simp only [ly0, p0_0, p0_1, p0_2, p0_3, p0_4, p0_5, p0_6, p0_7, p0_8, p0_9, ly1, p1_0]; omega))) only [s99_0, s99_1, s99_4, s99_5, s99_8, s99_11, s99_12, s99_15, s99_18, s99_21, s99_22, s99_25, s99_28, s99_31, s99_33, s99_34, s99_35, s99_38, s99_38n, s99_39, s99_40, s99_41, s99_44, s99_47, s99_48, s99_48n, s99_49, s99_52, s99_53, s99_56, s99_59, s99_60, s99_63, s99_66, s99_67, s99_70, s99_73, s99_74, s99_75, s99_78, s99_79, s99_80, s99_83, s99_84, s99_87, s99_90, ltI, geL, leL, not_true_eq_false, not_false_eq_true, if_true, if_false, and_self, and_true, true_and, and_false, false_and, or_self, or_true, true_or, or_false, false_or, bo_T, bo_F, bo_e0, nI10, nI00, nI11, nI01, bo_e1, nem, eqL, af_v, af_0, rf_s, rf_n, nn, ite_self, ly0, p0_0, p0_1, p0_2, p0_3, p0_4, p0_5, p0_6, p0_7, p0_8, p0_9, ly1, p1_0, k3, cs, e1, c1]
theorem c_births_2 (hn : I 1 1 = nI n) (hn2 : n ≤ 32) (hf : ∀ k, k < n → I 2 k = nI (f k) ∧ f k ≤ 126) (h : okB f n) : ∃ J1 : sm_Im, FR (rg (!sw)) I J1 ∧ RB (rg (!sw)) J1 (prun f n 0 be0).2 ∧ sm_ex (d + 6) 99 [.ref 0] 81 I L (pX sw) = some (some (.int (nI ((prun f n 0 be0).2 0 0))), 81, sm_up (sm_up (sm_up (sm_up J1 1 1 (nI 0)) 3 3 (nI 0)) 23 4 (nI 0)) 0 10 (I 0 10 + nI 1), L, pX (!sw)) := by
  have A := RA_rg (!sw)
  have hge := rg_ge (!sw)
  obtain ⟨J1, k1, k2, k3⟩ := c_readFrom (d := d) (L := L) (sw := sw) A hge hn hn2 hf
  have R := k2 h.1
  refine ⟨J1, k1, R, ?_⟩
  have a1 := A.1
  have a2 := A.2.1
  have e1 : J1 1 1 = nI n := by rw [k1 1 (by omega)]; exact hn
  have cs : sm_ex (d + 5) 50 [.ref 1] 81 J1 L (pX sw) = _ := c_psize
  have cw : sm_ex (d + 5) 58 [.ref (rg (!sw))] 81 J1 L (pX sw) = _ := c_isWhole (d := d + 3) A R (prun_PV f n 0 be0 PV_0)
  rw [botx h.2] at cw
  have c1 : (nI n ≤ nI (prun f n 0 be0).1) = True := by rw [h.1]; exact eq_true (Int32.le_refl _)
  have e10 : sm_up (sm_up (sm_up J1 1 1 (nI 0)) 3 3 (nI 0)) 23 4 (nI 0) 0 10 = I 0 10 := by rw [up_row (by decide), up_row (by decide), up_row (by decide), k1 0 (by omega)]
  have e2 : ∀ v, sm_up (sm_up (sm_up (sm_up J1 1 1 (nI 0)) 3 3 (nI 0)) 23 4 (nI 0)) 0 10 v (rg (!sw)) 2 = nI ((prun f n 0 be0).2 0 0) := fun v => by
    rw [up_row (by omega), up_row (by omega), up_row (by omega), up_row (by omega)]; exact R.1
  rw [e99]
  simp (discharger := (first | omega | decide | assumption | exact rg_lt | exact rg_ly | (simp only [ly0, p0_0, p0_1, p0_2, p0_3, p0_4, p0_5, p0_6, p0_7, p0_8, p0_9, ly1, p1_0, ly3, p3_0, p3_1, p3_2, ly23, p23_0, p23_1, p23_2, p23_3]; omega))) only [s99_0, s99_1, s99_4, s99_5, s99_8, s99_11, s99_12, s99_15, s99_18, s99_21, s99_22, s99_25, s99_28, s99_31, s99_33, s99_34, s99_35, s99_38, s99_38n, s99_39, s99_40, s99_41, s99_44, s99_47, s99_48, s99_48n, s99_49, s99_52, s99_53, s99_56, s99_59, s99_60, s99_63, s99_66, s99_67, s99_70, s99_73, s99_74, s99_75, s99_78, s99_79, s99_80, s99_83, s99_84, s99_87, s99_90, ltI, geL, leL, not_true_eq_false, not_false_eq_true, if_true, if_false, and_self, and_true, true_and, and_false, false_and, or_self, or_true, true_or, or_false, false_or, bo_T, bo_F, bo_e0, nI10, nI00, nI11, nI01, bo_e1, nem, eqL, af_v, af_0, rf_s, rf_n, nn, ite_self, ly0, p0_0, p0_1, p0_2, p0_3, p0_4, p0_5, p0_6, p0_7, p0_8, p0_9, ly1, p1_0, ly3, p3_0, p3_1, p3_2, ly23, p23_0, p23_1, p23_2, p23_3, k3, cs, e1, c1, cw, pX_sw, c_pclear, c_tclear, c_spoil, e10, r_size A, e2, sm_cl]
/-- the reference's births -/
theorem m_bi_1 : ∀ (g i : Nat), i + g = 10 → ∀ (J : sm_Im), (∀ r, r ≠ 69 → J r = I r) → (∀ x, x < i → J 69 x = -1) → ∃ J1 : sm_Im, (∀ r, r ≠ 69 → J1 r = I r) ∧ (∀ x, x < 10 → J1 69 x = -1) ∧ sm_at (sm_ex d) none 158 33 [some (.ref 63), some (.int (nI i))] [] 81 J L (pX sw) = sm_at (sm_ex d) none 158 54 [some (.ref 63), some (.int (nI 0))] [] 81 J1 L (pX sw) := by
  intro g
  induction g with
  | zero =>
    intro i hi J hJ h
    obtain rfl : i = 10 := by omega
    refine ⟨J, hJ, h, ?_⟩
    rw [s158_33]
    simp (discharger := (first | omega | decide | assumption | exact rg_lt | exact rg_ly | (simp only [ly63, p63_0, p63_1, p63_2, p63_7, p63_10, p63_11, p63_13, p63_14, p63_16, p63_18, p63_22, p63_23, p63_24, p63_30, p63_31, p63_32, p63_33]; omega))) only [s158_0, s158_1, s158_4, s158_5, s158_8, s158_11, s158_12, s158_15, s158_18, s158_20, s158_21, s158_22, s158_23, s158_26, s158_27, s158_28, s158_31, s158_32, s158_34, s158_36, s158_39, s158_40, s158_43, s158_44, s158_45, s158_46, s158_49, s158_52, s158_53, s158_55, s158_57, s158_58, s158_61, s158_62, s158_65, s158_66, s158_69, s158_70, s158_71, s158_74, s158_75, s158_76, s158_77, s158_78, s158_80, s158_81, s158_82, s158_85, s158_86, s158_89, s158_90, s158_91, s158_92, s158_95, s158_96, s158_99, s158_100, s158_103, s158_104, s158_105, s158_106, s158_108, s158_109, s158_110, s158_113, s158_116, s158_117, s158_118, s158_121, s158_122, s158_123, s158_126, s158_127, s158_128, s158_131, s158_132, s158_133, s158_136, s158_137, s158_140, ltI, geL, leL, not_true_eq_false, not_false_eq_true, if_true, if_false, and_self, and_true, true_and, and_false, false_and, or_self, or_true, true_or, or_false, false_or, bo_T, bo_F, bo_e0, nI10, nI00, nI11, nI01, bo_e1, nem, eqL, af_v, af_0, rf_s, rf_n, nn, ite_self, ly63, p63_0, p63_1, p63_2, p63_7, p63_10, p63_11, p63_13, p63_14, p63_16, p63_18, p63_22, p63_23, p63_24, p63_30, p63_31, p63_32, p63_33, Int32.le_refl, sm_cl]
  | succ g ih =>
    intro i hi J hJ h
    have c1 : ¬ 10 ≤ i := by omega
    obtain ⟨J1, g1, g2, g3⟩ := ih (i + 1) (by omega) (sm_up J 69 i (-1)) (fun r hr => by rw [up_row hr]; exact hJ r hr) (fun x hx => by
      rw [up_at]
      by_cases e : x = i
      · rw [if_pos e]
      · rw [if_neg e]; exact h x (by omega))
    refine ⟨J1, g1, g2, ?_⟩
    rw [← g3, s158_33]
    simp (discharger := (first | omega | decide | assumption | exact rg_lt | exact rg_ly | (simp only [ly63, p63_0, p63_1, p63_2, p63_7, p63_10, p63_11, p63_13, p63_14, p63_16, p63_18, p63_22, p63_23, p63_24, p63_30, p63_31, p63_32, p63_33, ly69, al69]; omega))) only [s158_0, s158_1, s158_4, s158_5, s158_8, s158_11, s158_12, s158_15, s158_18, s158_20, s158_21, s158_22, s158_23, s158_26, s158_27, s158_28, s158_31, s158_32, s158_34, s158_36, s158_39, s158_40, s158_43, s158_44, s158_45, s158_46, s158_49, s158_52, s158_53, s158_55, s158_57, s158_58, s158_61, s158_62, s158_65, s158_66, s158_69, s158_70, s158_71, s158_74, s158_75, s158_76, s158_77, s158_78, s158_80, s158_81, s158_82, s158_85, s158_86, s158_89, s158_90, s158_91, s158_92, s158_95, s158_96, s158_99, s158_100, s158_103, s158_104, s158_105, s158_106, s158_108, s158_109, s158_110, s158_113, s158_116, s158_117, s158_118, s158_121, s158_122, s158_123, s158_126, s158_127, s158_128, s158_131, s158_132, s158_133, s158_136, s158_137, s158_140, ltI, geL, leL, not_true_eq_false, not_false_eq_true, if_true, if_false, and_self, and_true, true_and, and_false, false_and, or_self, or_true, true_or, or_false, false_or, bo_T, bo_F, bo_e0, nI10, nI00, nI11, nI01, bo_e1, nem, eqL, af_v, af_0, rf_s, rf_n, nn, ite_self, ly63, p63_0, p63_1, p63_2, p63_7, p63_10, p63_11, p63_13, p63_14, p63_16, p63_18, p63_22, p63_23, p63_24, p63_30, p63_31, p63_32, p63_33, ly69, al69, leN, c1, addN, sm_cl]
def asg (β : Nat → Nat → Nat) (i p : Nat) : Int32 := if β 4 p < β 0 0 ∧ 7 * β 4 p + 3 + β 5 p < i then nI (β 4 p) else -1
theorem m_bi_2 (B : BOk β) (h8 : I 63 8 = nI (β 0 0)) (hrow : ∀ k, k < β 0 0 → row I β k) : ∀ (g i : Nat), i + g = 7 * β 0 0 → ∀ (J : sm_Im), (∀ r, r ≠ 68 → r ≠ 69 → J r = I r) → (∀ x, x < i → J 68 x = I 67 x) → (∀ p, p < 10 → J 69 p = asg β i p) → ∃ J1 : sm_Im, (∀ r, r ≠ 68 → r ≠ 69 → J1 r = I r) ∧ (∀ x, x < 7 * β 0 0 → J1 68 x = I 67 x) ∧ (∀ p, p < 10 → J1 69 p = asg β (7 * β 0 0) p) ∧ sm_at (sm_ex d) none 158 54 [some (.ref 63), some (.int (nI i))] [] 81 J L (pX sw) = sm_at (sm_ex d) none 158 116 [some (.ref 63), some (.int (nI (7 * β 0 0)))] [] 81 J1 L (pX sw) := by
  obtain ⟨B1, B2, B3⟩ := B
  intro g
  induction g with
  | zero =>
    intro i hi J hJ h1 h2
    obtain rfl : i = 7 * β 0 0 := by omega
    refine ⟨J, hJ, h1, h2, ?_⟩
    have e8 : J 63 8 = nI (β 0 0) := by rw [hJ 63 (by decide) (by decide)]; exact h8
    rw [s158_54]
    simp (discharger := (first | omega | decide | assumption | exact rg_lt | exact rg_ly | (simp only [ly63, p63_0, p63_1, p63_2, p63_7, p63_10, p63_11, p63_13, p63_14, p63_16, p63_18, p63_22, p63_23, p63_24, p63_30, p63_31, p63_32, p63_33]; omega))) only [s158_0, s158_1, s158_4, s158_5, s158_8, s158_11, s158_12, s158_15, s158_18, s158_20, s158_21, s158_22, s158_23, s158_26, s158_27, s158_28, s158_31, s158_32, s158_34, s158_36, s158_39, s158_40, s158_43, s158_44, s158_45, s158_46, s158_49, s158_52, s158_53, s158_55, s158_57, s158_58, s158_61, s158_62, s158_65, s158_66, s158_69, s158_70, s158_71, s158_74, s158_75, s158_76, s158_77, s158_78, s158_80, s158_81, s158_82, s158_85, s158_86, s158_89, s158_90, s158_91, s158_92, s158_95, s158_96, s158_99, s158_100, s158_103, s158_104, s158_105, s158_106, s158_108, s158_109, s158_110, s158_113, s158_117, s158_118, s158_121, s158_122, s158_123, s158_126, s158_127, s158_128, s158_131, s158_132, s158_133, s158_136, s158_137, s158_140, ltI, geL, leL, not_true_eq_false, not_false_eq_true, if_true, if_false, and_self, and_true, true_and, and_false, false_and, or_self, or_true, true_or, or_false, false_or, bo_T, bo_F, bo_e0, nI10, nI00, nI11, nI01, bo_e1, nem, eqL, af_v, af_0, rf_s, rf_n, nn, ite_self, ly63, p63_0, p63_1, p63_2, p63_7, p63_10, p63_11, p63_13, p63_14, p63_16, p63_18, p63_22, p63_23, p63_24, p63_30, p63_31, p63_32, p63_33, e8, mulN, Int32.le_refl]
  | succ g ih =>
    intro i hi J hJ h1 h2
    have c1 : (nI (7 * β 0 0) ≤ nI i) = False := by rw [leN (by omega) (by omega)]; exact eq_false (by omega)
    have e8 : J 63 8 = nI (β 0 0) := by rw [hJ 63 (by decide) (by decide)]; exact h8
    have hk : i / 7 < β 0 0 := by omega
    have hi7 : i = 7 * (i / 7) + i % 7 := by omega
    have hm7 : i % 7 < 7 := Nat.mod_lt _ (by decide)
    obtain ⟨r1, r2, r3, r4, r5⟩ := hrow _ hk
    obtain ⟨b1, b2, b3, b4, b5⟩ := B2 _ hk
    have e1 : nI i / nI 7 = nI (i / 7) := divN (by omega) (by decide) (by decide)
    have e2 : nI i - nI i / nI 7 * nI 7 = nI (i % 7) := remN (by omega) (by decide) (by decide)
    rw [e1, mulN] at e2
    have z7 : ¬ nI 7 = 0 := by decide
    have e67 : J 67 i = I 67 i := by rw [hJ 67 (by decide) (by decide)]
    have e67' : ∀ v, sm_up J 68 i v 67 i = I 67 i := fun v => by rw [up_row (by decide)]; exact e67
    have n68 : ∀ x, x < i + 1 → sm_up J 68 i (I 67 i) 68 x = I 67 x := fun x hx => by
      rw [up_at]
      by_cases e : x = i
      · rw [if_pos e, e]
      · rw [if_neg e]; exact h1 x (by omega)
    have c3 : (nI (i % 7) ≤ nI 2) = (i % 7 ≤ 2) := leN (by omega) (by decide)
    have noth : (∀ p, p < 10 → β 4 p < β 0 0 → ¬ 7 * β 4 p + 3 + β 5 p = i) → ∀ p, p < 10 → sm_up J 68 i (I 67 i) 69 p = asg β (i + 1) p := fun hne p hp => by
      rw [up_row (by decide), h2 p hp]
      unfold asg
      by_cases e : β 4 p < β 0 0
      · have := hne p hp e
        by_cases e3 : 7 * β 4 p + 3 + β 5 p < i
        · rw [if_pos ⟨e, e3⟩, if_pos ⟨e, by omega⟩]
        · rw [if_neg (fun z => e3 z.2), if_neg (fun z => by omega)]
      · rw [if_neg (fun z => e z.1), if_neg (fun z => e z.1)]
    by_cases y2 : i % 7 ≤ 2
    · obtain ⟨J1, g1, g2, g3, g4⟩ := ih (i + 1) (by omega) (sm_up J 68 i (I 67 i)) (fun r a b => by rw [up_row a]; exact hJ r a b) n68 (noth (fun p hp hb z => by have := (B3 p hp hb).1; have := (B2 _ hb).2.2.2.1; omega))
      refine ⟨J1, g1, g2, g3, ?_⟩
      rw [← g4, s158_54]
      simp (discharger := (first | omega | decide | assumption | exact rg_lt | exact rg_ly | (simp only [ly63, p63_0, p63_1, p63_2, p63_7, p63_10, p63_11, p63_13, p63_14, p63_16, p63_18, p63_22, p63_23, p63_24, p63_30, p63_31, p63_32, p63_33, ly67, al67, ly68, al68]; omega))) only [s158_0, s158_1, s158_4, s158_5, s158_8, s158_11, s158_12, s158_15, s158_18, s158_20, s158_21, s158_22, s158_23, s158_26, s158_27, s158_28, s158_31, s158_32, s158_34, s158_36, s158_39, s158_40, s158_43, s158_44, s158_45, s158_46, s158_49, s158_52, s158_53, s158_55, s158_57, s158_58, s158_61, s158_62, s158_65, s158_66, s158_69, s158_70, s158_71, s158_74, s158_75, s158_76, s158_77, s158_78, s158_80, s158_81, s158_82, s158_85, s158_86, s158_89, s158_90, s158_91, s158_92, s158_95, s158_96, s158_99, s158_100, s158_103, s158_104, s158_105, s158_106, s158_108, s158_109, s158_110, s158_113, s158_117, s158_118, s158_121, s158_122, s158_123, s158_126, s158_127, s158_128, s158_131, s158_132, s158_133, s158_136, s158_137, s158_140, ltI, geL, leL, not_true_eq_false, not_false_eq_true, if_true, if_false, and_self, and_true, true_and, and_false, false_and, or_self, or_true, true_or, or_false, false_or, bo_T, bo_F, bo_e0, nI10, nI00, nI11, nI01, bo_e1, nem, eqL, af_v, af_0, rf_s, rf_n, nn, ite_self, ly63, p63_0, p63_1, p63_2, p63_7, p63_10, p63_11, p63_13, p63_14, p63_16, p63_18, p63_22, p63_23, p63_24, p63_30, p63_31, p63_32, p63_33, ly67, al67, ly68, al68, e8, mulN, c1, e67, e1, e2, c3, y2, addN, sm_cl]
    · by_cases y3 : i % 7 - 3 < β 3 (i / 7)
      · have e4 := r4 _ y3
        rw [show 7 * (i / 7) + 3 + (i % 7 - 3) = i by omega] at e4
        obtain ⟨w1, w2, w3⟩ := b5 _ y3
        have nm : (nI (β (6 + i / 7) (i % 7 - 3)) = -1) = False := neN1 (by omega)
        rw [e4] at n68 noth e67 e67'
        obtain ⟨J1, g1, g2, g3, g4⟩ := ih (i + 1) (by omega) (sm_up (sm_up J 68 i (nI (β (6 + i / 7) (i % 7 - 3)))) 69 (β (6 + i / 7) (i % 7 - 3)) (nI (i / 7))) (fun r a b => by rw [up_row b, up_row a]; exact hJ r a b) (fun x hx => by rw [up_row (by decide)]; exact n68 x hx) (fun p hp => by
          rw [up_at]
          by_cases e : p = β (6 + i / 7) (i % 7 - 3)
          · rw [if_pos e, e]
            unfold asg
            rw [w2, w3, if_pos ⟨hk, by omega⟩]
          · rw [if_neg e, up_row (by decide), h2 p hp]
            unfold asg
            by_cases e3 : β 4 p < β 0 0
            · have hb := B3 p hp e3
              have b4' := (B2 _ e3).2.2.2.1
              have hne : ¬ 7 * β 4 p + 3 + β 5 p = i := fun z => e (by
                have q1 : β 4 p = i / 7 := by omega
                have q2 : β 5 p = i % 7 - 3 := by omega
                rw [← q1, ← q2]; exact hb.2.symm)
              by_cases e5 : 7 * β 4 p + 3 + β 5 p < i
              · rw [if_pos ⟨e3, e5⟩, if_pos ⟨e3, by omega⟩]
              · rw [if_neg (fun z => e5 z.2), if_neg (fun z => by omega)]
            · rw [if_neg (fun z => e3 z.1), if_neg (fun z => e3 z.1)])
        refine ⟨J1, g1, g2, g3, ?_⟩
        rw [← g4, s158_54]
        simp (discharger := (first | omega | decide | assumption | exact rg_lt | exact rg_ly | (simp only [ly63, p63_0, p63_1, p63_2, p63_7, p63_10, p63_11, p63_13, p63_14, p63_16, p63_18, p63_22, p63_23, p63_24, p63_30, p63_31, p63_32, p63_33, ly67, al67, ly68, al68, ly69, al69]; omega))) only [s158_0, s158_1, s158_4, s158_5, s158_8, s158_11, s158_12, s158_15, s158_18, s158_20, s158_21, s158_22, s158_23, s158_26, s158_27, s158_28, s158_31, s158_32, s158_34, s158_36, s158_39, s158_40, s158_43, s158_44, s158_45, s158_46, s158_49, s158_52, s158_53, s158_55, s158_57, s158_58, s158_61, s158_62, s158_65, s158_66, s158_69, s158_70, s158_71, s158_74, s158_75, s158_76, s158_77, s158_78, s158_80, s158_81, s158_82, s158_85, s158_86, s158_89, s158_90, s158_91, s158_92, s158_95, s158_96, s158_99, s158_100, s158_103, s158_104, s158_105, s158_106, s158_108, s158_109, s158_110, s158_113, s158_117, s158_118, s158_121, s158_122, s158_123, s158_126, s158_127, s158_128, s158_131, s158_132, s158_133, s158_136, s158_137, s158_140, ltI, geL, leL, not_true_eq_false, not_false_eq_true, if_true, if_false, and_self, and_true, true_and, and_false, false_and, or_self, or_true, true_or, or_false, false_or, bo_T, bo_F, bo_e0, nI10, nI00, nI11, nI01, bo_e1, nem, eqL, af_v, af_0, rf_s, rf_n, nn, ite_self, ly63, p63_0, p63_1, p63_2, p63_7, p63_10, p63_11, p63_13, p63_14, p63_16, p63_18, p63_22, p63_23, p63_24, p63_30, p63_31, p63_32, p63_33, ly67, al67, ly68, al68, ly69, al69, e8, mulN, c1, e67, e67', e1, e2, c3, y2, nm, addN, sm_cl]
      · have e4 := r5 (i % 7 - 3) (by omega) (by omega)
        rw [show 7 * (i / 7) + 3 + (i % 7 - 3) = i by omega] at e4
        rw [e4] at n68 noth e67 e67'
        obtain ⟨J1, g1, g2, g3, g4⟩ := ih (i + 1) (by omega) (sm_up J 68 i (-1)) (fun r a b => by rw [up_row a]; exact hJ r a b) n68 (noth (fun p hp hb z => by
          have hb' := (B3 p hp hb).1
          have := (B2 _ hb).2.2.2.1
          have q1 : β 4 p = i / 7 := by omega
          rw [q1] at hb'
          omega))
        refine ⟨J1, g1, g2, g3, ?_⟩
        rw [← g4, s158_54]
        simp (discharger := (first | omega | decide | assumption | exact rg_lt | exact rg_ly | (simp only [ly63, p63_0, p63_1, p63_2, p63_7, p63_10, p63_11, p63_13, p63_14, p63_16, p63_18, p63_22, p63_23, p63_24, p63_30, p63_31, p63_32, p63_33, ly67, al67, ly68, al68]; omega))) only [s158_0, s158_1, s158_4, s158_5, s158_8, s158_11, s158_12, s158_15, s158_18, s158_20, s158_21, s158_22, s158_23, s158_26, s158_27, s158_28, s158_31, s158_32, s158_34, s158_36, s158_39, s158_40, s158_43, s158_44, s158_45, s158_46, s158_49, s158_52, s158_53, s158_55, s158_57, s158_58, s158_61, s158_62, s158_65, s158_66, s158_69, s158_70, s158_71, s158_74, s158_75, s158_76, s158_77, s158_78, s158_80, s158_81, s158_82, s158_85, s158_86, s158_89, s158_90, s158_91, s158_92, s158_95, s158_96, s158_99, s158_100, s158_103, s158_104, s158_105, s158_106, s158_108, s158_109, s158_110, s158_113, s158_117, s158_118, s158_121, s158_122, s158_123, s158_126, s158_127, s158_128, s158_131, s158_132, s158_133, s158_136, s158_137, s158_140, ltI, geL, leL, not_true_eq_false, not_false_eq_true, if_true, if_false, and_self, and_true, true_and, and_false, false_and, or_self, or_true, true_or, or_false, false_or, bo_T, bo_F, bo_e0, nI10, nI00, nI11, nI01, bo_e1, nem, eqL, af_v, af_0, rf_s, rf_n, nn, ite_self, ly63, p63_0, p63_1, p63_2, p63_7, p63_10, p63_11, p63_13, p63_14, p63_16, p63_18, p63_22, p63_23, p63_24, p63_30, p63_31, p63_32, p63_33, ly67, al67, ly68, al68, e8, mulN, c1, e67, e67', e1, e2, c3, y2, addN, sm_cl]
theorem m_births_1 (hn : I 63 3 = nI n) (hn2 : n ≤ 32) (hf : ∀ k, k < n → I 66 k = nI (f k) ∧ f k ≤ 126) (h : ¬ okB f n) : ∃ J1 : sm_Im, FM I J1 ∧ sm_ex (d + 6) 158 [.ref 63] 81 I L (pX sw) = some (some (.int (-103)), 81, J1, L, pX sw) := by
  obtain ⟨J1, k1, k2, k3⟩ := m_faultOf (d := d) (L := L) (sw := sw) hn hn2 hf
  have hle := prun_le f n 0 be0
  refine ⟨J1, k1, ?_⟩
  have e1 : J1 63 3 = nI n := by rw [k1.2 3 (by decide) (by decide) (by decide)]; exact hn
  by_cases c : (prun f n 0 be0).1 = n
  · have hw : ¬ whl (prun f n 0 be0).2 := fun z => h ⟨c, z⟩
    have V := prun_PV f n 0 be0 PV_0
    obtain ⟨R1, R2, R3, R4⟩ := k2 c
    generalize (prun f n 0 be0).2 = β at *
    have V1 := V.1
    obtain ⟨v1, v2, v3, -⟩ := V.2.1 (β 0 0 - 1) (by omega)
    have c1 : (nI n ≤ nI (prun f n 0 be0).1) = True := by rw [c]; exact eq_true (Int32.le_refl _)
    have ib : sm_ex (d + 5) 154 [.ref 63] 81 J1 L (pX sw) = some (some (.int (nI 0)), 81, J1, L, pX sw) := by
      by_cases hs : sta β = 2
      · have nf : ¬ frs β := fun z => by unfold sta at hs; rw [if_pos z] at hs; cases hs
        obtain ⟨r1, r2, -⟩ := R4 (β 0 0 - 1) (by omega) (Or.inr nf)
        have := m_isBirth_2 (d := d + 4) (L := L) (sw := sw) R1 (by omega) r1 v1 r2 v3 (by rw [R2, hs])
        rw [bofx hw] at this
        exact this
      · refine m_isBirth_n (s := sta β) R1 (by omega) R2 ?_
        unfold sta at hs ⊢
        by_cases q1 : frs β
        · rw [if_pos q1]; omega
        · rw [if_neg q1] at hs ⊢
          by_cases q2 : wnt β
          · rw [if_pos q2]; omega
          · rw [if_neg q2] at hs; exact absurd rfl hs
    rw [e158]
    simp (discharger := (first | omega | decide | assumption | exact rg_lt | exact rg_ly | (simp only [ly63, p63_0, p63_1, p63_2, p63_7, p63_10, p63_11, p63_13, p63_14, p63_16, p63_18, p63_22, p63_23, p63_24, p63_30, p63_31, p63_32, p63_33]; omega))) only [s158_0, s158_1, s158_4, s158_5, s158_8, s158_11, s158_12, s158_15, s158_18, s158_20, s158_21, s158_22, s158_23, s158_26, s158_27, s158_28, s158_31, s158_32, s158_34, s158_36, s158_39, s158_40, s158_43, s158_44, s158_45, s158_46, s158_49, s158_52, s158_53, s158_55, s158_57, s158_58, s158_61, s158_62, s158_65, s158_66, s158_69, s158_70, s158_71, s158_74, s158_75, s158_76, s158_77, s158_78, s158_80, s158_81, s158_82, s158_85, s158_86, s158_89, s158_90, s158_91, s158_92, s158_95, s158_96, s158_99, s158_100, s158_103, s158_104, s158_105, s158_106, s158_108, s158_109, s158_110, s158_113, s158_116, s158_117, s158_118, s158_121, s158_122, s158_123, s158_126, s158_127, s158_128, s158_131, s158_132, s158_133, s158_136, s158_137, s158_140, ltI, geL, leL, not_true_eq_false, not_false_eq_true, if_true, if_false, and_self, and_true, true_and, and_false, false_and, or_self, or_true, true_or, or_false, false_or, bo_T, bo_F, bo_e0, nI10, nI00, nI11, nI01, bo_e1, nem, eqL, af_v, af_0, rf_s, rf_n, nn, ite_self, ly63, p63_0, p63_1, p63_2, p63_7, p63_10, p63_11, p63_13, p63_14, p63_16, p63_18, p63_22, p63_23, p63_24, p63_30, p63_31, p63_32, p63_33, k3, e1, c1, ib]
  · have c1 : (nI n ≤ nI (prun f n 0 be0).1) = False := by rw [leN (by omega) (by omega)]; exact eq_false (by omega)
    rw [e158]
    simp (discharger := (first | omega | decide | assumption | exact rg_lt | exact rg_ly | (simp only [ly63, p63_0, p63_1, p63_2, p63_7, p63_10, p63_11, p63_13, p63_14, p63_16, p63_18, p63_22, p63_23, p63_24, p63_30, p63_31, p63_32, p63_33]; omega))) only [s158_0, s158_1, s158_4, s158_5, s158_8, s158_11, s158_12, s158_15, s158_18, s158_20, s158_21, s158_22, s158_23, s158_26, s158_27, s158_28, s158_31, s158_32, s158_34, s158_36, s158_39, s158_40, s158_43, s158_44, s158_45, s158_46, s158_49, s158_52, s158_53, s158_55, s158_57, s158_58, s158_61, s158_62, s158_65, s158_66, s158_69, s158_70, s158_71, s158_74, s158_75, s158_76, s158_77, s158_78, s158_80, s158_81, s158_82, s158_85, s158_86, s158_89, s158_90, s158_91, s158_92, s158_95, s158_96, s158_99, s158_100, s158_103, s158_104, s158_105, s158_106, s158_108, s158_109, s158_110, s158_113, s158_116, s158_117, s158_118, s158_121, s158_122, s158_123, s158_126, s158_127, s158_128, s158_131, s158_132, s158_133, s158_136, s158_137, s158_140, ltI, geL, leL, not_true_eq_false, not_false_eq_true, if_true, if_false, and_self, and_true, true_and, and_false, false_and, or_self, or_true, true_or, or_false, false_or, bo_T, bo_F, bo_e0, nI10, nI00, nI11, nI01, bo_e1, nem, eqL, af_v, af_0, rf_s, rf_n, nn, ite_self, ly63, p63_0, p63_1, p63_2, p63_7, p63_10, p63_11, p63_13, p63_14, p63_16, p63_18, p63_22, p63_23, p63_24, p63_30, p63_31, p63_32, p63_33, k3, e1, c1]
theorem m_births_2 (hn : I 63 3 = nI n) (hn2 : n ≤ 32) (hf : ∀ k, k < n → I 66 k = nI (f k) ∧ f k ≤ 126) (h : okB f n) : ∃ J1 : sm_Im, (∀ c, c ≠ 63 → c ≠ 67 → c ≠ 68 → c ≠ 69 → J1 c = I c) ∧ (∀ k, k ≠ 3 → k ≠ 4 → k ≠ 5 → k ≠ 6 → k ≠ 8 → k ≠ 9 → k ≠ 12 → J1 63 k = I 63 k) ∧ J1 63 12 = nI 0 ∧ J1 63 9 = I 63 9 + nI 1 ∧ J1 63 3 = nI 0 ∧ RMB J1 (prun f n 0 be0).2 ∧ sm_ex (d + 6) 158 [.ref 63] 81 I L (pX sw) = some (some (.int (nI ((prun f n 0 be0).2 0 0))), 81, J1, L, pX sw) := by
  obtain ⟨J0, k1, k2, k3⟩ := m_faultOf (d := d) (L := L) (sw := sw) hn hn2 hf
  have e1 : J0 63 3 = nI n := by rw [k1.2 3 (by decide) (by decide) (by decide)]; exact hn
  have V := prun_PV f n 0 be0 PV_0
  obtain ⟨R1, R2, R3, R4⟩ := k2 h.1
  have hw := h.2
  have c1 : (nI n ≤ nI (prun f n 0 be0).1) = True := by rw [h.1]; exact eq_true (Int32.le_refl _)
  generalize (prun f n 0 be0).2 = β at *
  have V1 := V.1
  have B := PV_BOk V hw
  obtain ⟨v1, v2, v3, v4, v5, v6, v7⟩ := V.2.1 (β 0 0 - 1) (by omega)
  have hw2 := (B.2.1 (β 0 0 - 1) (by omega)).2.2.1
  have nf : ¬ frs β := fun z => by have := z.2; omega
  have nw : ¬ wnt β := fun z => by have := v6 z; omega
  have s2 : sta β = 2 := by unfold sta; rw [if_neg nf, if_neg nw]
  have hrow : ∀ k, k < β 0 0 → row J0 β k := fun k hk => R4 k hk (Or.inr nf)
  obtain ⟨r1, r2, -⟩ := hrow (β 0 0 - 1) (by omega)
  have ib : sm_ex (d + 5) 154 [.ref 63] 81 J0 L (pX sw) = _ := m_isBirth_2 (d := d + 4) (L := L) (sw := sw) R1 (by omega) r1 v1 r2 v3 (by rw [R2, s2])
  rw [botx hw] at ib
  have ea : β 0 0 - 1 + 1 = β 0 0 := by omega
  obtain ⟨J2, f1, f2, f3⟩ := m_bi_1 (d := d + 5) (L := L) (sw := sw) 10 0 rfl (sm_up J0 63 8 (nI (β 0 0))) (fun r _ => rfl) (fun x hx => absurd hx (Nat.not_lt_zero _))
  have hJ2 : ∀ c, c ≠ 63 → c ≠ 69 → J2 c = J0 c := fun c a b => by rw [f1 c b, up_row a]
  have hrow2 : ∀ k, k < β 0 0 → row J2 β k := fun k hk => by
    have := hrow k hk
    unfold row at this ⊢
    rw [hJ2 67 (by decide) (by decide)]
    exact this
  have e8 : J2 63 8 = nI (β 0 0) := by rw [f1 63 (by decide), up_same]
  obtain ⟨J3, p1, p2, p3, p4⟩ := m_bi_2 (d := d + 5) (L := L) (sw := sw) B e8 hrow2 (7 * β 0 0) 0 (Nat.zero_add _) J2 (fun r _ _ => rfl) (fun x hx => absurd hx (Nat.not_lt_zero _)) (fun p hp => by rw [f2 p hp]; unfold asg; rw [if_neg (fun z => by omega)])
  have h63 : ∀ k, k ≠ 4 → k ≠ 5 → k ≠ 6 → k ≠ 8 → J3 63 k = I 63 k := fun k a b c d => by rw [p1 63 (by decide) (by decide), f1 63 (by decide), up_cell (by omega), k1.2 k a b c]
  have e38 : ∀ v w u, sm_up (sm_up (sm_up J3 63 12 v) 63 9 w) 63 3 u 63 8 = nI (β 0 0) := fun v w u => by rw [up_cell (by decide), up_cell (by decide), up_cell (by decide), p1 63 (by decide) (by decide)]; exact e8
  have e39 : sm_up J3 63 12 (nI 0) 63 9 = I 63 9 := by rw [up_cell (by decide), h63 9 (by decide) (by decide) (by decide) (by decide)]
  refine ⟨sm_up (sm_up (sm_up J3 63 12 (nI 0)) 63 9 (I 63 9 + nI 1)) 63 3 (nI 0), fun c a b e g => ?_, fun k a b c e g i j => ?_, ?_, ?_, ?_, ?_, ?_⟩
  · rw [up_row a, up_row a, up_row a, p1 c e g, hJ2 c a g, k1.1 c a b]
  · rw [up_cell (by omega), up_cell (by omega), up_cell (by omega), h63 k b c e g]
  · rw [up_cell (by decide), up_cell (by decide), up_same]
  · rw [up_cell (by decide), up_same]
  · rw [up_same]
  · refine ⟨e38 _ _ _, fun k hk => ?_, fun p hp => ?_⟩
    · obtain ⟨r1, r2, r3, r4, r5⟩ := hrow2 k hk
      have b4 := (B.2.1 k hk).2.2.2.1
      rw [up_row (by decide), up_row (by decide), up_row (by decide)]
      exact ⟨by rw [p2 _ (by omega)]; exact r1, by rw [p2 _ (by omega)]; exact r2, by rw [p2 _ (by omega)]; exact r3, fun j hj => by rw [p2 _ (by omega)]; exact r4 j hj, fun j hj hj4 => by rw [p2 _ (by omega)]; exact r5 j hj hj4⟩
    · rw [up_row (by decide), up_row (by decide), up_row (by decide), p3 p hp]
      unfold asg
      by_cases e : β 4 p < β 0 0
      · have := (B.2.2 p hp e).1
        have := (B.2.1 _ e).2.2.2.1
        rw [if_pos e, if_pos ⟨e, by omega⟩]
      · rw [if_neg e, if_neg (fun z => e z.1)]
  · rw [e158]
    simp (discharger := (first | omega | decide | assumption | exact rg_lt | exact rg_ly | (simp only [ly63, p63_0, p63_1, p63_2, p63_7, p63_10, p63_11, p63_13, p63_14, p63_16, p63_18, p63_22, p63_23, p63_24, p63_30, p63_31, p63_32, p63_33]; omega))) only [s158_0, s158_1, s158_4, s158_5, s158_8, s158_11, s158_12, s158_15, s158_18, s158_20, s158_21, s158_22, s158_23, s158_26, s158_27, s158_28, s158_31, s158_32, s158_34, s158_36, s158_39, s158_40, s158_43, s158_44, s158_45, s158_46, s158_49, s158_52, s158_53, s158_55, s158_57, s158_58, s158_61, s158_62, s158_65, s158_66, s158_69, s158_70, s158_71, s158_74, s158_75, s158_76, s158_77, s158_78, s158_80, s158_81, s158_82, s158_85, s158_86, s158_89, s158_90, s158_91, s158_92, s158_95, s158_96, s158_99, s158_100, s158_103, s158_104, s158_105, s158_106, s158_108, s158_109, s158_110, s158_113, s158_116, s158_117, s158_118, s158_121, s158_122, s158_123, s158_126, s158_127, s158_128, s158_131, s158_132, s158_133, s158_136, s158_137, s158_140, ltI, geL, leL, not_true_eq_false, not_false_eq_true, if_true, if_false, and_self, and_true, true_and, and_false, false_and, or_self, or_true, true_or, or_false, false_or, bo_T, bo_F, bo_e0, nI10, nI00, nI11, nI01, bo_e1, nem, eqL, af_v, af_0, rf_s, rf_n, nn, ite_self, ly63, p63_0, p63_1, p63_2, p63_7, p63_10, p63_11, p63_13, p63_14, p63_16, p63_18, p63_22, p63_23, p63_24, p63_30, p63_31, p63_32, p63_33, k3, e1, c1, ib, R1, addN, ea, sm_cl]
    rw [f3, p4]
    simp (discharger := (first | omega | decide | assumption | exact rg_lt | exact rg_ly | (simp only [ly63, p63_0, p63_1, p63_2, p63_7, p63_10, p63_11, p63_13, p63_14, p63_16, p63_18, p63_22, p63_23, p63_24, p63_30, p63_31, p63_32, p63_33]; omega))) only [s158_0, s158_1, s158_4, s158_5, s158_8, s158_11, s158_12, s158_15, s158_18, s158_20, s158_21, s158_22, s158_23, s158_26, s158_27, s158_28, s158_31, s158_32, s158_34, s158_36, s158_39, s158_40, s158_43, s158_44, s158_45, s158_46, s158_49, s158_52, s158_53, s158_55, s158_57, s158_58, s158_61, s158_62, s158_65, s158_66, s158_69, s158_70, s158_71, s158_74, s158_75, s158_76, s158_77, s158_78, s158_80, s158_81, s158_82, s158_85, s158_86, s158_89, s158_90, s158_91, s158_92, s158_95, s158_96, s158_99, s158_100, s158_103, s158_104, s158_105, s158_106, s158_108, s158_109, s158_110, s158_113, s158_116, s158_117, s158_118, s158_121, s158_122, s158_123, s158_126, s158_127, s158_128, s158_131, s158_132, s158_133, s158_136, s158_137, s158_140, ltI, geL, leL, not_true_eq_false, not_false_eq_true, if_true, if_false, and_self, and_true, true_and, and_false, false_and, or_self, or_true, true_or, or_false, false_or, bo_T, bo_F, bo_e0, nI10, nI00, nI11, nI01, bo_e1, nem, eqL, af_v, af_0, rf_s, rf_n, nn, ite_self, ly63, p63_0, p63_1, p63_2, p63_7, p63_10, p63_11, p63_13, p63_14, p63_16, p63_18, p63_22, p63_23, p63_24, p63_30, p63_31, p63_32, p63_33, e39, e38]
end BI
