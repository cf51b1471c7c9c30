section PG
theorem up_id {α : Type} {f : Nat → Nat → α} {a k : Nat} {v : α} (h : f a k = v) : sm_up f a k v = f := by
  funext b j; unfold sm_up; by_cases q : b = a ∧ j = k
  · rw [if_pos q, q.1, q.2, h]
  · rw [if_neg q]
theorem up_up {α : Type} {f : Nat → Nat → α} {a k : Nat} {v w : α} : sm_up (sm_up f a k v) a k w = sm_up f a k w := by
  funext b j; unfold sm_up; by_cases q : b = a ∧ j = k <;> simp [q]
theorem up_comm {α : Type} {f : Nat → Nat → α} {a k b j : Nat} {v w : α} (h : ¬ (a = b ∧ k = j)) : sm_up (sm_up f a k v) b j w = sm_up (sm_up f b j w) a k v := by
  funext c i; unfold sm_up
  by_cases q : c = a ∧ i = k
  · by_cases q2 : c = b ∧ i = j
    · exact absurd ⟨q.1.symm.trans q2.1, q.2.symm.trans q2.2⟩ h
    · simp only [if_pos q, if_neg q2]
  · simp only [if_neg q]
variable {d : Nat} {I : sm_Im} {L : sm_Lm} {sw : Bool} {x y z : Int32} {a b m n : Nat} {w : Int64}
theorem c_town_1 (h : ¬ ((nI 0 ≤ x ∧ x ≤ nI 9) ∧ (nI 0 ≤ y ∧ y ≤ nI 5))) : sm_ex (d + 3) 95 [.ref 0, .int x, .int y] 81 I L (pX sw) = some (some (.int (-101)), 81, I, L, pX sw) := by
  rw [e95]
  by_cases h1 : (nI 0 ≤ x ∧ x ≤ nI 9)
  · by_cases h2 : (nI 0 ≤ y ∧ y ≤ nI 5)
    · exact absurd ⟨h1, h2⟩ h
    · simp only [s95_0, s95_1, s95_4, s95_7, s95_8, s95_11, s95_14, s95_16, s95_17, s95_18, s95_21, s95_22, s95_23, s95_24, s95_25, s95_28, s95_29, s95_30, s95_31, s95_32, ltI, geL, leL, not_true_eq_false, not_false_eq_true, if_true, if_false, and_self, and_true, true_and, and_false, false_and, or_self, or_true, true_or, or_false, false_or, bo_T, bo_F, bo_e0, nI10, nI00, nI11, nI01, bo_e1, nem, eqL, af_v, af_0, rf_s, rf_n, nn, ite_self, h_isTown, h_isPerson, h1, h2]
  · simp only [s95_0, s95_1, s95_4, s95_7, s95_8, s95_11, s95_14, s95_16, s95_17, s95_18, s95_21, s95_22, s95_23, s95_24, s95_25, s95_28, s95_29, s95_30, s95_31, s95_32, ltI, geL, leL, not_true_eq_false, not_false_eq_true, if_true, if_false, and_self, and_true, true_and, and_false, false_and, or_self, or_true, true_or, or_false, false_or, bo_T, bo_F, bo_e0, nI10, nI00, nI11, nI01, bo_e1, nem, eqL, af_v, af_0, rf_s, rf_n, nn, ite_self, h_isPerson, h1]
theorem c_town_2 (ha : a < 10) (hb : b < 6) : sm_ex (d + 3) 95 [.ref 0, .int (nI a), .int (nI b)] 81 I L (pX sw) = some (some (.int (I 36 a)), 81, sm_up I 36 a (nI b), L, pX sw) := by
  rw [e95]
  simp (discharger := (first | omega | decide | (simp only [ly0, p0_0, p0_1, p0_2, p0_3, p0_4, p0_5, p0_6, p0_7, p0_8, p0_9, ly36, al36]; omega))) only [s95_0, s95_1, s95_4, s95_7, s95_8, s95_11, s95_14, s95_16, s95_17, s95_18, s95_21, s95_22, s95_23, s95_24, s95_25, s95_28, s95_29, s95_30, s95_31, s95_32, ltI, geL, leL, not_true_eq_false, not_false_eq_true, if_true, if_false, and_self, and_true, true_and, and_false, false_and, or_self, or_true, true_or, or_false, false_or, bo_T, bo_F, bo_e0, nI10, nI00, nI11, nI01, bo_e1, nem, eqL, af_v, af_0, rf_s, rf_n, nn, ite_self, ly0, p0_0, p0_1, p0_2, p0_3, p0_4, p0_5, p0_6, p0_7, p0_8, p0_9, ly36, al36, h_isTown, h_isPerson, ixt, sm_cl]
theorem m_town_1 (h : ¬ ((nI 0 ≤ x ∧ x ≤ nI 9) ∧ (nI 0 ≤ y ∧ y ≤ nI 5))) : sm_ex (d + 3) 150 [.ref 63, .int x, .int y] 81 I L (pX sw) = some (some (.int (-101)), 81, I, L, pX sw) := by
  rw [e150]
  by_cases h1 : (nI 0 ≤ x ∧ x ≤ nI 9)
  · by_cases h2 : (nI 0 ≤ y ∧ y ≤ nI 5)
    · exact absurd ⟨h1, h2⟩ h
    · simp only [s150_0, s150_1, s150_4, s150_7, s150_8, s150_11, s150_14, s150_16, s150_17, s150_18, s150_21, s150_22, s150_23, s150_24, s150_25, s150_28, s150_29, s150_30, s150_31, s150_32, ltI, geL, leL, not_true_eq_false, not_false_eq_true, if_true, if_false, and_self, and_true, true_and, and_false, false_and, or_self, or_true, true_or, or_false, false_or, bo_T, bo_F, bo_e0, nI10, nI00, nI11, nI01, bo_e1, nem, eqL, af_v, af_0, rf_s, rf_n, nn, ite_self, m_isTown, m_isPerson, h1, h2]
  · simp only [s150_0, s150_1, s150_4, s150_7, s150_8, s150_11, s150_14, s150_16, s150_17, s150_18, s150_21, s150_22, s150_23, s150_24, s150_25, s150_28, s150_29, s150_30, s150_31, s150_32, ltI, geL, leL, not_true_eq_false, not_false_eq_true, if_true, if_false, and_self, and_true, true_and, and_false, false_and, or_self, or_true, true_or, or_false, false_or, bo_T, bo_F, bo_e0, nI10, nI00, nI11, nI01, bo_e1, nem, eqL, af_v, af_0, rf_s, rf_n, nn, ite_self, m_isPerson, h1]
theorem m_town_2 (ha : a < 10) (hb : b < 6) : sm_ex (d + 3) 150 [.ref 63, .int (nI a), .int (nI b)] 81 I L (pX sw) = some (some (.int (I 65 a)), 81, sm_up I 65 a (nI b), L, pX sw) := by
  rw [e150]
  simp (discharger := (first | omega | decide | (simp only [ly63, p63_0, p63_1, p63_2, p63_7, p63_10, p63_11, p63_13, p63_14, p63_16, p63_18, p63_22, p63_23, p63_24, p63_30, p63_31, p63_32, p63_33, ly65, al65]; omega))) only [s150_0, s150_1, s150_4, s150_7, s150_8, s150_11, s150_14, s150_16, s150_17, s150_18, s150_21, s150_22, s150_23, s150_24, s150_25, s150_28, s150_29, s150_30, s150_31, s150_32, ltI, geL, leL, not_true_eq_false, not_false_eq_true, if_true, if_false, and_self, and_true, true_and, and_false, false_and, or_self, or_true, true_or, or_false, false_or, bo_T, bo_F, bo_e0, nI10, nI00, nI11, nI01, bo_e1, nem, eqL, af_v, af_0, rf_s, rf_n, nn, ite_self, ly63, p63_0, p63_1, p63_2, p63_7, p63_10, p63_11, p63_13, p63_14, p63_16, p63_18, p63_22, p63_23, p63_24, p63_30, p63_31, p63_32, p63_33, ly65, al65, m_isTown, m_isPerson, ixt, sm_cl]
theorem c_psize : sm_ex (d + 1) 50 [.ref 1] 81 I L (pX sw) = some (some (.int (I 1 1)), 81, I, L, pX sw) := by
  rw [e50]
  simp (discharger := (first | omega | decide | (simp only [ly1, p1_0, ly2, al2]; omega))) only [s50_0, s50_1, s50_4, ltI, geL, leL, not_true_eq_false, not_false_eq_true, if_true, if_false, and_self, and_true, true_and, and_false, false_and, or_self, or_true, true_or, or_false, false_or, bo_T, bo_F, bo_e0, nI10, nI00, nI11, nI01, bo_e1, nem, eqL, af_v, af_0, rf_s, rf_n, nn, ite_self, ly1, p1_0]
theorem c_pclear : sm_ex (d + 1) 52 [.ref 1] 81 I L (pX sw) = some (none, 81, sm_up I 1 1 (nI 0), L, pX sw) := by
  rw [e52]
  simp (discharger := (first | omega | decide | (simp only [ly1, p1_0, ly2, al2]; omega))) only [s52_0, s52_1, s52_2, s52_5, ltI, geL, leL, not_true_eq_false, not_false_eq_true, if_true, if_false, and_self, and_true, true_and, and_false, false_and, or_self, or_true, true_or, or_false, false_or, bo_T, bo_F, bo_e0, nI10, nI00, nI11, nI01, bo_e1, nem, eqL, af_v, af_0, rf_s, rf_n, nn, ite_self, ly1, p1_0]
theorem c_pat (hn : I 1 1 = nI n) (h : n ≤ 32) (ha : a < n) : sm_ex (d + 1) 51 [.ref 1, .int (nI a)] 81 I L (pX sw) = some (some (.int (I 2 a)), 81, I, L, pX sw) := by
  rw [e51]
  have h2 : ¬ n ≤ a := by omega
  have h3 : ¬ 32 ≤ a := by omega
  simp (discharger := (first | omega | decide | (simp only [ly1, p1_0, ly2, al2]; omega))) only [s51_0, s51_1, s51_4, s51_5, s51_6, s51_9, s51_12, s51_13, s51_15, s51_18, s51_19, s51_22, s51_23, s51_24, s51_27, s51_28, ltI, geL, leL, not_true_eq_false, not_false_eq_true, if_true, if_false, and_self, and_true, true_and, and_false, false_and, or_self, or_true, true_or, or_false, false_or, bo_T, bo_F, bo_e0, nI10, nI00, nI11, nI01, bo_e1, nem, eqL, af_v, af_0, rf_s, rf_n, nn, ite_self, ly1, p1_0, ly2, al2, le0, hn, leN, h2, h3]
theorem c_blank : sm_ex (d + 2) 97 [.ref 0] 81 I L (pX sw) = some (some (.int (I 1 1)), 81, sm_up I 1 1 (nI 0), L, pX sw) := by
  rw [e97]
  simp (discharger := (first | omega | decide | (simp only [ly0, p0_0, p0_1, p0_2, p0_3, p0_4, p0_5, p0_6, p0_7, p0_8, p0_9, ly1, p1_0]; omega))) only [s97_0, s97_1, s97_4, s97_7, s97_8, s97_9, s97_12, s97_15, s97_16, ltI, geL, leL, not_true_eq_false, not_false_eq_true, if_true, if_false, and_self, and_true, true_and, and_false, false_and, or_self, or_true, true_or, or_false, false_or, bo_T, bo_F, bo_e0, nI10, nI00, nI11, nI01, bo_e1, nem, eqL, af_v, af_0, rf_s, rf_n, nn, ite_self, ly0, p0_0, p0_1, p0_2, p0_3, p0_4, p0_5, p0_6, p0_7, p0_8, p0_9, ly1, p1_0, c_psize, c_pclear, sm_cl]
theorem m_blank : sm_ex (d + 2) 152 [.ref 63] 81 I L (pX sw) = some (some (.int (I 63 3)), 81, sm_up I 63 3 (nI 0), L, pX sw) := by
  rw [e152]
  simp (discharger := (first | omega | decide | (simp only [ly63, p63_0, p63_1, p63_2, p63_7, p63_10, p63_11, p63_13, p63_14, p63_16, p63_18, p63_22, p63_23, p63_24, p63_30, p63_31, p63_32, p63_33]; omega))) only [s152_0, s152_1, s152_4, s152_5, s152_6, s152_7, s152_10, s152_11, ltI, geL, leL, not_true_eq_false, not_false_eq_true, if_true, if_false, and_self, and_true, true_and, and_false, false_and, or_self, or_true, true_or, or_false, false_or, bo_T, bo_F, bo_e0, nI10, nI00, nI11, nI01, bo_e1, nem, eqL, af_v, af_0, rf_s, rf_n, nn, ite_self, ly63, p63_0, p63_1, p63_2, p63_7, p63_10, p63_11, p63_13, p63_14, p63_16, p63_18, p63_22, p63_23, p63_24, p63_30, p63_31, p63_32, p63_33, sm_cl]
/-- the bytes of a long -/
def by8 (w : Int64) (i : Nat) : Nat := (w.toBitVec.toNat / 2 ^ (8 * i)) % 256
theorem by8_lt (w : Int64) (i : Nat) : by8 w i < 256 := Nat.mod_lt _ (by decide)
theorem by8_eq (w : Int64) {i : Nat} (h : i < 8) : ((w.toUInt64 >>> ((nI (8 * i)).toInt64.toUInt64 &&& Int64.toUInt64 63)).toInt64 &&& lN 255).toInt32 = nI (by8 w i) := by
  obtain ⟨n, hn, rfl⟩ := wb_of w
  rw [wb_shr hn (by omega)]
  have h2 : n / 2 ^ (8 * i) < 2 ^ 64 := Nat.lt_of_le_of_lt (Nat.div_le_self _ _) hn
  rw [show lN 255 = lN (2 ^ 8 - 1) from rfl, wb_mask h2 (by decide), lN_i]
  unfold by8
  rw [wb_tn hn]
theorem by8_sh (w : Int64) {i : Nat} (h : i < 8) : (w.toUInt64 >>> ((nI (8 * i)).toInt64.toUInt64 &&& Int64.toUInt64 63)).toInt64.toUInt64 >>> ((nI 8).toInt64.toUInt64 &&& Int64.toUInt64 63) = (w.toUInt64 >>> ((nI (8 * i)).toInt64.toUInt64 &&& Int64.toUInt64 63)).toInt64.toUInt64 >>> ((nI 8).toInt64.toUInt64 &&& Int64.toUInt64 63) := rfl
def lgood (w : Int64) : Nat → Nat × Bool
  | 0 => (0, true)
  | k + 1 => ((lgood w k).1 + (if by8 w k = 0 then 0 else 1), (lgood w k).2 && decide (by8 w k ≤ 126 ∧ (by8 w k = 0 ∨ (lgood w k).1 = k)))
theorem lgood_le (w : Int64) : ∀ k, (lgood w k).1 ≤ k := by
  intro k
  induction k with
  | zero => exact Nat.le_refl _
  | succ k ih => show (lgood w k).1 + _ ≤ _; split <;> omega
theorem lgood_down (w : Int64) : ∀ k j, (lgood w (k + j)).2 = true → (lgood w k).2 = true := by
  intro k j
  induction j with
  | zero => exact id
  | succ j ih => intro h; exact ih ((Bool.and_eq_true _ _ ▸ h : _ ∧ _).1)
theorem c_byteOf {N : Nat} {P : sm_Pm} (h : a < 8) : sm_ex (d + 1) 55 [.long w, .int (nI a)] N I L P = some (some (.int (nI (by8 w a))), N, I, L, P) := by
  rw [e55]
  simp only [s55_0, s55_1, s55_3, s55_4, s55_5, s55_6, s55_9, s55_10, s55_11, ltI, geL, leL, not_true_eq_false, not_false_eq_true, if_true, if_false, and_self, and_true, true_and, and_false, false_and, or_self, or_true, true_or, or_false, false_or, bo_T, bo_F, bo_e0, nI10, nI00, nI11, nI01, bo_e1, nem, eqL, af_v, af_0, rf_s, rf_n, nn, ite_self, mulN]
  rw [by8_eq w h]
theorem c_lettersIn_loop {N : Nat} {P : sm_Pm} : ∀ (j i : Nat), i + j = 8 → (lgood w i).2 = true → ∀ (l4 l5 : Option Value), sm_at (sm_ex (d + 1)) none 54 4 [some (.long w), none, some (.int (nI (lgood w i).1)), some (.int (nI i)), l4, l5] [] N I L P = some (some (.int (if (lgood w 8).2 = true then nI (lgood w 8).1 else -1)), N, I, L, P) := by
  intro j
  induction j with
  | zero =>
    intro i hi hg l4 l5
    obtain rfl : i = 8 := by omega
    rw [s54_4]
    simp only [s54_0, s54_1, s54_2, s54_3, s54_5, s54_7, s54_10, s54_11, s54_12, s54_15, s54_17, s54_18, s54_19, s54_22, s54_23, s54_26, s54_27, s54_29, s54_31, s54_33, s54_36, s54_38, s54_41, s54_43, s54_46, s54_47, s54_48, s54_50, s54_53, s54_56, s54_59, s54_62, s54_63, ltI, geL, leL, not_true_eq_false, not_false_eq_true, if_true, if_false, and_self, and_true, true_and, and_false, false_and, or_self, or_true, true_or, or_false, false_or, bo_T, bo_F, bo_e0, nI10, nI00, nI11, nI01, bo_e1, nem, eqL, af_v, af_0, rf_s, rf_n, nn, ite_self, hg, leN (show 8 < 2147483648 by decide) (show 8 < 2147483648 by decide), Nat.le_refl]
  | succ j ih =>
    intro i hi hg l4 l5
    have hle := lgood_le w i
    have hb := by8_lt w i
    rw [s54_4]
    have c1 : ¬ 8 ≤ i := by omega
    have e0 : (nI (by8 w i) = 0) = (by8 w i = 0) := by rw [zI_0, eqN (by omega) (by decide)]
    have hbad : (lgood w (i + 1)).2 = false → (lgood w 8).2 = false := by
      intro q
      cases h8 : (lgood w 8).2 with
      | false => rfl
      | true =>
        have := lgood_down w (i + 1) j (by rw [show i + 1 + j = 8 by omega]; exact h8)
        rw [this] at q; cases q
    by_cases cA : by8 w i ≤ 126
    · by_cases cB : by8 w i = 0
      · have e1 : (lgood w (i + 1)).1 = (lgood w i).1 := by show _ + (if by8 w i = 0 then 0 else 1) = _; rw [if_pos cB]; rfl
        have e2 : (lgood w (i + 1)).2 = true := by show ((lgood w i).2 && decide _) = true; rw [hg, decide_eq_true ⟨cA, Or.inl cB⟩]; rfl
        by_cases cC : i ≤ (lgood w i).1 <;> simp (discharger := (first | omega | decide | (simp only [ly0, p0_0, p0_1, p0_2, p0_3, p0_4, p0_5, p0_6, p0_7, p0_8, p0_9]; omega))) only [s54_0, s54_1, s54_2, s54_3, s54_5, s54_7, s54_10, s54_11, s54_12, s54_15, s54_17, s54_18, s54_19, s54_22, s54_23, s54_26, s54_27, s54_29, s54_31, s54_33, s54_36, s54_38, s54_41, s54_43, s54_46, s54_47, s54_48, s54_50, s54_53, s54_56, s54_59, s54_62, s54_63, ltI, geL, leL, not_true_eq_false, not_false_eq_true, if_true, if_false, and_self, and_true, true_and, and_false, false_and, or_self, or_true, true_or, or_false, false_or, bo_T, bo_F, bo_e0, nI10, nI00, nI11, nI01, bo_e1, nem, eqL, af_v, af_0, rf_s, rf_n, nn, ite_self, leN, c1, c_byteOf, sm_cl, cA, cB, cC, e0, addN, Nat.zero_le] <;> rw [← e1] <;> exact ih (i + 1) (by omega) e2 _ _
      · by_cases cC : i ≤ (lgood w i).1
        · have e1 : (lgood w (i + 1)).1 = (lgood w i).1 + 1 := by show _ + (if by8 w i = 0 then 0 else 1) = _; rw [if_neg cB]
          have e2 : (lgood w (i + 1)).2 = true := by show ((lgood w i).2 && decide _) = true; rw [hg, decide_eq_true ⟨cA, Or.inr (by omega)⟩]; rfl
          simp (discharger := (first | omega | decide | (simp only [ly0, p0_0, p0_1, p0_2, p0_3, p0_4, p0_5, p0_6, p0_7, p0_8, p0_9]; omega))) only [s54_0, s54_1, s54_2, s54_3, s54_5, s54_7, s54_10, s54_11, s54_12, s54_15, s54_17, s54_18, s54_19, s54_22, s54_23, s54_26, s54_27, s54_29, s54_31, s54_33, s54_36, s54_38, s54_41, s54_43, s54_46, s54_47, s54_48, s54_50, s54_53, s54_56, s54_59, s54_62, s54_63, ltI, geL, leL, not_true_eq_false, not_false_eq_true, if_true, if_false, and_self, and_true, true_and, and_false, false_and, or_self, or_true, true_or, or_false, false_or, bo_T, bo_F, bo_e0, nI10, nI00, nI11, nI01, bo_e1, nem, eqL, af_v, af_0, rf_s, rf_n, nn, ite_self, leN, c1, c_byteOf, sm_cl, cA, cB, cC, e0, addN]
          rw [← e1]
          exact ih (i + 1) (by omega) e2 _ _
        · have e2 : (lgood w (i + 1)).2 = false := by show ((lgood w i).2 && decide _) = false; rw [hg, decide_eq_false (fun q => by rcases q.2 with z | z <;> omega)]; rfl
          simp (discharger := (first | omega | decide | (simp only [ly0, p0_0, p0_1, p0_2, p0_3, p0_4, p0_5, p0_6, p0_7, p0_8, p0_9]; omega))) only [s54_0, s54_1, s54_2, s54_3, s54_5, s54_7, s54_10, s54_11, s54_12, s54_15, s54_17, s54_18, s54_19, s54_22, s54_23, s54_26, s54_27, s54_29, s54_31, s54_33, s54_36, s54_38, s54_41, s54_43, s54_46, s54_47, s54_48, s54_50, s54_53, s54_56, s54_59, s54_62, s54_63, ltI, geL, leL, not_true_eq_false, not_false_eq_true, if_true, if_false, and_self, and_true, true_and, and_false, false_and, or_self, or_true, true_or, or_false, false_or, bo_T, bo_F, bo_e0, nI10, nI00, nI11, nI01, bo_e1, nem, eqL, af_v, af_0, rf_s, rf_n, nn, ite_self, leN, c1, c_byteOf, sm_cl, cA, cB, cC, e0, hbad e2, Bool.false_eq_true]
    · have e2 : (lgood w (i + 1)).2 = false := by show ((lgood w i).2 && decide _) = false; rw [hg, decide_eq_false (fun q => cA q.1)]; rfl
      by_cases cC : i ≤ (lgood w i).1 <;> simp (discharger := (first | omega | decide | (simp only [ly0, p0_0, p0_1, p0_2, p0_3, p0_4, p0_5, p0_6, p0_7, p0_8, p0_9]; omega))) only [s54_0, s54_1, s54_2, s54_3, s54_5, s54_7, s54_10, s54_11, s54_12, s54_15, s54_17, s54_18, s54_19, s54_22, s54_23, s54_26, s54_27, s54_29, s54_31, s54_33, s54_36, s54_38, s54_41, s54_43, s54_46, s54_47, s54_48, s54_50, s54_53, s54_56, s54_59, s54_62, s54_63, ltI, geL, leL, not_true_eq_false, not_false_eq_true, if_true, if_false, and_self, and_true, true_and, and_false, false_and, or_self, or_true, true_or, or_false, false_or, bo_T, bo_F, bo_e0, nI10, nI00, nI11, nI01, bo_e1, nem, eqL, af_v, af_0, rf_s, rf_n, nn, ite_self, leN, c1, c_byteOf, sm_cl, cA, cC, hbad e2, Bool.false_eq_true]
theorem c_lettersIn {N : Nat} {P : sm_Pm} : sm_ex (d + 2) 54 [.long w] N I L P = some (some (.int (if (lgood w 8).2 = true then nI (lgood w 8).1 else -1)), N, I, L, P) := by
  rw [e54]
  simp only [s54_0, s54_1, s54_2, s54_3, s54_5, s54_7, s54_10, s54_11, s54_12, s54_15, s54_17, s54_18, s54_19, s54_22, s54_23, s54_26, s54_27, s54_29, s54_31, s54_33, s54_36, s54_38, s54_41, s54_43, s54_46, s54_47, s54_48, s54_50, s54_53, s54_56, s54_59, s54_62, s54_63, ltI, geL, leL, not_true_eq_false, not_false_eq_true, if_true, if_false, and_self, and_true, true_and, and_false, false_and, or_self, or_true, true_or, or_false, false_or, bo_T, bo_F, bo_e0, nI10, nI00, nI11, nI01, bo_e1, nem, eqL, af_v, af_0, rf_s, rf_n, nn, ite_self, sm_cl]
  exact c_lettersIn_loop 8 0 rfl rfl _ _
/-- f's values laid one behind another -/
def lays (I : sm_Im) (a n : Nat) (f : Nat → Int32) : Nat → sm_Im
  | 0 => I
  | m + 1 => sm_up (lays I a n f m) a (n + m) (f m)
theorem lays_row {f : Nat → Int32} (h : b ≠ a) : ∀ m, lays I a n f m b = I b := by
  intro m
  induction m with
  | zero => rfl
  | succ m ih => show sm_up _ a _ _ b = _; rw [up_row h, ih]
theorem lays_at {f : Nat → Int32} (k : Nat) : ∀ m, lays I a n f m a k = if n ≤ k ∧ k < n + m then f (k - n) else I a k := by
  intro m
  induction m with
  | zero => show I a k = _; rw [if_neg (by omega)]
  | succ m ih =>
    show sm_up (lays I a n f m) a (n + m) (f m) a k = _
    rw [up_at, ih]
    by_cases h1 : k = n + m
    · rw [if_pos h1, if_pos (by omega), h1, Nat.add_sub_cancel_left]
    · rw [if_neg h1]
      by_cases h2 : n ≤ k ∧ k < n + m
      · rw [if_pos h2, if_pos (by omega)]
      · rw [if_neg h2, if_neg (by omega)]
theorem c_write_loop (hn : I 1 1 = nI n) (hm : m ≤ 8) (hnm : n + m ≤ 32) : ∀ (j i : Nat), i + j = m → sm_at (sm_ex (d + 1)) none 53 29 [some (.ref 1), some (.long w), none, some (.int (nI m)), some (.int (nI i))] [] 81 (lays I 2 n (fun k => nI (by8 w k)) i) L (pX sw) = some (some (.int (nI (n + m))), 81, sm_up (lays I 2 n (fun k => nI (by8 w k)) m) 1 1 (nI (n + m)), L, pX sw) := by
  intro j
  induction j with
  | zero =>
    intro i hi
    obtain rfl : i = m := by omega
    have e1 : lays I 2 n (fun k => nI (by8 w k)) i 1 1 = nI n := by rw [lays_row (by decide)]; exact hn
    rw [s53_29]
    simp (discharger := (first | omega | decide | (simp only [ly1, p1_0, ly2, al2]; omega))) only [s53_0, s53_1, s53_4, s53_5, s53_6, s53_9, s53_11, s53_12, s53_13, s53_16, s53_17, s53_18, s53_20, s53_23, s53_25, s53_26, s53_27, s53_31, s53_32, s53_35, s53_36, s53_39, s53_40, s53_43, s53_45, s53_46, s53_47, s53_49, s53_52, s53_53, s53_56, s53_59, s53_60, s53_61, s53_64, s53_65, s53_66, s53_69, s53_70, s53_73, ltI, geL, leL, not_true_eq_false, not_false_eq_true, if_true, if_false, and_self, and_true, true_and, and_false, false_and, or_self, or_true, true_or, or_false, false_or, bo_T, bo_F, bo_e0, nI10, nI00, nI11, nI01, bo_e1, nem, eqL, af_v, af_0, rf_s, rf_n, nn, ite_self, ly1, p1_0, ly2, al2, leN, Nat.le_refl, e1, addN, up_same]
  | succ j ih =>
    intro i hi
    have e1 : lays I 2 n (fun k => nI (by8 w k)) i 1 1 = nI n := by rw [lays_row (by decide)]; exact hn
    have c1 : ¬ m ≤ i := by omega
    rw [s53_29]
    simp (discharger := (first | omega | decide | (simp only [ly1, p1_0, ly2, al2]; omega))) only [s53_0, s53_1, s53_4, s53_5, s53_6, s53_9, s53_11, s53_12, s53_13, s53_16, s53_17, s53_18, s53_20, s53_23, s53_25, s53_26, s53_27, s53_31, s53_32, s53_35, s53_36, s53_39, s53_40, s53_43, s53_45, s53_46, s53_47, s53_49, s53_52, s53_53, s53_56, s53_59, s53_60, s53_61, s53_64, s53_65, s53_66, s53_69, s53_70, s53_73, ltI, geL, leL, not_true_eq_false, not_false_eq_true, if_true, if_false, and_self, and_true, true_and, and_false, false_and, or_self, or_true, true_or, or_false, false_or, bo_T, bo_F, bo_e0, nI10, nI00, nI11, nI01, bo_e1, nem, eqL, af_v, af_0, rf_s, rf_n, nn, ite_self, ly1, p1_0, ly2, al2, leN, c1, e1, addN, c_byteOf, sm_cl]
    exact ih (i + 1) (by omega)
theorem c_letters (hn : I 1 1 = nI n) (h : n ≤ 32) : sm_ex (d + 4) 96 [.ref 0, .long w] 81 I L (pX sw) = if (lgood w 8).2 = true then (if n + (lgood w 8).1 ≤ 32 then some (some (.int (nI (n + (lgood w 8).1))), 81, sm_up (lays I 2 n (fun k => nI (by8 w k)) (lgood w 8).1) 1 1 (nI (n + (lgood w 8).1)), L, pX sw) else some (some (.int (-104)), 81, I, L, pX sw)) else some (some (.int (-102)), 81, I, L, pX sw) := by
  have key : sm_ex (d + 3) 53 [.ref 1, .long w] 81 I L (pX sw) = if (lgood w 8).2 = true then (if n + (lgood w 8).1 ≤ 32 then some (some (.int (nI (n + (lgood w 8).1))), 81, sm_up (lays I 2 n (fun k => nI (by8 w k)) (lgood w 8).1) 1 1 (nI (n + (lgood w 8).1)), L, pX sw) else some (some (.int (-104)), 81, I, L, pX sw)) else some (some (.int (-102)), 81, I, L, pX sw) := by
    rw [e53]
    have hle := lgood_le w 8
    by_cases c1 : (lgood w 8).2 = true
    · have e9 : (nI (lgood w 8).1 < 0) = False := eq_false (nI_pos (by omega))
      have e8 : (0 ≤ nI (lgood w 8).1) = True := le0 (by omega)
      by_cases c2 : n + (lgood w 8).1 ≤ 32
      · simp (discharger := (first | omega | decide | (simp only [ly1, p1_0, ly2, al2]; omega))) only [s53_0, s53_1, s53_4, s53_5, s53_6, s53_9, s53_11, s53_12, s53_13, s53_16, s53_17, s53_18, s53_20, s53_23, s53_25, s53_26, s53_27, s53_31, s53_32, s53_35, s53_36, s53_39, s53_40, s53_43, s53_45, s53_46, s53_47, s53_49, s53_52, s53_53, s53_56, s53_59, s53_60, s53_61, s53_64, s53_65, s53_66, s53_69, s53_70, s53_73, ltI, geL, leL, not_true_eq_false, not_false_eq_true, if_true, if_false, and_self, and_true, true_and, and_false, false_and, or_self, or_true, true_or, or_false, false_or, bo_T, bo_F, bo_e0, nI10, nI00, nI11, nI01, bo_e1, nem, eqL, af_v, af_0, rf_s, rf_n, nn, ite_self, ly1, p1_0, ly2, al2, c_lettersIn, sm_cl, c1, e8, hn, addN, leN, c2]
        exact c_write_loop hn hle c2 _ 0 (Nat.zero_add _)
      · simp (discharger := (first | omega | decide | (simp only [ly1, p1_0, ly2, al2]; omega))) only [s53_0, s53_1, s53_4, s53_5, s53_6, s53_9, s53_11, s53_12, s53_13, s53_16, s53_17, s53_18, s53_20, s53_23, s53_25, s53_26, s53_27, s53_31, s53_32, s53_35, s53_36, s53_39, s53_40, s53_43, s53_45, s53_46, s53_47, s53_49, s53_52, s53_53, s53_56, s53_59, s53_60, s53_61, s53_64, s53_65, s53_66, s53_69, s53_70, s53_73, ltI, geL, leL, not_true_eq_false, not_false_eq_true, if_true, if_false, and_self, and_true, true_and, and_false, false_and, or_self, or_true, true_or, or_false, false_or, bo_T, bo_F, bo_e0, nI10, nI00, nI11, nI01, bo_e1, nem, eqL, af_v, af_0, rf_s, rf_n, nn, ite_self, ly1, p1_0, ly2, al2, c_lettersIn, sm_cl, c1, e8, hn, addN, leN, c2]
    · have e8 : ((0 : Int32) ≤ -1) = False := by decide
      simp (discharger := (first | omega | decide | (simp only [ly1, p1_0, ly2, al2]; omega))) only [s53_0, s53_1, s53_4, s53_5, s53_6, s53_9, s53_11, s53_12, s53_13, s53_16, s53_17, s53_18, s53_20, s53_23, s53_25, s53_26, s53_27, s53_31, s53_32, s53_35, s53_36, s53_39, s53_40, s53_43, s53_45, s53_46, s53_47, s53_49, s53_52, s53_53, s53_56, s53_59, s53_60, s53_61, s53_64, s53_65, s53_66, s53_69, s53_70, s53_73, ltI, geL, leL, not_true_eq_false, not_false_eq_true, if_true, if_false, and_self, and_true, true_and, and_false, false_and, or_self, or_true, true_or, or_false, false_or, bo_T, bo_F, bo_e0, nI10, nI00, nI11, nI01, bo_e1, nem, eqL, af_v, af_0, rf_s, rf_n, nn, ite_self, ly1, p1_0, ly2, al2, c_lettersIn, sm_cl, c1, e8, Bool.false_eq_true]
  rw [e96]
  simp (discharger := (first | omega | decide | (simp only [ly0, p0_0, p0_1, p0_2, p0_3, p0_4, p0_5, p0_6, p0_7, p0_8, p0_9, ly1, p1_0]; omega))) only [s96_0, s96_1, s96_4, s96_5, s96_8, ltI, geL, leL, not_true_eq_false, not_false_eq_true, if_true, if_false, and_self, and_true, true_and, and_false, false_and, or_self, or_true, true_or, or_false, false_or, bo_T, bo_F, bo_e0, nI10, nI00, nI11, nI01, bo_e1, nem, eqL, af_v, af_0, rf_s, rf_n, nn, ite_self, ly0, p0_0, p0_1, p0_2, p0_3, p0_4, p0_5, p0_6, p0_7, p0_8, p0_9, ly1, p1_0, key]
  by_cases c1 : (lgood w 8).2 = true
  · by_cases c2 : n + (lgood w 8).1 ≤ 32 <;> simp only [s96_0, s96_1, s96_4, s96_5, s96_8, ltI, geL, leL, not_true_eq_false, not_false_eq_true, if_true, if_false, and_self, and_true, true_and, and_false, false_and, or_self, or_true, true_or, or_false, false_or, bo_T, bo_F, bo_e0, nI10, nI00, nI11, nI01, bo_e1, nem, eqL, af_v, af_0, rf_s, rf_n, nn, ite_self, c1, c2]
  · simp only [s96_0, s96_1, s96_4, s96_5, s96_8, ltI, geL, leL, not_true_eq_false, not_false_eq_true, if_true, if_false, and_self, and_true, true_and, and_false, false_and, or_self, or_true, true_or, or_false, false_or, bo_T, bo_F, bo_e0, nI10, nI00, nI11, nI01, bo_e1, nem, eqL, af_v, af_0, rf_s, rf_n, nn, ite_self, c1, Bool.false_eq_true]
end PG
