section INI
variable {d : Nat} {I J : sm_Im} {L : sm_Lm} {P : sm_Pm} {a b k n m N v : Nat} {x : Int32} {T : List (Nat × Nat × Nat)}
def zI : sm_Im := fun _ _ => 0
def zL : sm_Lm := fun _ _ => 0
def pL (T : List (Nat × Nat × Nat)) : sm_Pm := fun a k => sm_fi2 T a k
theorem z_I : sm_z zI b 0 = zI := by funext c j; unfold sm_z zI; split <;> rfl
theorem z_L : sm_z zL b 0 = zL := by funext c j; unfold sm_z zL; split <;> rfl
theorem z_up {α : Type} {f : Nat → Nat → α} {v w : α} (h : a ≠ b) : sm_z (sm_up f a k v) b w = sm_up (sm_z f b w) a k v := by
  funext c j
  unfold sm_z sm_up
  dsimp only
  by_cases e : c = b
  · rw [if_pos e, if_neg (fun q => h (q.1.symm.trans e)), if_pos e]
  · rw [if_neg e, if_neg e]
theorem z_lays {f : Nat → Int32} {w : Int32} (h : a ≠ b) : ∀ m, sm_z (lays I a n f m) b w = lays (sm_z I b w) a n f m := by
  intro m
  induction m with
  | zero => rfl
  | succ m ih =>
    show sm_z (sm_up (lays I a n f m) a (n + m) (f m)) b w = sm_up (lays (sm_z I b w) a n f m) a (n + m) (f m)
    rw [z_up h, ih]
theorem pL_up : sm_up (pL T) a k (some v) = pL ((a, k, v) :: T) := by
  funext c j
  unfold sm_up pL sm_fi2
  by_cases e : c = a ∧ j = k
  · obtain ⟨rfl, rfl⟩ := e
    rw [if_pos ⟨rfl, rfl⟩, List.find?_cons_of_pos (by simp)]
    rfl
  · rw [if_neg e, List.find?_cons_of_neg]
    simp only [Bool.and_eq_true, beq_iff_eq]
    exact fun q => e ⟨q.1.symm, q.2.symm⟩
theorem pz (h : T.all (fun q => !(q.1 == b)) = true) : sm_z (pL T) b none = pL T := by
  funext c j
  unfold sm_z
  by_cases e : c = b
  · rw [if_pos e]
    unfold pL sm_fi2
    rw [List.find?_eq_none.mpr]
    · rfl
    · intro q hq
      have := List.all_eq_true.mp h q hq
      simp only [Bool.and_eq_true, beq_iff_eq]
      rw [Bool.not_eq_true', beq_eq_false_iff_ne] at this
      exact fun z => this (z.1.trans e)
  · rw [if_neg e]
theorem n_X0 (hN : N < 81) (h1 : sm_lay N = .inr (.inl 4)) (ha : a < N) (h2 : sm_lay a = .inl 0) (hI : sm_z I N 0 = I) : sm_ex (d + 1) 0 [.ref a] N I L P = some (none, N + 1, I, L, sm_up P a 0 (some N)) := by
  have ha' : a < N + 1 := by omega
  rw [e0]
  simp (discharger := first | assumption | decide | omega) only [s0_0, s0_1, s0_4, s0_5, s0_6, s0_8, s0_11, ltI, geL, leL, not_true_eq_false, not_false_eq_true, if_true, if_false, and_self, and_true, true_and, and_false, false_and, or_self, or_true, true_or, or_false, false_or, bo_T, bo_F, bo_e0, nI10, nI00, nI11, nI01, bo_e1, nem, eqL, af_v, af_0, rf_s, rf_n, nn, ite_self, hI]
set_option maxHeartbeats 4000000 in
theorem r_init_37 (hI : ∀ b, 39 ≤ b → sm_z I b 0 = I) (hL : ∀ b, sm_z L b 0 = L) (h38 : sm_z P 38 none = P) (h40 : sm_z P 40 none = P) (h42 : sm_z P 42 none = P) (h44 : sm_z P 44 none = P) (h46 : sm_z P 46 none = P) (h48 : sm_z P 48 none = P) : sm_ex (d + 2) 56 [.ref 37] 38 I L P = some (none, 50, lays I 39 0 (fun _ => -1) 10, L, sm_up (sm_up (sm_up (sm_up (sm_up (sm_up (sm_up (sm_up (sm_up (sm_up (sm_up (sm_up (P) 37 0 (some 38)) 37 1 (some 39)) 40 0 (some 41)) 38 0 (some 40)) 42 0 (some 43)) 38 1 (some 42)) 44 0 (some 45)) 38 2 (some 44)) 46 0 (some 47)) 38 3 (some 46)) 48 0 (some 49)) 38 4 (some 48)) := by
  have i39 := hI 39 (by decide)
  have i40 := hI 40 (by decide)
  have i41 := hI 41 (by decide)
  have i42 := hI 42 (by decide)
  have i43 := hI 43 (by decide)
  have i44 := hI 44 (by decide)
  have i45 := hI 45 (by decide)
  have i46 := hI 46 (by decide)
  have i47 := hI 47 (by decide)
  have i48 := hI 48 (by decide)
  have i49 := hI 49 (by decide)
  have f0 : ∀ {P : sm_Pm}, sm_ex (d + 1) 0 [.ref 40] 41 I L P = some (none, 42, I, L, sm_up P 40 0 (some 41)) := fun {P} => n_X0 (d := d) (a := 40) (N := 41) (L := L) (by decide) rfl (by decide) rfl (hI 41 (by decide))
  have f1 : ∀ {P : sm_Pm}, sm_ex (d + 1) 0 [.ref 42] 43 I L P = some (none, 44, I, L, sm_up P 42 0 (some 43)) := fun {P} => n_X0 (d := d) (a := 42) (N := 43) (L := L) (by decide) rfl (by decide) rfl (hI 43 (by decide))
  have f2 : ∀ {P : sm_Pm}, sm_ex (d + 1) 0 [.ref 44] 45 I L P = some (none, 46, I, L, sm_up P 44 0 (some 45)) := fun {P} => n_X0 (d := d) (a := 44) (N := 45) (L := L) (by decide) rfl (by decide) rfl (hI 45 (by decide))
  have f3 : ∀ {P : sm_Pm}, sm_ex (d + 1) 0 [.ref 46] 47 I L P = some (none, 48, I, L, sm_up P 46 0 (some 47)) := fun {P} => n_X0 (d := d) (a := 46) (N := 47) (L := L) (by decide) rfl (by decide) rfl (hI 47 (by decide))
  have f4 : ∀ {P : sm_Pm}, sm_ex (d + 1) 0 [.ref 48] 49 I L P = some (none, 50, I, L, sm_up P 48 0 (some 49)) := fun {P} => n_X0 (d := d) (a := 48) (N := 49) (L := L) (by decide) rfl (by decide) rfl (hI 49 (by decide))
  have c0 : (nI 5 ≤ nI 0) = False := by decide
  have c1 : (nI 5 ≤ nI 1) = False := by decide
  have c2 : (nI 5 ≤ nI 2) = False := by decide
  have c3 : (nI 5 ≤ nI 3) = False := by decide
  have c4 : (nI 5 ≤ nI 4) = False := by decide
  have c5 : (nI 5 ≤ nI 5) = True := by decide
  have fa : ∀ {P : sm_Pm}, sm_ex (d + 1) 215 [.ref 39, .int (-1)] 50 I L P = some (none, 50, lays I 39 0 (fun _ => -1) 10, L, P) := fun {P} => j_fill (by decide) (by decide)
  rw [e56]
  simp (discharger := first | assumption | decide | rfl) only [s56_0, s56_1, s56_4, s56_5, s56_6, s56_9, s56_12, s56_13, s56_15, s56_17, s56_20, s56_21, s56_22, s56_23, s56_24, s56_27, s56_28, s56_31, s56_32, s56_35, s56_36, s56_39, s56_40, s56_43, s56_46, s56_47, s56_50, s56_51, s56_54, ltI, geL, leL, not_true_eq_false, not_false_eq_true, if_true, if_false, and_self, and_true, true_and, and_false, false_and, or_self, or_true, true_or, or_false, false_or, bo_T, bo_F, bo_e0, nI10, nI00, nI11, nI01, bo_e1, nem, eqL, af_v, af_0, rf_s, rf_n, nn, ite_self, i39, i40, i41, i42, i43, i44, i45, i46, i47, i48, i49, hL, h38, h40, h42, h44, h46, h48, f0, f1, f2, f3, f4, fa, c0, c1, c2, c3, c4, c5, z_up, up_same, up_cell, up_row, addN, Nat.reduceAdd, sm_cl]
set_option maxHeartbeats 4000000 in
theorem r_init_50 (hI : ∀ b, 52 ≤ b → sm_z I b 0 = I) (hL : ∀ b, sm_z L b 0 = L) (h51 : sm_z P 51 none = P) (h53 : sm_z P 53 none = P) (h55 : sm_z P 55 none = P) (h57 : sm_z P 57 none = P) (h59 : sm_z P 59 none = P) (h61 : sm_z P 61 none = P) : sm_ex (d + 2) 56 [.ref 50] 51 I L P = some (none, 63, lays I 52 0 (fun _ => -1) 10, L, sm_up (sm_up (sm_up (sm_up (sm_up (sm_up (sm_up (sm_up (sm_up (sm_up (sm_up (sm_up (P) 50 0 (some 51)) 50 1 (some 52)) 53 0 (some 54)) 51 0 (some 53)) 55 0 (some 56)) 51 1 (some 55)) 57 0 (some 58)) 51 2 (some 57)) 59 0 (some 60)) 51 3 (some 59)) 61 0 (some 62)) 51 4 (some 61)) := by
  have i52 := hI 52 (by decide)
  have i53 := hI 53 (by decide)
  have i54 := hI 54 (by decide)
  have i55 := hI 55 (by decide)
  have i56 := hI 56 (by decide)
  have i57 := hI 57 (by decide)
  have i58 := hI 58 (by decide)
  have i59 := hI 59 (by decide)
  have i60 := hI 60 (by decide)
  have i61 := hI 61 (by decide)
  have i62 := hI 62 (by decide)
  have f0 : ∀ {P : sm_Pm}, sm_ex (d + 1) 0 [.ref 53] 54 I L P = some (none, 55, I, L, sm_up P 53 0 (some 54)) := fun {P} => n_X0 (d := d) (a := 53) (N := 54) (L := L) (by decide) rfl (by decide) rfl (hI 54 (by decide))
  have f1 : ∀ {P : sm_Pm}, sm_ex (d + 1) 0 [.ref 55] 56 I L P = some (none, 57, I, L, sm_up P 55 0 (some 56)) := fun {P} => n_X0 (d := d) (a := 55) (N := 56) (L := L) (by decide) rfl (by decide) rfl (hI 56 (by decide))
  have f2 : ∀ {P : sm_Pm}, sm_ex (d + 1) 0 [.ref 57] 58 I L P = some (none, 59, I, L, sm_up P 57 0 (some 58)) := fun {P} => n_X0 (d := d) (a := 57) (N := 58) (L := L) (by decide) rfl (by decide) rfl (hI 58 (by decide))
  have f3 : ∀ {P : sm_Pm}, sm_ex (d + 1) 0 [.ref 59] 60 I L P = some (none, 61, I, L, sm_up P 59 0 (some 60)) := fun {P} => n_X0 (d := d) (a := 59) (N := 60) (L := L) (by decide) rfl (by decide) rfl (hI 60 (by decide))
  have f4 : ∀ {P : sm_Pm}, sm_ex (d + 1) 0 [.ref 61] 62 I L P = some (none, 63, I, L, sm_up P 61 0 (some 62)) := fun {P} => n_X0 (d := d) (a := 61) (N := 62) (L := L) (by decide) rfl (by decide) rfl (hI 62 (by decide))
  have c0 : (nI 5 ≤ nI 0) = False := by decide
  have c1 : (nI 5 ≤ nI 1) = False := by decide
  have c2 : (nI 5 ≤ nI 2) = False := by decide
  have c3 : (nI 5 ≤ nI 3) = False := by decide
  have c4 : (nI 5 ≤ nI 4) = False := by decide
  have c5 : (nI 5 ≤ nI 5) = True := by decide
  have fa : ∀ {P : sm_Pm}, sm_ex (d + 1) 215 [.ref 52, .int (-1)] 63 I L P = some (none, 63, lays I 52 0 (fun _ => -1) 10, L, P) := fun {P} => j_fill (by decide) (by decide)
  rw [e56]
  simp (discharger := first | assumption | decide | rfl) only [s56_0, s56_1, s56_4, s56_5, s56_6, s56_9, s56_12, s56_13, s56_15, s56_17, s56_20, s56_21, s56_22, s56_23, s56_24, s56_27, s56_28, s56_31, s56_32, s56_35, s56_36, s56_39, s56_40, s56_43, s56_46, s56_47, s56_50, s56_51, s56_54, ltI, geL, leL, not_true_eq_false, not_false_eq_true, if_true, if_false, and_self, and_true, true_and, and_false, false_and, or_self, or_true, true_or, or_false, false_or, bo_T, bo_F, bo_e0, nI10, nI00, nI11, nI01, bo_e1, nem, eqL, af_v, af_0, rf_s, rf_n, nn, ite_self, i52, i53, i54, i55, i56, i57, i58, i59, i60, i61, i62, hL, h51, h53, h55, h57, h59, h61, f0, f1, f2, f3, f4, fa, c0, c1, c2, c3, c4, c5, z_up, up_same, up_cell, up_row, addN, Nat.reduceAdd, sm_cl]
end INI
section INJ
variable {d : Nat} {I J : sm_Im} {L : sm_Lm} {P : sm_Pm} {a b k n m N v : Nat} {x : Int32} {T : List (Nat × Nat × Nat)}
def tC : List (Nat × Nat × Nat) := [(0, 9, 50), (51, 4, 61), (61, 0, 62), (51, 3, 59), (59, 0, 60), (51, 2, 57), (57, 0, 58), (51, 1, 55), (55, 0, 56), (51, 0, 53), (53, 0, 54), (50, 1, 52), (50, 0, 51), (0, 8, 37), (38, 4, 48), (48, 0, 49), (38, 3, 46), (46, 0, 47), (38, 2, 44), (44, 0, 45), (38, 1, 42), (42, 0, 43), (38, 0, 40), (40, 0, 41), (37, 1, 39), (37, 0, 38), (0, 7, 36), (0, 6, 23), (23, 3, 31), (31, 3, 35), (31, 2, 34), (31, 1, 33), (31, 0, 32), (23, 2, 29), (29, 0, 30), (23, 1, 28), (23, 0, 24), (24, 2, 27), (24, 1, 26), (24, 0, 25), (0, 5, 21), (21, 0, 22), (0, 4, 16), (16, 3, 20), (16, 2, 19), (16, 1, 18), (16, 0, 17), (0, 3, 14), (14, 0, 15), (0, 2, 7), (7, 3, 13), (7, 2, 11), (11, 0, 12), (7, 1, 9), (9, 0, 10), (7, 0, 8), (0, 1, 3), (3, 2, 6), (3, 1, 5), (3, 0, 4), (0, 0, 1), (1, 0, 2)]
def iC : sm_Im := lays (lays (sm_up (sm_up zI 16 4 (nI 4)) 31 4 (nI 4)) 39 0 (fun _ => -1) 10) 52 0 (fun _ => -1) 10
set_option maxHeartbeats 8000000 in
set_option maxRecDepth 100000 in
theorem c_init : sm_ex (d + 4) 93 [.ref 0] 1 zI zL (pL []) = some (none, 63, iC, zL, pL tC) := by
  have qL : ∀ b, sm_z zL b 0 = zL := fun b => z_L
  have q1 : ∀ b, 39 ≤ b → sm_z (sm_up (sm_up zI 16 4 (nI 4)) 31 4 (nI 4)) b 0 = sm_up (sm_up zI 16 4 (nI 4)) 31 4 (nI 4) := fun b hb => by rw [z_up (by omega), z_up (by omega), z_I]
  have q2 : ∀ b, 52 ≤ b → sm_z (lays (sm_up (sm_up zI 16 4 (nI 4)) 31 4 (nI 4)) 39 0 (fun _ => -1) 10) b 0 = lays (sm_up (sm_up zI 16 4 (nI 4)) 31 4 (nI 4)) 39 0 (fun _ => -1) 10 := fun b hb => by rw [z_lays (by omega), q1 b (by omega)]
  unfold iC tC
  rw [e93]
  simp (discharger := first | decide | rfl | assumption | exact pz rfl) only [s93_0, s93_1, s93_4, s93_5, s93_8, s93_9, s93_12, s93_15, s93_16, s93_19, s93_20, s93_23, s93_26, s93_27, s93_30, s93_31, s93_34, s93_37, s93_38, s93_41, s93_42, s93_45, s93_48, s93_49, s93_52, s93_53, s93_56, s93_59, s93_60, s93_63, s93_64, s93_67, s93_70, s93_71, s93_74, s93_75, s93_78, s93_81, s93_82, s93_84, s93_86, s93_89, s93_90, s93_93, s93_94, s93_97, s93_100, s93_101, s93_104, s93_105, s93_108, s93_111, s49_0, s49_1, s49_4, s49_5, s49_7, s49_9, s49_12, s73_0, s73_1, s73_4, s73_5, s73_7, s73_9, s73_12, s73_13, s73_15, s73_17, s73_20, s73_21, s73_23, s73_25, s73_28, s38_0, s38_1, s38_4, s38_5, s38_7, s38_9, s38_12, s38_13, s38_16, s38_17, s38_20, s38_23, s38_24, s38_27, s38_28, s38_31, s38_34, s38_35, s38_36, s38_38, s38_41, s83_0, s83_1, s83_4, s83_5, s83_7, s83_9, s83_12, s15_0, s15_1, s15_4, s15_5, s15_6, s15_8, s15_11, s22_0, s22_1, s22_4, s22_5, s22_7, s22_9, s22_12, s22_13, s22_15, s22_17, s22_20, s22_21, s22_23, s22_25, s22_28, s22_29, s22_31, s22_33, s22_36, s22_37, s22_38, s22_41, s67_0, s67_1, s67_4, s67_5, s67_7, s67_9, s67_12, s33_0, s33_1, s33_4, s33_5, s33_8, s33_9, s33_12, s33_15, s33_16, s33_18, s33_20, s33_23, s33_24, s33_27, s33_28, s33_31, s33_34, s33_35, s33_38, s33_39, s33_42, s33_45, e49, e73, e38, e83, e15, e22, e67, e33, ltI, geL, leL, not_true_eq_false, not_false_eq_true, if_true, if_false, and_self, and_true, true_and, and_false, false_and, or_self, or_true, true_or, or_false, false_or, bo_T, bo_F, bo_e0, nI10, nI00, nI11, nI01, bo_e1, nem, eqL, af_v, af_0, rf_s, rf_n, nn, ite_self, r_init_37, r_init_50, z_I, z_L, z_up, z_lays, pz, pL_up, Nat.reduceAdd, sm_cl]
def tA : List (Nat × Nat × Nat) := [(63, 33, 80), (63, 32, 79), (63, 31, 78), (63, 30, 77), (63, 24, 76), (63, 23, 75), (63, 22, 74), (63, 18, 73), (63, 16, 72), (63, 14, 71), (63, 13, 70), (63, 11, 69), (63, 10, 68), (63, 7, 67), (63, 2, 66), (63, 1, 65), (63, 0, 64)] ++ tC
theorem tA_pX : pL tA = pX false := by
  funext a k
  by_cases h : a < 81 ∧ k < 40
  · have key : ∀ a, a < 81 → ∀ k, k < 40 → sm_fi2 tA a k = pX false a k := by decide +kernel
    exact key a h.1 k h.2
  · have n1 : ∀ T : List (Nat × Nat × Nat), (∀ q ∈ T, q.1 < 81 ∧ q.2.1 < 40) → sm_fi2 T a k = none := fun T hT => by
      unfold sm_fi2
      rw [List.find?_eq_none.mpr]
      · rfl
      · intro q hq
        have := hT q hq
        simp only [Bool.and_eq_true, beq_iff_eq]
        exact fun z => h (by rw [← z.1, ← z.2]; exact this)
    unfold pL pX
    rw [n1 tA (by decide), n1 pT (by decide), if_neg (by omega), if_neg (by omega)]
theorem m_in_loop (hI : True) : ∀ (g i : Nat), i + g = 10 → ∀ (J : sm_Im), (∀ r, r ≠ 69 → J r = I r) → (∀ x, x < i → J 69 x = -1) → ∃ J1 : sm_Im, (∀ r, r ≠ 69 → J1 r = I r) ∧ (∀ x, x < 10 → J1 69 x = -1) ∧ sm_at (sm_ex d) none 145 150 [some (.ref 63), some (.int (nI i))] [] 81 J L (pX false) = some (none, 81, J1, L, pX false) := by
  intro g
  induction g with
  | zero =>
    intro i hi J hJ h
    obtain rfl : i = 10 := by omega
    refine ⟨J, hJ, h, ?_⟩
    rw [s145_150]
    simp (discharger := (first | omega | decide | assumption | exact rg_lt | exact rg_ly | (simp only [ly63, p63_0, p63_1, p63_2, p63_7, p63_10, p63_11, p63_13, p63_14, p63_16, p63_18, p63_22, p63_23, p63_24, p63_30, p63_31, p63_32, p63_33]; omega))) only [s145_0, s145_1, s145_4, s145_5, s145_7, s145_9, s145_12, s145_13, s145_15, s145_17, s145_20, s145_21, s145_23, s145_25, s145_28, s145_29, s145_31, s145_33, s145_36, s145_37, s145_39, s145_41, s145_44, s145_45, s145_47, s145_49, s145_52, s145_53, s145_55, s145_57, s145_60, s145_61, s145_63, s145_65, s145_68, s145_69, s145_71, s145_73, s145_76, s145_77, s145_78, s145_80, s145_83, s145_84, s145_86, s145_88, s145_91, s145_92, s145_94, s145_96, s145_99, s145_100, s145_102, s145_104, s145_107, s145_108, s145_110, s145_112, s145_115, s145_116, s145_118, s145_120, s145_123, s145_124, s145_125, s145_127, s145_130, s145_131, s145_133, s145_135, s145_138, s145_139, s145_140, s145_143, s145_144, s145_145, s145_148, s145_149, s145_151, s145_153, s145_156, s145_157, s145_160, s145_161, s145_162, s145_163, s145_166, s145_169, ltI, geL, leL, not_true_eq_false, not_false_eq_true, if_true, if_false, and_self, and_true, true_and, and_false, false_and, or_self, or_true, true_or, or_false, false_or, bo_T, bo_F, bo_e0, nI10, nI00, nI11, nI01, bo_e1, nem, eqL, af_v, af_0, rf_s, rf_n, nn, ite_self, ly63, p63_0, p63_1, p63_2, p63_7, p63_10, p63_11, p63_13, p63_14, p63_16, p63_18, p63_22, p63_23, p63_24, p63_30, p63_31, p63_32, p63_33, Int32.le_refl]
  | succ g ih =>
    intro i hi J hJ h
    have c1 : ¬ 10 ≤ i := by omega
    obtain ⟨J1, g1, g2, g3⟩ := ih (i + 1) (by omega) (sm_up J 69 i (-1)) (fun r hr => by rw [up_row hr]; exact hJ r hr) (fun x hx => by
      rw [up_at]
      by_cases e : x = i
      · rw [if_pos e]
      · rw [if_neg e]; exact h x (by omega))
    refine ⟨J1, g1, g2, ?_⟩
    rw [← g3, s145_150]
    simp (discharger := (first | omega | decide | assumption | exact rg_lt | exact rg_ly | (simp only [ly63, p63_0, p63_1, p63_2, p63_7, p63_10, p63_11, p63_13, p63_14, p63_16, p63_18, p63_22, p63_23, p63_24, p63_30, p63_31, p63_32, p63_33, ly69, al69]; omega))) only [s145_0, s145_1, s145_4, s145_5, s145_7, s145_9, s145_12, s145_13, s145_15, s145_17, s145_20, s145_21, s145_23, s145_25, s145_28, s145_29, s145_31, s145_33, s145_36, s145_37, s145_39, s145_41, s145_44, s145_45, s145_47, s145_49, s145_52, s145_53, s145_55, s145_57, s145_60, s145_61, s145_63, s145_65, s145_68, s145_69, s145_71, s145_73, s145_76, s145_77, s145_78, s145_80, s145_83, s145_84, s145_86, s145_88, s145_91, s145_92, s145_94, s145_96, s145_99, s145_100, s145_102, s145_104, s145_107, s145_108, s145_110, s145_112, s145_115, s145_116, s145_118, s145_120, s145_123, s145_124, s145_125, s145_127, s145_130, s145_131, s145_133, s145_135, s145_138, s145_139, s145_140, s145_143, s145_144, s145_145, s145_148, s145_149, s145_151, s145_153, s145_156, s145_157, s145_160, s145_161, s145_162, s145_163, s145_166, s145_169, ltI, geL, leL, not_true_eq_false, not_false_eq_true, if_true, if_false, and_self, and_true, true_and, and_false, false_and, or_self, or_true, true_or, or_false, false_or, bo_T, bo_F, bo_e0, nI10, nI00, nI11, nI01, bo_e1, nem, eqL, af_v, af_0, rf_s, rf_n, nn, ite_self, ly63, p63_0, p63_1, p63_2, p63_7, p63_10, p63_11, p63_13, p63_14, p63_16, p63_18, p63_22, p63_23, p63_24, p63_30, p63_31, p63_32, p63_33, ly69, al69, leN, c1, addN, sm_cl]
set_option maxHeartbeats 8000000 in
set_option maxRecDepth 100000 in
theorem m_init : ∃ J1 : sm_Im, (∀ r, r ≠ 63 → r ≠ 69 → J1 r = iC r) ∧ (∀ k, J1 63 k = if k = 25 then -1 else if k = 19 then nI 4 else 0) ∧ (∀ x, x < 10 → J1 69 x = -1) ∧ sm_ex (d + 4) 145 [.ref 63] 64 iC zL (pL tC) = some (none, 81, J1, zL, pX false) := by
  have qi : ∀ b, 53 ≤ b → sm_z iC b 0 = iC := fun b hb => by unfold iC; rw [z_lays (by omega), z_lays (by omega), z_up (by omega), z_up (by omega), z_I]
  obtain ⟨J1, g1, g2, g3⟩ := m_in_loop (d := d + 3) (L := zL) (I := sm_up (sm_up iC 63 25 (-1)) 63 19 (nI 4)) trivial 10 0 rfl (sm_up (sm_up iC 63 25 (-1)) 63 19 (nI 4)) (fun r _ => rfl) (fun x hx => absurd hx (Nat.not_lt_zero _))
  refine ⟨J1, fun r a b => by rw [g1 r b, up_row a, up_row a], fun k => ?_, g2, ?_⟩
  · rw [g1 63 (by decide), up_at, up_at]
    by_cases e : k = 25
    · rw [if_pos e, if_neg (by omega), if_pos e]
    · rw [if_neg e, if_neg e]
      by_cases e2 : k = 19
      · rw [if_pos e2, if_pos e2]
      · rw [if_neg e2, if_neg e2]
        unfold iC
        rw [lays_row (by decide), lays_row (by decide), up_row (by decide), up_row (by decide)]
        rfl
  · rw [← g3, ← tA_pX, e145]
    unfold tA
    simp (discharger := first | decide | rfl | (exact qi _ (by decide))) only [s145_0, s145_1, s145_4, s145_5, s145_7, s145_9, s145_12, s145_13, s145_15, s145_17, s145_20, s145_21, s145_23, s145_25, s145_28, s145_29, s145_31, s145_33, s145_36, s145_37, s145_39, s145_41, s145_44, s145_45, s145_47, s145_49, s145_52, s145_53, s145_55, s145_57, s145_60, s145_61, s145_63, s145_65, s145_68, s145_69, s145_71, s145_73, s145_76, s145_77, s145_78, s145_80, s145_83, s145_84, s145_86, s145_88, s145_91, s145_92, s145_94, s145_96, s145_99, s145_100, s145_102, s145_104, s145_107, s145_108, s145_110, s145_112, s145_115, s145_116, s145_118, s145_120, s145_123, s145_124, s145_125, s145_127, s145_130, s145_131, s145_133, s145_135, s145_138, s145_139, s145_140, s145_143, s145_144, s145_145, s145_148, s145_149, s145_151, s145_153, s145_156, s145_157, s145_160, s145_161, s145_162, s145_163, s145_166, s145_169, ltI, geL, leL, not_true_eq_false, not_false_eq_true, if_true, if_false, and_self, and_true, true_and, and_false, false_and, or_self, or_true, true_or, or_false, false_or, bo_T, bo_F, bo_e0, nI10, nI00, nI11, nI01, bo_e1, nem, eqL, af_v, af_0, rf_s, rf_n, nn, ite_self, qi 64 (by decide), qi 65 (by decide), qi 66 (by decide), qi 67 (by decide), qi 68 (by decide), qi 69 (by decide), qi 70 (by decide), qi 71 (by decide), qi 72 (by decide), qi 73 (by decide), qi 74 (by decide), qi 75 (by decide), qi 76 (by decide), qi 77 (by decide), qi 78 (by decide), qi 79 (by decide), qi 80 (by decide), pL_up, Nat.reduceAdd, sm_cl, List.cons_append, List.nil_append]
end INJ
