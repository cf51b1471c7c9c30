section STX0
variable {C : sm_Cf} {X : sm_Xs} {ls : List (Option Value)} {st : List Value} {N : Nat} {I : sm_Im} {L : sm_Lm} {P : sm_Pm} {x0 x1 x2 : Int32} {z0 z1 : Int64} {a a2 k n : Nat} {f : Nat → Int32} {w0 w1 w2 w3 w4 w5 w6 v0 v1 v2 v3 v4 : Value} {l0 l1 l2 l3 l4 l5 l6 l7 l8 l9 l10 l11 l12 l13 l14 l15 l16 : Option Value}
theorem b0 : sm_b 0 = cX0_init := rfl
theorem s0_0 : sm_at C X 0 0 [some (.ref a)] st N I L P = sm_at C X 0 1 [some (.ref a)] (.ref a :: st) N I L P := st_go b0 dX0_init_0 (by decide) rfl
theorem s0_1 : sm_at C X 0 1 ls (.ref a :: []) N I L P = sm_at C X 0 4 ls [] N I L P := st_go b0 dX0_init_1 (by decide) rfl
theorem s0_4 : sm_at C X 0 4 [some (.ref a)] st N I L P = sm_at C X 0 5 [some (.ref a)] (.ref a :: st) N I L P := st_go b0 dX0_init_4 (by decide) rfl
theorem s0_5 : sm_at C X 0 5 ls st N I L P = sm_at C X 0 6 ls (.int (nI 4) :: st) N I L P := st_go b0 dX0_init_5 (by decide) rfl
theorem s0_6 (h : N < 81) (h1 : sm_lay N = .inr (.inl k)) (h2 : k < 1000) : sm_at C X 0 6 ls (.int (nI k) :: st) N I L P = sm_at C X 0 8 ls (.ref N :: st) (N + 1) (sm_z I N 0) L P := st_newa b0 dX0_init_6 h h1 h2
theorem s0_8 (h : a < N) (h1 : sm_lay a = .inl 0) : sm_at C X 0 8 ls (.ref a2 :: .ref a :: st) N I L P = sm_at C X 0 11 ls st N I L (sm_up P a 0 (some a2)) := st_pfR b0 dX0_init_8 rfl rfl (Or.inr ⟨rfl, rfl⟩) h h1
theorem s0_11 : sm_at C X 0 11 ls [] N I L P = some (none, N, I, L, P) := st_ret b0 dX0_init_11 (by decide) rfl
theorem b1 : sm_b 1 = cX0_begin := rfl
theorem s1_0 : sm_at C X 1 0 [some (.ref a)] st N I L P = sm_at C X 1 1 [some (.ref a)] (.ref a :: st) N I L P := st_go b1 dX0_begin_0 (by decide) rfl
theorem s1_1 : sm_at C X 1 1 ls st N I L P = sm_at C X 1 2 ls (.int (nI 0) :: st) N I L P := st_go b1 dX0_begin_1 (by decide) rfl
theorem s1_2 (h : a < N) (h1 : sm_lay a = .inl 0) : sm_at C X 1 2 ls (.int x0 :: .ref a :: st) N I L P = sm_at C X 1 5 ls st N (sm_up I a 1 x0) L P := st_pfI b1 dX0_begin_2 rfl rfl rfl h h1
theorem s1_5 : sm_at C X 1 5 [some (.ref a)] st N I L P = sm_at C X 1 6 [some (.ref a)] (.ref a :: st) N I L P := st_go b1 dX0_begin_5 (by decide) rfl
theorem s1_6 : sm_at C X 1 6 ls st N I L P = sm_at C X 1 7 ls (.int (nI 0) :: st) N I L P := st_go b1 dX0_begin_6 (by decide) rfl
theorem s1_7 (h : a < N) (h1 : sm_lay a = .inl 0) : sm_at C X 1 7 ls (.int x0 :: .ref a :: st) N I L P = sm_at C X 1 10 ls st N (sm_up I a 2 x0) L P := st_pfI b1 dX0_begin_7 rfl rfl rfl h h1
theorem s1_10 : sm_at C X 1 10 [some (.ref a)] st N I L P = sm_at C X 1 11 [some (.ref a)] (.ref a :: st) N I L P := st_go b1 dX0_begin_10 (by decide) rfl
theorem s1_11 : sm_at C X 1 11 ls st N I L P = sm_at C X 1 12 ls (.int (nI 0) :: st) N I L P := st_go b1 dX0_begin_11 (by decide) rfl
theorem s1_12 (h : a < N) (h1 : sm_lay a = .inl 0) : sm_at C X 1 12 ls (.int x0 :: .ref a :: st) N I L P = sm_at C X 1 15 ls st N (sm_up I a 3 x0) L P := st_pfI b1 dX0_begin_12 rfl rfl rfl h h1
theorem s1_15 : sm_at C X 1 15 ls [] N I L P = some (none, N, I, L, P) := st_ret b1 dX0_begin_15 (by decide) rfl
theorem b2 : sm_b 2 = cX0_takeSign := rfl
theorem s2_0 : sm_at C X 2 0 [some (.ref a), l1] st N I L P = sm_at C X 2 1 [some (.ref a), l1] (.ref a :: st) N I L P := st_go b2 dX0_takeSign_0 (by decide) rfl
theorem s2_1 (h : a < N) (h1 : sm_lay a = .inl 0) : sm_at C X 2 1 ls (.ref a :: st) N I L P = sm_at C X 2 4 ls (.int (I a 1) :: st) N I L P := st_gfI b2 dX0_takeSign_1 rfl rfl h h1
theorem s2_4 : sm_at C X 2 4 ls (.int x0 :: st) N I L P = if ¬ x0 = 0 then sm_at C X 2 14 ls st N I L P else sm_at C X 2 7 ls st N I L P := st_br b2 dX0_takeSign_4 (by decide) rfl
theorem s2_7 : sm_at C X 2 7 [some (.ref a), l1] st N I L P = sm_at C X 2 8 [some (.ref a), l1] (.ref a :: st) N I L P := st_go b2 dX0_takeSign_7 (by decide) rfl
theorem s2_8 (h : a < N) (h1 : sm_lay a = .inl 0) : sm_at C X 2 8 ls (.ref a :: st) N I L P = sm_at C X 2 11 ls (.int (I a 3) :: st) N I L P := st_gfI b2 dX0_takeSign_8 rfl rfl h h1
theorem s2_11 : sm_at C X 2 11 ls (.int x0 :: st) N I L P = if x0 = 0 then sm_at C X 2 16 ls st N I L P else sm_at C X 2 14 ls st N I L P := st_br b2 dX0_takeSign_11 (by decide) rfl
theorem s2_14 : sm_at C X 2 14 ls st N I L P = sm_at C X 2 15 ls (.int (nI 0) :: st) N I L P := st_go b2 dX0_takeSign_14 (by decide) rfl
theorem s2_15 (h : x0 = 0 ∨ x0 = 1) : sm_at C X 2 15 ls [.int x0] N I L P = some (some (.int x0), N, I, L, P) := st_zret b2 dX0_takeSign_15 rfl h
theorem s2_16 : sm_at C X 2 16 [some (.ref a), l1] st N I L P = sm_at C X 2 17 [some (.ref a), l1] (.ref a :: st) N I L P := st_go b2 dX0_takeSign_16 (by decide) rfl
theorem s2_17 : sm_at C X 2 17 [l0, some (.int x0)] st N I L P = sm_at C X 2 18 [l0, some (.int x0)] (.int x0 :: st) N I L P := st_go b2 dX0_takeSign_17 (by decide) rfl
theorem s2_18 (h : a < N) (h1 : sm_lay a = .inl 0) : sm_at C X 2 18 ls (.int x0 :: .ref a :: st) N I L P = sm_at C X 2 21 ls st N (sm_up I a 1 x0) L P := st_pfI b2 dX0_takeSign_18 rfl rfl rfl h h1
theorem s2_21 : sm_at C X 2 21 ls st N I L P = sm_at C X 2 22 ls (.int (nI 1) :: st) N I L P := st_go b2 dX0_takeSign_21 (by decide) rfl
theorem s2_22 (h : x0 = 0 ∨ x0 = 1) : sm_at C X 2 22 ls [.int x0] N I L P = some (some (.int x0), N, I, L, P) := st_zret b2 dX0_takeSign_22 rfl h
theorem b3 : sm_b 3 = cX0_needsAmount := rfl
theorem s3_0 : sm_at C X 3 0 [some (.ref a)] st N I L P = sm_at C X 3 1 [some (.ref a)] (.ref a :: st) N I L P := st_go b3 dX0_needsAmount_0 (by decide) rfl
theorem s3_1 (h : a < N) (h1 : sm_lay a = .inl 0) : sm_at C X 3 1 ls (.ref a :: st) N I L P = sm_at C X 3 4 ls (.int (I a 1) :: st) N I L P := st_gfI b3 dX0_needsAmount_1 rfl rfl h h1
theorem s3_4 : sm_at C X 3 4 ls st N I L P = sm_at C X 3 5 ls (.int (nI 2) :: st) N I L P := st_go b3 dX0_needsAmount_4 (by decide) rfl
theorem s3_5 : sm_at C X 3 5 ls (.int x0 :: .int x1 :: st) N I L P = if x1 = x0 then sm_at C X 3 16 ls st N I L P else sm_at C X 3 8 ls st N I L P := st_br b3 dX0_needsAmount_5 (by decide) rfl
theorem s3_8 : sm_at C X 3 8 [some (.ref a)] st N I L P = sm_at C X 3 9 [some (.ref a)] (.ref a :: st) N I L P := st_go b3 dX0_needsAmount_8 (by decide) rfl
theorem s3_9 (h : a < N) (h1 : sm_lay a = .inl 0) : sm_at C X 3 9 ls (.ref a :: st) N I L P = sm_at C X 3 12 ls (.int (I a 1) :: st) N I L P := st_gfI b3 dX0_needsAmount_9 rfl rfl h h1
theorem s3_12 : sm_at C X 3 12 ls st N I L P = sm_at C X 3 13 ls (.int (nI 3) :: st) N I L P := st_go b3 dX0_needsAmount_12 (by decide) rfl
theorem s3_13 : sm_at C X 3 13 ls (.int x0 :: .int x1 :: st) N I L P = if ¬ x1 = x0 then sm_at C X 3 27 ls st N I L P else sm_at C X 3 16 ls st N I L P := st_br b3 dX0_needsAmount_13 (by decide) rfl
theorem s3_16 : sm_at C X 3 16 [some (.ref a)] st N I L P = sm_at C X 3 17 [some (.ref a)] (.ref a :: st) N I L P := st_go b3 dX0_needsAmount_16 (by decide) rfl
theorem s3_17 (h : a < N) (h1 : sm_lay a = .inl 0) : sm_at C X 3 17 ls (.ref a :: st) N I L P = sm_at C X 3 20 ls (.int (I a 2) :: st) N I L P := st_gfI b3 dX0_needsAmount_17 rfl rfl h h1
theorem s3_20 : sm_at C X 3 20 ls (.int x0 :: st) N I L P = if ¬ x0 = 0 then sm_at C X 3 27 ls st N I L P else sm_at C X 3 23 ls st N I L P := st_br b3 dX0_needsAmount_20 (by decide) rfl
theorem s3_23 : sm_at C X 3 23 ls st N I L P = sm_at C X 3 24 ls (.int (nI 1) :: st) N I L P := st_go b3 dX0_needsAmount_23 (by decide) rfl
theorem s3_24 : sm_at C X 3 24 ls st N I L P = sm_at C X 3 28 ls st N I L P := st_go b3 dX0_needsAmount_24 (by decide) rfl
theorem s3_27 : sm_at C X 3 27 ls st N I L P = sm_at C X 3 28 ls (.int (nI 0) :: st) N I L P := st_go b3 dX0_needsAmount_27 (by decide) rfl
theorem s3_28 (h : x0 = 0 ∨ x0 = 1) : sm_at C X 3 28 ls [.int x0] N I L P = some (some (.int x0), N, I, L, P) := st_zret b3 dX0_needsAmount_28 rfl h
theorem b4 : sm_b 4 = cX0_takeAmount := rfl
theorem s4_0 : sm_at C X 4 0 [some (.ref a), l1] st N I L P = sm_at C X 4 1 [some (.ref a), l1] (.ref a :: st) N I L P := st_go b4 dX0_takeAmount_0 (by decide) rfl
theorem s4_1 : sm_at C X 4 1 [l0, some (.int x0)] st N I L P = sm_at C X 4 2 [l0, some (.int x0)] (.int x0 :: st) N I L P := st_go b4 dX0_takeAmount_1 (by decide) rfl
theorem s4_2 (h : a < N) (h1 : sm_lay a = .inl 0) : sm_at C X 4 2 ls (.int x0 :: .ref a :: st) N I L P = sm_at C X 4 5 ls st N (sm_up I a 2 x0) L P := st_pfI b4 dX0_takeAmount_2 rfl rfl rfl h h1
theorem s4_5 : sm_at C X 4 5 [l0, some (.int x0)] st N I L P = sm_at C X 4 6 [l0, some (.int x0)] (.int x0 :: st) N I L P := st_go b4 dX0_takeAmount_5 (by decide) rfl
theorem s4_6 : sm_at C X 4 6 ls (.int x0 :: st) N I L P = if x0 = 0 then sm_at C X 4 13 ls st N I L P else sm_at C X 4 9 ls st N I L P := st_br b4 dX0_takeAmount_6 (by decide) rfl
theorem s4_9 : sm_at C X 4 9 ls st N I L P = sm_at C X 4 10 ls (.int (nI 1) :: st) N I L P := st_go b4 dX0_takeAmount_9 (by decide) rfl
theorem s4_10 : sm_at C X 4 10 ls st N I L P = sm_at C X 4 14 ls st N I L P := st_go b4 dX0_takeAmount_10 (by decide) rfl
theorem s4_13 : sm_at C X 4 13 ls st N I L P = sm_at C X 4 14 ls (.int (nI 0) :: st) N I L P := st_go b4 dX0_takeAmount_13 (by decide) rfl
theorem s4_14 (h : x0 = 0 ∨ x0 = 1) : sm_at C X 4 14 ls [.int x0] N I L P = some (some (.int x0), N, I, L, P) := st_zret b4 dX0_takeAmount_14 rfl h
theorem b5 : sm_b 5 = cX0_takePerson := rfl
theorem s5_0 : sm_at C X 5 0 [some (.ref a), l1, l2] st N I L P = sm_at C X 5 1 [some (.ref a), l1, l2] (.ref a :: st) N I L P := st_go b5 dX0_takePerson_0 (by decide) rfl
theorem s5_1 (h : a < N) (h1 : sm_lay a = .inl 0) : sm_at C X 5 1 ls (.ref a :: st) N I L P = sm_at C X 5 4 ls (.int (I a 1) :: st) N I L P := st_gfI b5 dX0_takePerson_1 rfl rfl h h1
theorem s5_4 : sm_at C X 5 4 ls st N I L P = sm_at C X 5 5 ls (.int (nI 1) :: st) N I L P := st_go b5 dX0_takePerson_4 (by decide) rfl
theorem s5_5 : sm_at C X 5 5 ls (.int x0 :: .int x1 :: st) N I L P = if ¬ x1 = x0 then sm_at C X 5 12 ls st N I L P else sm_at C X 5 8 ls st N I L P := st_br b5 dX0_takePerson_5 (by decide) rfl
theorem s5_8 : sm_at C X 5 8 ls st N I L P = sm_at C X 5 9 ls (.int (nI 4) :: st) N I L P := st_go b5 dX0_takePerson_8 (by decide) rfl
theorem s5_9 : sm_at C X 5 9 ls st N I L P = sm_at C X 5 13 ls st N I L P := st_go b5 dX0_takePerson_9 (by decide) rfl
theorem s5_12 : sm_at C X 5 12 ls st N I L P = sm_at C X 5 13 ls (.int (nI 2) :: st) N I L P := st_go b5 dX0_takePerson_12 (by decide) rfl
theorem s5_13 : sm_at C X 5 13 [l0, l1, l2] (.int x0 :: st) N I L P = sm_at C X 5 14 [l0, sm_cl l1, some (.int x0)] st N I L P := st_go b5 dX0_takePerson_13 (by decide) rfl
theorem s5_14 : sm_at C X 5 14 [some (.ref a), l1, l2] st N I L P = sm_at C X 5 15 [some (.ref a), l1, l2] (.ref a :: st) N I L P := st_go b5 dX0_takePerson_14 (by decide) rfl
theorem s5_15 (h : a < N) (h1 : sm_lay a = .inl 0) : sm_at C X 5 15 ls (.ref a :: st) N I L P = sm_at C X 5 18 ls (.int (I a 3) :: st) N I L P := st_gfI b5 dX0_takePerson_15 rfl rfl h h1
theorem s5_18 : sm_at C X 5 18 [l0, l1, some (.int x0)] st N I L P = sm_at C X 5 19 [l0, l1, some (.int x0)] (.int x0 :: st) N I L P := st_go b5 dX0_takePerson_18 (by decide) rfl
theorem s5_19 : sm_at C X 5 19 ls (.int x0 :: .int x1 :: st) N I L P = if x1 < x0 then sm_at C X 5 24 ls st N I L P else sm_at C X 5 22 ls st N I L P := st_br b5 dX0_takePerson_19 (by decide) rfl
theorem s5_22 : sm_at C X 5 22 ls st N I L P = sm_at C X 5 23 ls (.int (nI 0) :: st) N I L P := st_go b5 dX0_takePerson_22 (by decide) rfl
theorem s5_23 (h : x0 = 0 ∨ x0 = 1) : sm_at C X 5 23 ls [.int x0] N I L P = some (some (.int x0), N, I, L, P) := st_zret b5 dX0_takePerson_23 rfl h
theorem s5_24 : sm_at C X 5 24 [some (.ref a), l1, l2] st N I L P = sm_at C X 5 25 [some (.ref a), l1, l2] (.ref a :: st) N I L P := st_go b5 dX0_takePerson_24 (by decide) rfl
theorem s5_25 (h : a < N) (h1 : sm_lay a = .inl 0) : sm_at C X 5 25 ls (.ref a :: st) N I L P = sm_at C X 5 28 ls (va_rf (P a 0) :: st) N I L P := st_gfR b5 dX0_takePerson_25 rfl rfl h h1
theorem s5_28 : sm_at C X 5 28 [some (.ref a), l1, l2] st N I L P = sm_at C X 5 29 [some (.ref a), l1, l2] (.ref a :: st) N I L P := st_go b5 dX0_takePerson_28 (by decide) rfl
theorem s5_29 (h : a < N) (h1 : sm_lay a = .inl 0) : sm_at C X 5 29 ls (.ref a :: st) N I L P = sm_at C X 5 32 ls (.int (I a 3) :: st) N I L P := st_gfI b5 dX0_takePerson_29 rfl rfl h h1
theorem s5_32 : sm_at C X 5 32 [l0, some (.int x0), l2] st N I L P = sm_at C X 5 33 [l0, some (.int x0), l2] (.int x0 :: st) N I L P := st_go b5 dX0_takePerson_32 (by decide) rfl
theorem s5_33 (h : a < N) (h1 : k < sm_al a) : sm_at C X 5 33 ls (.int x0 :: .int (nI k) :: .ref a :: st) N I L P = sm_at C X 5 34 ls st N (sm_up I a k x0) L P := st_iast b5 dX0_takePerson_33 h h1
theorem s5_34 : sm_at C X 5 34 [some (.ref a), l1, l2] st N I L P = sm_at C X 5 35 [some (.ref a), l1, l2] (.ref a :: st) N I L P := st_go b5 dX0_takePerson_34 (by decide) rfl
theorem s5_35 : sm_at C X 5 35 ls (.ref a :: st) N I L P = sm_at C X 5 36 ls (.ref a :: .ref a :: st) N I L P := st_go b5 dX0_takePerson_35 (by decide) rfl
theorem s5_36 (h : a < N) (h1 : sm_lay a = .inl 0) : sm_at C X 5 36 ls (.ref a :: st) N I L P = sm_at C X 5 39 ls (.int (I a 3) :: st) N I L P := st_gfI b5 dX0_takePerson_36 rfl rfl h h1
theorem s5_39 : sm_at C X 5 39 ls st N I L P = sm_at C X 5 40 ls (.int (nI 1) :: st) N I L P := st_go b5 dX0_takePerson_39 (by decide) rfl
theorem s5_40 : sm_at C X 5 40 ls (.int x0 :: .int x1 :: st) N I L P = sm_at C X 5 41 ls (.int (x1 + x0) :: st) N I L P := st_go b5 dX0_takePerson_40 (by decide) rfl
theorem s5_41 (h : a < N) (h1 : sm_lay a = .inl 0) : sm_at C X 5 41 ls (.int x0 :: .ref a :: st) N I L P = sm_at C X 5 44 ls st N (sm_up I a 3 x0) L P := st_pfI b5 dX0_takePerson_41 rfl rfl rfl h h1
theorem s5_44 : sm_at C X 5 44 ls st N I L P = sm_at C X 5 45 ls (.int (nI 1) :: st) N I L P := st_go b5 dX0_takePerson_44 (by decide) rfl
theorem s5_45 (h : x0 = 0 ∨ x0 = 1) : sm_at C X 5 45 ls [.int x0] N I L P = some (some (.int x0), N, I, L, P) := st_zret b5 dX0_takePerson_45 rfl h
theorem b6 : sm_b 6 = cX0_isWhole := rfl
theorem s6_0 : sm_at C X 6 0 [some (.ref a)] st N I L P = sm_at C X 6 1 [some (.ref a)] (.ref a :: st) N I L P := st_go b6 dX0_isWhole_0 (by decide) rfl
theorem s6_1 (h : a < N) (h1 : sm_lay a = .inl 0) : sm_at C X 6 1 ls (.ref a :: st) N I L P = sm_at C X 6 4 ls (.int (I a 3) :: st) N I L P := st_gfI b6 dX0_isWhole_1 rfl rfl h h1
theorem s6_4 : sm_at C X 6 4 [some (.ref a)] st N I L P = sm_at C X 6 5 [some (.ref a)] (.ref a :: st) N I L P := st_go b6 dX0_isWhole_4 (by decide) rfl
theorem s6_5 (h : a < N) (h1 : sm_lay a = .inl 0) : sm_at C X 6 5 ls (.ref a :: st) N I L P = sm_at C X 6 8 ls (.int (I a 1) :: st) N I L P := st_gfI b6 dX0_isWhole_5 rfl rfl h h1
theorem s6_8 : sm_at C X 6 8 ls st N I L P = sm_at C X 6 9 ls (.int (nI 1) :: st) N I L P := st_go b6 dX0_isWhole_8 (by decide) rfl
theorem s6_9 : sm_at C X 6 9 ls (.int x0 :: .int x1 :: st) N I L P = if ¬ x1 = x0 then sm_at C X 6 16 ls st N I L P else sm_at C X 6 12 ls st N I L P := st_br b6 dX0_isWhole_9 (by decide) rfl
theorem s6_12 : sm_at C X 6 12 ls st N I L P = sm_at C X 6 13 ls (.int (nI 3) :: st) N I L P := st_go b6 dX0_isWhole_12 (by decide) rfl
theorem s6_13 : sm_at C X 6 13 ls st N I L P = sm_at C X 6 17 ls st N I L P := st_go b6 dX0_isWhole_13 (by decide) rfl
theorem s6_16 : sm_at C X 6 16 ls st N I L P = sm_at C X 6 17 ls (.int (nI 2) :: st) N I L P := st_go b6 dX0_isWhole_16 (by decide) rfl
theorem s6_17 : sm_at C X 6 17 ls (.int x0 :: .int x1 :: st) N I L P = if x1 < x0 then sm_at C X 6 24 ls st N I L P else sm_at C X 6 20 ls st N I L P := st_br b6 dX0_isWhole_17 (by decide) rfl
theorem s6_20 : sm_at C X 6 20 ls st N I L P = sm_at C X 6 21 ls (.int (nI 1) :: st) N I L P := st_go b6 dX0_isWhole_20 (by decide) rfl
theorem s6_21 : sm_at C X 6 21 ls st N I L P = sm_at C X 6 25 ls st N I L P := st_go b6 dX0_isWhole_21 (by decide) rfl
theorem s6_24 : sm_at C X 6 24 ls st N I L P = sm_at C X 6 25 ls (.int (nI 0) :: st) N I L P := st_go b6 dX0_isWhole_24 (by decide) rfl
theorem s6_25 (h : x0 = 0 ∨ x0 = 1) : sm_at C X 6 25 ls [.int x0] N I L P = some (some (.int x0), N, I, L, P) := st_zret b6 dX0_isWhole_25 rfl h
theorem b7 : sm_b 7 = cX0_isA := rfl
theorem s7_0 : sm_at C X 7 0 [l0, some (.int x0)] st N I L P = sm_at C X 7 1 [l0, some (.int x0)] (.int x0 :: st) N I L P := st_go b7 dX0_isA_0 (by decide) rfl
theorem s7_1 : sm_at C X 7 1 ls (.int x0 :: st) N I L P = if x0 = 0 then sm_at C X 7 12 ls st N I L P else sm_at C X 7 4 ls st N I L P := st_br b7 dX0_isA_1 (by decide) rfl
theorem s7_4 : sm_at C X 7 4 [l0, some (.int x0)] st N I L P = sm_at C X 7 5 [l0, some (.int x0)] (.int x0 :: st) N I L P := st_go b7 dX0_isA_4 (by decide) rfl
theorem s7_5 : sm_at C X 7 5 [some (.ref a), l1] st N I L P = sm_at C X 7 6 [some (.ref a), l1] (.ref a :: st) N I L P := st_go b7 dX0_isA_5 (by decide) rfl
theorem s7_6 (h : a < N) (h1 : sm_lay a = .inl 0) : sm_at C X 7 6 ls (.ref a :: st) N I L P = sm_at C X 7 9 ls (.int (I a 1) :: st) N I L P := st_gfI b7 dX0_isA_6 rfl rfl h h1
theorem s7_9 : sm_at C X 7 9 ls (.int x0 :: .int x1 :: st) N I L P = if ¬ x1 = x0 then sm_at C X 7 16 ls st N I L P else sm_at C X 7 12 ls st N I L P := st_br b7 dX0_isA_9 (by decide) rfl
theorem s7_12 : sm_at C X 7 12 ls st N I L P = sm_at C X 7 13 ls (.int (nI 1) :: st) N I L P := st_go b7 dX0_isA_12 (by decide) rfl
theorem s7_13 : sm_at C X 7 13 ls st N I L P = sm_at C X 7 17 ls st N I L P := st_go b7 dX0_isA_13 (by decide) rfl
theorem s7_16 : sm_at C X 7 16 ls st N I L P = sm_at C X 7 17 ls (.int (nI 0) :: st) N I L P := st_go b7 dX0_isA_16 (by decide) rfl
theorem s7_17 (h : x0 = 0 ∨ x0 = 1) : sm_at C X 7 17 ls [.int x0] N I L P = some (some (.int x0), N, I, L, P) := st_zret b7 dX0_isA_17 rfl h
theorem b8 : sm_b 8 = cX0_size := rfl
theorem s8_0 : sm_at C X 8 0 [some (.ref a)] st N I L P = sm_at C X 8 1 [some (.ref a)] (.ref a :: st) N I L P := st_go b8 dX0_size_0 (by decide) rfl
theorem s8_1 (h : a < N) (h1 : sm_lay a = .inl 0) : sm_at C X 8 1 ls (.ref a :: st) N I L P = sm_at C X 8 4 ls (.int (I a 3) :: st) N I L P := st_gfI b8 dX0_size_1 rfl rfl h h1
theorem s8_4 : sm_at C X 8 4 ls [.int x0] N I L P = some (some (.int x0), N, I, L, P) := st_iret b8 dX0_size_4 rfl
theorem b9 : sm_b 9 = cX0_tenths := rfl
theorem s9_0 : sm_at C X 9 0 [some (.ref a)] st N I L P = sm_at C X 9 1 [some (.ref a)] (.ref a :: st) N I L P := st_go b9 dX0_tenths_0 (by decide) rfl
theorem s9_1 (h : a < N) (h1 : sm_lay a = .inl 0) : sm_at C X 9 1 ls (.ref a :: st) N I L P = sm_at C X 9 4 ls (.int (I a 1) :: st) N I L P := st_gfI b9 dX0_tenths_1 rfl rfl h h1
theorem s9_4 : sm_at C X 9 4 ls st N I L P = sm_at C X 9 5 ls (.int (nI 2) :: st) N I L P := st_go b9 dX0_tenths_4 (by decide) rfl
theorem s9_5 : sm_at C X 9 5 ls (.int x0 :: .int x1 :: st) N I L P = if ¬ x1 = x0 then sm_at C X 9 15 ls st N I L P else sm_at C X 9 8 ls st N I L P := st_br b9 dX0_tenths_5 (by decide) rfl
theorem s9_8 : sm_at C X 9 8 [some (.ref a)] st N I L P = sm_at C X 9 9 [some (.ref a)] (.ref a :: st) N I L P := st_go b9 dX0_tenths_8 (by decide) rfl
theorem s9_9 (h : a < N) (h1 : sm_lay a = .inl 0) : sm_at C X 9 9 ls (.ref a :: st) N I L P = sm_at C X 9 12 ls (.int (I a 2) :: st) N I L P := st_gfI b9 dX0_tenths_9 rfl rfl h h1
theorem s9_12 : sm_at C X 9 12 ls st N I L P = sm_at C X 9 17 ls st N I L P := st_go b9 dX0_tenths_12 (by decide) rfl
theorem s9_15 : sm_at C X 9 15 ls st N I L P = sm_at C X 9 17 ls (.int (nI 10) :: st) N I L P := st_go b9 dX0_tenths_15 (by decide) rfl
theorem s9_17 : sm_at C X 9 17 ls [.int x0] N I L P = some (some (.int x0), N, I, L, P) := st_iret b9 dX0_tenths_17 rfl
theorem b10 : sm_b 10 = cX0_fact := rfl
theorem s10_0 : sm_at C X 10 0 [l0, some (.int x0)] st N I L P = sm_at C X 10 1 [l0, some (.int x0)] (.int x0 :: st) N I L P := st_go b10 dX0_fact_0 (by decide) rfl
theorem s10_1_0 : sm_at C X 10 1 ls (.int (nI 0) :: st) N I L P = sm_at C X 10 28 ls st N I L P := st_go b10 dX0_fact_1 (by decide) rfl
theorem s10_1_1 : sm_at C X 10 1 ls (.int (nI 1) :: st) N I L P = sm_at C X 10 33 ls st N I L P := st_go b10 dX0_fact_1 (by decide) rfl
theorem s10_1_2 : sm_at C X 10 1 ls (.int (nI 2) :: st) N I L P = sm_at C X 10 38 ls st N I L P := st_go b10 dX0_fact_1 (by decide) rfl
theorem s10_1_d (h : x0.toInt < 0 ∨ 2 < x0.toInt) : sm_at C X 10 1 ls (.int x0 :: st) N I L P = sm_at C X 10 43 ls st N I L P := st_tab b10 dX0_fact_1 rfl h
theorem s10_28 : sm_at C X 10 28 [some (.ref a), l1] st N I L P = sm_at C X 10 29 [some (.ref a), l1] (.ref a :: st) N I L P := st_go b10 dX0_fact_28 (by decide) rfl
theorem s10_29 (h : a < N) (h1 : sm_lay a = .inl 0) : sm_at C X 10 29 ls (.ref a :: st) N I L P = sm_at C X 10 32 ls (.int (I a 1) :: st) N I L P := st_gfI b10 dX0_fact_29 rfl rfl h h1
theorem s10_32 : sm_at C X 10 32 ls [.int x0] N I L P = some (some (.int x0), N, I, L, P) := st_iret b10 dX0_fact_32 rfl
theorem s10_33 : sm_at C X 10 33 [some (.ref a), l1] st N I L P = sm_at C X 10 34 [some (.ref a), l1] (.ref a :: st) N I L P := st_go b10 dX0_fact_33 (by decide) rfl
theorem s10_34 (h : a < N) (h1 : sm_lay a = .inl 0) : sm_at C X 10 34 ls (.ref a :: st) N I L P = sm_at C X 10 37 ls (.int (I a 3) :: st) N I L P := st_gfI b10 dX0_fact_34 rfl rfl h h1
theorem s10_37 : sm_at C X 10 37 ls [.int x0] N I L P = some (some (.int x0), N, I, L, P) := st_iret b10 dX0_fact_37 rfl
theorem s10_38 : sm_at C X 10 38 [some (.ref a), l1] st N I L P = sm_at C X 10 39 [some (.ref a), l1] (.ref a :: st) N I L P := st_go b10 dX0_fact_38 (by decide) rfl
theorem s10_39 (h : a < N) (h1 : sm_lay a = .inl 0) : sm_at C X 10 39 ls (.ref a :: st) N I L P = sm_at C X 10 42 ls (.int (I a 2) :: st) N I L P := st_gfI b10 dX0_fact_39 rfl rfl h h1
theorem s10_42 : sm_at C X 10 42 ls [.int x0] N I L P = some (some (.int x0), N, I, L, P) := st_iret b10 dX0_fact_42 rfl
theorem s10_43 : sm_at C X 10 43 [some (.ref a), l1] st N I L P = sm_at C X 10 44 [some (.ref a), l1] (.ref a :: st) N I L P := st_go b10 dX0_fact_43 (by decide) rfl
theorem s10_44 : sm_at C X 10 44 [l0, some (.int x0)] st N I L P = sm_at C X 10 45 [l0, some (.int x0)] (.int x0 :: st) N I L P := st_go b10 dX0_fact_44 (by decide) rfl
theorem s10_45 : sm_at C X 10 45 ls st N I L P = sm_at C X 10 46 ls (.int (nI 3) :: st) N I L P := st_go b10 dX0_fact_45 (by decide) rfl
theorem s10_46 : sm_at C X 10 46 ls (.int x0 :: .int x1 :: st) N I L P = sm_at C X 10 47 ls (.int (x1 - x0) :: st) N I L P := st_go b10 dX0_fact_46 (by decide) rfl
theorem s10_47 (h : a < N) (h1 : sm_lay a = .inl 0) : sm_at C X 10 47 ls [w1, .ref a] N I L P = sm_af C X 10 50 ls [] (C 11 [.ref a, w1] N I L P) := st_virt b10 dX0_fact_47 (n := 2) (rest := []) rfl rfl rfl rfl rfl rfl rfl h h1
theorem s10_50 : sm_at C X 10 50 ls [.int x0] N I L P = some (some (.int x0), N, I, L, P) := st_iret b10 dX0_fact_50 rfl
theorem b11 : sm_b 11 = cX0_member := rfl
theorem s11_0 : sm_at C X 11 0 [l0, some (.int x0)] st N I L P = sm_at C X 11 1 [l0, some (.int x0)] (.int x0 :: st) N I L P := st_go b11 dX0_member_0 (by decide) rfl
theorem s11_1 : sm_at C X 11 1 ls (.int x0 :: st) N I L P = if x0 < 0 then sm_at C X 11 26 ls st N I L P else sm_at C X 11 4 ls st N I L P := st_br b11 dX0_member_1 (by decide) rfl
theorem s11_4 : sm_at C X 11 4 [l0, some (.int x0)] st N I L P = sm_at C X 11 5 [l0, some (.int x0)] (.int x0 :: st) N I L P := st_go b11 dX0_member_4 (by decide) rfl
theorem s11_5 : sm_at C X 11 5 [some (.ref a), l1] st N I L P = sm_at C X 11 6 [some (.ref a), l1] (.ref a :: st) N I L P := st_go b11 dX0_member_5 (by decide) rfl
theorem s11_6 (h : a < N) (h1 : sm_lay a = .inl 0) : sm_at C X 11 6 ls (.ref a :: st) N I L P = sm_at C X 11 9 ls (.int (I a 3) :: st) N I L P := st_gfI b11 dX0_member_6 rfl rfl h h1
theorem s11_9 : sm_at C X 11 9 ls (.int x0 :: .int x1 :: st) N I L P = if x0 ≤ x1 then sm_at C X 11 26 ls st N I L P else sm_at C X 11 12 ls st N I L P := st_br b11 dX0_member_9 (by decide) rfl
theorem s11_12 : sm_at C X 11 12 [l0, some (.int x0)] st N I L P = sm_at C X 11 13 [l0, some (.int x0)] (.int x0 :: st) N I L P := st_go b11 dX0_member_12 (by decide) rfl
theorem s11_13 : sm_at C X 11 13 ls st N I L P = sm_at C X 11 14 ls (.int (nI 4) :: st) N I L P := st_go b11 dX0_member_13 (by decide) rfl
theorem s11_14 : sm_at C X 11 14 ls (.int x0 :: .int x1 :: st) N I L P = if x0 ≤ x1 then sm_at C X 11 26 ls st N I L P else sm_at C X 11 17 ls st N I L P := st_br b11 dX0_member_14 (by decide) rfl
theorem s11_17 : sm_at C X 11 17 [some (.ref a), l1] st N I L P = sm_at C X 11 18 [some (.ref a), l1] (.ref a :: st) N I L P := st_go b11 dX0_member_17 (by decide) rfl
theorem s11_18 (h : a < N) (h1 : sm_lay a = .inl 0) : sm_at C X 11 18 ls (.ref a :: st) N I L P = sm_at C X 11 21 ls (va_rf (P a 0) :: st) N I L P := st_gfR b11 dX0_member_18 rfl rfl h h1
theorem s11_21 : sm_at C X 11 21 [l0, some (.int x0)] st N I L P = sm_at C X 11 22 [l0, some (.int x0)] (.int x0 :: st) N I L P := st_go b11 dX0_member_21 (by decide) rfl
theorem s11_22 (h : a < N) (h1 : k < sm_al a) : sm_at C X 11 22 ls (.int (nI k) :: .ref a :: st) N I L P = sm_at C X 11 23 ls (.int (I a k) :: st) N I L P := st_iald b11 dX0_member_22 h h1
theorem s11_23 : sm_at C X 11 23 ls st N I L P = sm_at C X 11 27 ls st N I L P := st_go b11 dX0_member_23 (by decide) rfl
theorem s11_26 : sm_at C X 11 26 ls st N I L P = sm_at C X 11 27 ls (.int (-1) :: st) N I L P := st_go b11 dX0_member_26 (by decide) rfl
theorem s11_27 : sm_at C X 11 27 ls [.int x0] N I L P = some (some (.int x0), N, I, L, P) := st_iret b11 dX0_member_27 rfl
theorem b12 : sm_b 12 = cX0_placeOf := rfl
theorem s12_0 : sm_at C X 12 0 ls st N I L P = sm_at C X 12 1 ls (.int (nI 0) :: st) N I L P := st_go b12 dX0_placeOf_0 (by decide) rfl
theorem s12_1 : sm_at C X 12 1 [l0, l1, l2] (.int x0 :: st) N I L P = sm_at C X 12 2 [l0, sm_cl l1, some (.int x0)] st N I L P := st_go b12 dX0_placeOf_1 (by decide) rfl
theorem s12_2 : sm_at C X 12 2 [l0, l1, some (.int x0)] st N I L P = sm_at C X 12 3 [l0, l1, some (.int x0)] (.int x0 :: st) N I L P := st_go b12 dX0_placeOf_2 (by decide) rfl
theorem s12_3 : sm_at C X 12 3 [some (.ref a), l1, l2] st N I L P = sm_at C X 12 4 [some (.ref a), l1, l2] (.ref a :: st) N I L P := st_go b12 dX0_placeOf_3 (by decide) rfl
theorem s12_4 (h : a < N) (h1 : sm_lay a = .inl 0) : sm_at C X 12 4 ls (.ref a :: st) N I L P = sm_at C X 12 7 ls (.int (I a 3) :: st) N I L P := st_gfI b12 dX0_placeOf_4 rfl rfl h h1
theorem s12_7 : sm_at C X 12 7 ls (.int x0 :: .int x1 :: st) N I L P = if x0 ≤ x1 then sm_at C X 12 27 ls st N I L P else sm_at C X 12 10 ls st N I L P := st_br b12 dX0_placeOf_7 (by decide) rfl
theorem s12_10 : sm_at C X 12 10 [some (.ref a), l1, l2] st N I L P = sm_at C X 12 11 [some (.ref a), l1, l2] (.ref a :: st) N I L P := st_go b12 dX0_placeOf_10 (by decide) rfl
theorem s12_11 : sm_at C X 12 11 [l0, l1, some (.int x0)] st N I L P = sm_at C X 12 12 [l0, l1, some (.int x0)] (.int x0 :: st) N I L P := st_go b12 dX0_placeOf_11 (by decide) rfl
theorem s12_12 (h : a < N) (h1 : sm_lay a = .inl 0) : sm_at C X 12 12 ls [w1, .ref a] N I L P = sm_af C X 12 15 ls [] (C 11 [.ref a, w1] N I L P) := st_virt b12 dX0_placeOf_12 (n := 2) (rest := []) rfl rfl rfl rfl rfl rfl rfl h h1
theorem s12_15 : sm_at C X 12 15 [l0, some (.int x0), l2] st N I L P = sm_at C X 12 16 [l0, some (.int x0), l2] (.int x0 :: st) N I L P := st_go b12 dX0_placeOf_15 (by decide) rfl
theorem s12_16 : sm_at C X 12 16 ls (.int x0 :: .int x1 :: st) N I L P = if ¬ x1 = x0 then sm_at C X 12 21 ls st N I L P else sm_at C X 12 19 ls st N I L P := st_br b12 dX0_placeOf_16 (by decide) rfl
theorem s12_19 : sm_at C X 12 19 [l0, l1, some (.int x0)] st N I L P = sm_at C X 12 20 [l0, l1, some (.int x0)] (.int x0 :: st) N I L P := st_go b12 dX0_placeOf_19 (by decide) rfl
theorem s12_20 : sm_at C X 12 20 ls [.int x0] N I L P = some (some (.int x0), N, I, L, P) := st_iret b12 dX0_placeOf_20 rfl
theorem s12_21 : sm_at C X 12 21 [l0, l1, some (.int x0)] st N I L P = sm_at C X 12 24 [l0, sm_cl l1, some (.int (x0 + (nI 1)))] st N I L P := st_go b12 dX0_placeOf_21 (by decide) rfl
theorem s12_24 : sm_at C X 12 24 ls st N I L P = sm_at C X 12 2 ls st N I L P := st_go b12 dX0_placeOf_24 (by decide) rfl
theorem s12_27 : sm_at C X 12 27 ls st N I L P = sm_at C X 12 28 ls (.int (-1) :: st) N I L P := st_go b12 dX0_placeOf_27 (by decide) rfl
theorem s12_28 : sm_at C X 12 28 ls [.int x0] N I L P = some (some (.int x0), N, I, L, P) := st_iret b12 dX0_placeOf_28 rfl
theorem b13 : sm_b 13 = cX0_hasAnyOf := rfl
theorem s13_0 : sm_at C X 13 0 ls st N I L P = sm_at C X 13 1 ls (.int (nI 0) :: st) N I L P := st_go b13 dX0_hasAnyOf_0 (by decide) rfl
theorem s13_1 : sm_at C X 13 1 [l0, l1, l2] (.int x0 :: st) N I L P = sm_at C X 13 2 [l0, sm_cl l1, some (.int x0)] st N I L P := st_go b13 dX0_hasAnyOf_1 (by decide) rfl
theorem s13_2 : sm_at C X 13 2 [l0, l1, some (.int x0)] st N I L P = sm_at C X 13 3 [l0, l1, some (.int x0)] (.int x0 :: st) N I L P := st_go b13 dX0_hasAnyOf_2 (by decide) rfl
theorem s13_3 : sm_at C X 13 3 [some (.ref a), l1, l2] st N I L P = sm_at C X 13 4 [some (.ref a), l1, l2] (.ref a :: st) N I L P := st_go b13 dX0_hasAnyOf_3 (by decide) rfl
theorem s13_4 (h : a < N) (h1 : sm_lay a = .inl 0) : sm_at C X 13 4 ls (.ref a :: st) N I L P = sm_at C X 13 7 ls (.int (I a 3) :: st) N I L P := st_gfI b13 dX0_hasAnyOf_4 rfl rfl h h1
theorem s13_7 : sm_at C X 13 7 ls (.int x0 :: .int x1 :: st) N I L P = if x0 ≤ x1 then sm_at C X 13 30 ls st N I L P else sm_at C X 13 10 ls st N I L P := st_br b13 dX0_hasAnyOf_7 (by decide) rfl
theorem s13_10 : sm_at C X 13 10 [l0, some (.int x0), l2] st N I L P = sm_at C X 13 11 [l0, some (.int x0), l2] (.int x0 :: st) N I L P := st_go b13 dX0_hasAnyOf_10 (by decide) rfl
theorem s13_11 : sm_at C X 13 11 [some (.ref a), l1, l2] st N I L P = sm_at C X 13 12 [some (.ref a), l1, l2] (.ref a :: st) N I L P := st_go b13 dX0_hasAnyOf_11 (by decide) rfl
theorem s13_12 : sm_at C X 13 12 [l0, l1, some (.int x0)] st N I L P = sm_at C X 13 13 [l0, l1, some (.int x0)] (.int x0 :: st) N I L P := st_go b13 dX0_hasAnyOf_12 (by decide) rfl
theorem s13_13 (h : a < N) (h1 : sm_lay a = .inl 0) : sm_at C X 13 13 ls [w1, .ref a, v0] N I L P = sm_af C X 13 16 ls [v0] (C 11 [.ref a, w1] N I L P) := st_virt b13 dX0_hasAnyOf_13 (n := 2) (rest := [v0]) rfl rfl rfl rfl rfl rfl rfl h h1
theorem s13_16 : sm_at C X 13 16 ls [w1, w0] N I L P = sm_af C X 13 19 ls [] (C 140 [w0, w1] N I L P) := st_stat b13 dX0_hasAnyOf_16 (n := 2) (rest := []) rfl rfl rfl rfl rfl rfl
theorem s13_19 : sm_at C X 13 19 ls (.int x0 :: st) N I L P = if x0 = 0 then sm_at C X 13 24 ls st N I L P else sm_at C X 13 22 ls st N I L P := st_br b13 dX0_hasAnyOf_19 (by decide) rfl
theorem s13_22 : sm_at C X 13 22 ls st N I L P = sm_at C X 13 23 ls (.int (nI 1) :: st) N I L P := st_go b13 dX0_hasAnyOf_22 (by decide) rfl
theorem s13_23 (h : x0 = 0 ∨ x0 = 1) : sm_at C X 13 23 ls [.int x0] N I L P = some (some (.int x0), N, I, L, P) := st_zret b13 dX0_hasAnyOf_23 rfl h
theorem s13_24 : sm_at C X 13 24 [l0, l1, some (.int x0)] st N I L P = sm_at C X 13 27 [l0, sm_cl l1, some (.int (x0 + (nI 1)))] st N I L P := st_go b13 dX0_hasAnyOf_24 (by decide) rfl
theorem s13_27 : sm_at C X 13 27 ls st N I L P = sm_at C X 13 2 ls st N I L P := st_go b13 dX0_hasAnyOf_27 (by decide) rfl
theorem s13_30 : sm_at C X 13 30 ls st N I L P = sm_at C X 13 31 ls (.int (nI 0) :: st) N I L P := st_go b13 dX0_hasAnyOf_30 (by decide) rfl
theorem s13_31 (h : x0 = 0 ∨ x0 = 1) : sm_at C X 13 31 ls [.int x0] N I L P = some (some (.int x0), N, I, L, P) := st_zret b13 dX0_hasAnyOf_31 rfl h
theorem b14 : sm_b 14 = cX0_delay := rfl
theorem s14_0 : sm_at C X 14 0 [some (.ref a), l1, l2] st N I L P = sm_at C X 14 1 [some (.ref a), l1, l2] (.ref a :: st) N I L P := st_go b14 dX0_delay_0 (by decide) rfl
theorem s14_1 (h : a < N) (h1 : sm_lay a = .inl 0) : sm_at C X 14 1 ls (.ref a :: st) N I L P = sm_at C X 14 4 ls (.int (I a 1) :: st) N I L P := st_gfI b14 dX0_delay_1 rfl rfl h h1
theorem s14_4_0 : sm_at C X 14 4 ls (.int (nI 1) :: st) N I L P = sm_at C X 14 32 ls st N I L P := st_go b14 dX0_delay_4 (by decide) rfl
theorem s14_4_1 : sm_at C X 14 4 ls (.int (nI 3) :: st) N I L P = sm_at C X 14 52 ls st N I L P := st_go b14 dX0_delay_4 (by decide) rfl
theorem s14_4_d (h0 : ¬ x0 = nI 1) (h1 : ¬ x0 = nI 3) : sm_at C X 14 4 ls (.int x0 :: st) N I L P = sm_at C X 14 57 ls st N I L P := by
  refine st_go b14 dX0_delay_4 (by decide) (st_lk (off := 53) rfl ?_ rfl)
  refine (lv_osw h0 rfl).trans ?_
  refine (lv_osw h1 rfl).trans ?_
  rfl
theorem s14_32 : sm_at C X 14 32 [l0, some (.int x0), l2] st N I L P = sm_at C X 14 33 [l0, some (.int x0), l2] (.int x0 :: st) N I L P := st_go b14 dX0_delay_32 (by decide) rfl
theorem s14_33 : sm_at C X 14 33 [l0, l1, some (.int x0)] st N I L P = sm_at C X 14 34 [l0, l1, some (.int x0)] (.int x0 :: st) N I L P := st_go b14 dX0_delay_33 (by decide) rfl
theorem s14_34 : sm_at C X 14 34 ls (.int x0 :: .int x1 :: st) N I L P = if x0 < x1 then sm_at C X 14 43 ls st N I L P else sm_at C X 14 37 ls st N I L P := st_br b14 dX0_delay_34 (by decide) rfl
theorem s14_37 : sm_at C X 14 37 [l0, l1, some (.int x0)] st N I L P = sm_at C X 14 38 [l0, l1, some (.int x0)] (.int x0 :: st) N I L P := st_go b14 dX0_delay_37 (by decide) rfl
theorem s14_38 : sm_at C X 14 38 [l0, some (.int x0), l2] st N I L P = sm_at C X 14 39 [l0, some (.int x0), l2] (.int x0 :: st) N I L P := st_go b14 dX0_delay_38 (by decide) rfl
theorem s14_39 : sm_at C X 14 39 ls (.int x0 :: .int x1 :: st) N I L P = sm_at C X 14 40 ls (.int (x1 - x0) :: st) N I L P := st_go b14 dX0_delay_39 (by decide) rfl
theorem s14_40 : sm_at C X 14 40 ls st N I L P = sm_at C X 14 51 ls st N I L P := st_go b14 dX0_delay_40 (by decide) rfl
theorem s14_43 : sm_at C X 14 43 [l0, l1, some (.int x0)] st N I L P = sm_at C X 14 44 [l0, l1, some (.int x0)] (.int x0 :: st) N I L P := st_go b14 dX0_delay_43 (by decide) rfl
theorem s14_44 : sm_at C X 14 44 [l0, some (.int x0), l2] st N I L P = sm_at C X 14 45 [l0, some (.int x0), l2] (.int x0 :: st) N I L P := st_go b14 dX0_delay_44 (by decide) rfl
theorem s14_45 : sm_at C X 14 45 ls (.int x0 :: .int x1 :: st) N I L P = sm_at C X 14 46 ls (.int (x1 - x0) :: st) N I L P := st_go b14 dX0_delay_45 (by decide) rfl
theorem s14_46 : sm_at C X 14 46 [some (.ref a), l1, l2] st N I L P = sm_at C X 14 47 [some (.ref a), l1, l2] (.ref a :: st) N I L P := st_go b14 dX0_delay_46 (by decide) rfl
theorem s14_47 (h : a < N) (h1 : sm_lay a = .inl 0) : sm_at C X 14 47 ls (.ref a :: st) N I L P = sm_at C X 14 50 ls (.int (I a 3) :: st) N I L P := st_gfI b14 dX0_delay_47 rfl rfl h h1
theorem s14_50 : sm_at C X 14 50 ls (.int x0 :: .int x1 :: st) N I L P = sm_at C X 14 51 ls (.int (x1 + x0) :: st) N I L P := st_go b14 dX0_delay_50 (by decide) rfl
theorem s14_51 : sm_at C X 14 51 ls [.int x0] N I L P = some (some (.int x0), N, I, L, P) := st_iret b14 dX0_delay_51 rfl
theorem s14_52 : sm_at C X 14 52 [some (.ref a), l1, l2] st N I L P = sm_at C X 14 53 [some (.ref a), l1, l2] (.ref a :: st) N I L P := st_go b14 dX0_delay_52 (by decide) rfl
theorem s14_53 (h : a < N) (h1 : sm_lay a = .inl 0) : sm_at C X 14 53 ls (.ref a :: st) N I L P = sm_at C X 14 56 ls (.int (I a 2) :: st) N I L P := st_gfI b14 dX0_delay_53 rfl rfl h h1
theorem s14_56 : sm_at C X 14 56 ls [.int x0] N I L P = some (some (.int x0), N, I, L, P) := st_iret b14 dX0_delay_56 rfl
theorem s14_57 : sm_at C X 14 57 ls st N I L P = sm_at C X 14 58 ls (.int (nI 0) :: st) N I L P := st_go b14 dX0_delay_57 (by decide) rfl
theorem s14_58 : sm_at C X 14 58 ls [.int x0] N I L P = some (some (.int x0), N, I, L, P) := st_iret b14 dX0_delay_58 rfl
end STX0
