section STX1
variable {C : sm_Cf} {X : sm_Xs} {ls : List (Option Value)} {st : List Value} {N : Nat} {I : sm_Im} {L : sm_Lm} {P : sm_Pm} {x0 x1 x2 : Int32} {z0 z1 : Int64} {a a2 k n : Nat} {f : Nat → Int32} {w0 w1 w2 w3 w4 w5 w6 v0 v1 v2 v3 v4 : Value} {l0 l1 l2 l3 l4 l5 l6 l7 l8 l9 l10 l11 l12 l13 l14 l15 l16 : Option Value}
theorem b15 : sm_b 15 = cX1_init := rfl
theorem s15_0 : sm_at C X 15 0 [some (.ref a)] st N I L P = sm_at C X 15 1 [some (.ref a)] (.ref a :: st) N I L P := st_go b15 dX1_init_0 (by decide) rfl
theorem s15_1 : sm_at C X 15 1 ls (.ref a :: []) N I L P = sm_at C X 15 4 ls [] N I L P := st_go b15 dX1_init_1 (by decide) rfl
theorem s15_4 : sm_at C X 15 4 [some (.ref a)] st N I L P = sm_at C X 15 5 [some (.ref a)] (.ref a :: st) N I L P := st_go b15 dX1_init_4 (by decide) rfl
theorem s15_5 : sm_at C X 15 5 ls st N I L P = sm_at C X 15 6 ls (.int (nI 4) :: st) N I L P := st_go b15 dX1_init_5 (by decide) rfl
theorem s15_6 (h : N < 81) (h1 : sm_lay N = .inr (.inl k)) (h2 : k < 1000) : sm_at C X 15 6 ls (.int (nI k) :: st) N I L P = sm_at C X 15 8 ls (.ref N :: st) (N + 1) (sm_z I N 0) L P := st_newa b15 dX1_init_6 h h1 h2
theorem s15_8 (h : a < N) (h1 : sm_lay a = .inl 1) : sm_at C X 15 8 ls (.ref a2 :: .ref a :: st) N I L P = sm_at C X 15 11 ls st N I L (sm_up P a 0 (some a2)) := st_pfR b15 dX1_init_8 rfl rfl (Or.inr ⟨rfl, rfl⟩) h h1
theorem s15_11 : sm_at C X 15 11 ls [] N I L P = some (none, N, I, L, P) := st_ret b15 dX1_init_11 (by decide) rfl
theorem b16 : sm_b 16 = cX1_size := rfl
theorem s16_0 : sm_at C X 16 0 [some (.ref a)] st N I L P = sm_at C X 16 1 [some (.ref a)] (.ref a :: st) N I L P := st_go b16 dX1_size_0 (by decide) rfl
theorem s16_1 (h : a < N) (h1 : sm_lay a = .inl 1) : sm_at C X 16 1 ls (.ref a :: st) N I L P = sm_at C X 16 4 ls (.int (I a 1) :: st) N I L P := st_gfI b16 dX1_size_1 rfl rfl h h1
theorem s16_4 : sm_at C X 16 4 ls [.int x0] N I L P = some (some (.int x0), N, I, L, P) := st_iret b16 dX1_size_4 rfl
theorem b17 : sm_b 17 = cX1_at := rfl
theorem s17_0 : sm_at C X 17 0 [l0, some (.int x0)] st N I L P = sm_at C X 17 1 [l0, some (.int x0)] (.int x0 :: st) N I L P := st_go b17 dX1_at_0 (by decide) rfl
theorem s17_1 : sm_at C X 17 1 ls (.int x0 :: st) N I L P = if x0 < 0 then sm_at C X 17 26 ls st N I L P else sm_at C X 17 4 ls st N I L P := st_br b17 dX1_at_1 (by decide) rfl
theorem s17_4 : sm_at C X 17 4 [l0, some (.int x0)] st N I L P = sm_at C X 17 5 [l0, some (.int x0)] (.int x0 :: st) N I L P := st_go b17 dX1_at_4 (by decide) rfl
theorem s17_5 : sm_at C X 17 5 [some (.ref a), l1] st N I L P = sm_at C X 17 6 [some (.ref a), l1] (.ref a :: st) N I L P := st_go b17 dX1_at_5 (by decide) rfl
theorem s17_6 (h : a < N) (h1 : sm_lay a = .inl 1) : sm_at C X 17 6 ls (.ref a :: st) N I L P = sm_at C X 17 9 ls (.int (I a 1) :: st) N I L P := st_gfI b17 dX1_at_6 rfl rfl h h1
theorem s17_9 : sm_at C X 17 9 ls (.int x0 :: .int x1 :: st) N I L P = if x0 ≤ x1 then sm_at C X 17 26 ls st N I L P else sm_at C X 17 12 ls st N I L P := st_br b17 dX1_at_9 (by decide) rfl
theorem s17_12 : sm_at C X 17 12 [l0, some (.int x0)] st N I L P = sm_at C X 17 13 [l0, some (.int x0)] (.int x0 :: st) N I L P := st_go b17 dX1_at_12 (by decide) rfl
theorem s17_13 : sm_at C X 17 13 ls st N I L P = sm_at C X 17 14 ls (.int (nI 4) :: st) N I L P := st_go b17 dX1_at_13 (by decide) rfl
theorem s17_14 : sm_at C X 17 14 ls (.int x0 :: .int x1 :: st) N I L P = if x0 ≤ x1 then sm_at C X 17 26 ls st N I L P else sm_at C X 17 17 ls st N I L P := st_br b17 dX1_at_14 (by decide) rfl
theorem s17_17 : sm_at C X 17 17 [some (.ref a), l1] st N I L P = sm_at C X 17 18 [some (.ref a), l1] (.ref a :: st) N I L P := st_go b17 dX1_at_17 (by decide) rfl
theorem s17_18 (h : a < N) (h1 : sm_lay a = .inl 1) : sm_at C X 17 18 ls (.ref a :: st) N I L P = sm_at C X 17 21 ls (va_rf (P a 0) :: st) N I L P := st_gfR b17 dX1_at_18 rfl rfl h h1
theorem s17_21 : sm_at C X 17 21 [l0, some (.int x0)] st N I L P = sm_at C X 17 22 [l0, some (.int x0)] (.int x0 :: st) N I L P := st_go b17 dX1_at_21 (by decide) rfl
theorem s17_22 (h : a < N) (h1 : k < sm_al a) : sm_at C X 17 22 ls (.int (nI k) :: .ref a :: st) N I L P = sm_at C X 17 23 ls (.int (I a k) :: st) N I L P := st_iald b17 dX1_at_22 h h1
theorem s17_23 : sm_at C X 17 23 ls st N I L P = sm_at C X 17 27 ls st N I L P := st_go b17 dX1_at_23 (by decide) rfl
theorem s17_26 : sm_at C X 17 26 ls st N I L P = sm_at C X 17 27 ls (.int (-1) :: st) N I L P := st_go b17 dX1_at_26 (by decide) rfl
theorem s17_27 : sm_at C X 17 27 ls [.int x0] N I L P = some (some (.int x0), N, I, L, P) := st_iret b17 dX1_at_27 rfl
theorem b18 : sm_b 18 = cX1_add := rfl
theorem s18_0 : sm_at C X 18 0 ls st N I L P = sm_at C X 18 1 ls (.int (nI 0) :: st) N I L P := st_go b18 dX1_add_0 (by decide) rfl
theorem s18_1 : sm_at C X 18 1 [l0, l1, l2] (.int x0 :: st) N I L P = sm_at C X 18 2 [l0, sm_cl l1, some (.int x0)] st N I L P := st_go b18 dX1_add_1 (by decide) rfl
theorem s18_2 : sm_at C X 18 2 [l0, l1, some (.int x0)] st N I L P = sm_at C X 18 3 [l0, l1, some (.int x0)] (.int x0 :: st) N I L P := st_go b18 dX1_add_2 (by decide) rfl
theorem s18_3 : sm_at C X 18 3 [some (.ref a), l1, l2] st N I L P = sm_at C X 18 4 [some (.ref a), l1, l2] (.ref a :: st) N I L P := st_go b18 dX1_add_3 (by decide) rfl
theorem s18_4 (h : a < N) (h1 : sm_lay a = .inl 1) : sm_at C X 18 4 ls (.ref a :: st) N I L P = sm_at C X 18 7 ls (.int (I a 1) :: st) N I L P := st_gfI b18 dX1_add_4 rfl rfl h h1
theorem s18_7 : sm_at C X 18 7 ls (.int x0 :: .int x1 :: st) N I L P = if x0 ≤ x1 then sm_at C X 18 28 ls st N I L P else sm_at C X 18 10 ls st N I L P := st_br b18 dX1_add_7 (by decide) rfl
theorem s18_10 : sm_at C X 18 10 [some (.ref a), l1, l2] st N I L P = sm_at C X 18 11 [some (.ref a), l1, l2] (.ref a :: st) N I L P := st_go b18 dX1_add_10 (by decide) rfl
theorem s18_11 : sm_at C X 18 11 [l0, l1, some (.int x0)] st N I L P = sm_at C X 18 12 [l0, l1, some (.int x0)] (.int x0 :: st) N I L P := st_go b18 dX1_add_11 (by decide) rfl
theorem s18_12 (h : a < N) (h1 : sm_lay a = .inl 1) : sm_at C X 18 12 ls [w1, .ref a] N I L P = sm_af C X 18 15 ls [] (C 17 [.ref a, w1] N I L P) := st_virt b18 dX1_add_12 (n := 2) (rest := []) rfl rfl rfl rfl rfl rfl rfl h h1
theorem s18_15 : sm_at C X 18 15 [l0, some (.int x0), l2] st N I L P = sm_at C X 18 16 [l0, some (.int x0), l2] (.int x0 :: st) N I L P := st_go b18 dX1_add_15 (by decide) rfl
theorem s18_16 : sm_at C X 18 16 ls (.int x0 :: .int x1 :: st) N I L P = if ¬ x1 = x0 then sm_at C X 18 22 ls st N I L P else sm_at C X 18 19 ls st N I L P := st_br b18 dX1_add_16 (by decide) rfl
theorem s18_19 : sm_at C X 18 19 ls st N I L P = sm_at C X 18 21 ls (.int (-103) :: st) N I L P := st_go b18 dX1_add_19 (by decide) rfl
theorem s18_21 : sm_at C X 18 21 ls [.int x0] N I L P = some (some (.int x0), N, I, L, P) := st_iret b18 dX1_add_21 rfl
theorem s18_22 : sm_at C X 18 22 [l0, l1, some (.int x0)] st N I L P = sm_at C X 18 25 [l0, sm_cl l1, some (.int (x0 + (nI 1)))] st N I L P := st_go b18 dX1_add_22 (by decide) rfl
theorem s18_25 : sm_at C X 18 25 ls st N I L P = sm_at C X 18 2 ls st N I L P := st_go b18 dX1_add_25 (by decide) rfl
theorem s18_28 : sm_at C X 18 28 [some (.ref a), l1, l2] st N I L P = sm_at C X 18 29 [some (.ref a), l1, l2] (.ref a :: st) N I L P := st_go b18 dX1_add_28 (by decide) rfl
theorem s18_29 (h : a < N) (h1 : sm_lay a = .inl 1) : sm_at C X 18 29 ls (.ref a :: st) N I L P = sm_at C X 18 32 ls (.int (I a 1) :: st) N I L P := st_gfI b18 dX1_add_29 rfl rfl h h1
theorem s18_32 : sm_at C X 18 32 ls st N I L P = sm_at C X 18 33 ls (.int (nI 4) :: st) N I L P := st_go b18 dX1_add_32 (by decide) rfl
theorem s18_33 : sm_at C X 18 33 ls (.int x0 :: .int x1 :: st) N I L P = if x1 < x0 then sm_at C X 18 39 ls st N I L P else sm_at C X 18 36 ls st N I L P := st_br b18 dX1_add_33 (by decide) rfl
theorem s18_36 : sm_at C X 18 36 ls st N I L P = sm_at C X 18 38 ls (.int (-104) :: st) N I L P := st_go b18 dX1_add_36 (by decide) rfl
theorem s18_38 : sm_at C X 18 38 ls [.int x0] N I L P = some (some (.int x0), N, I, L, P) := st_iret b18 dX1_add_38 rfl
theorem s18_39 : sm_at C X 18 39 [some (.ref a), l1, l2] st N I L P = sm_at C X 18 40 [some (.ref a), l1, l2] (.ref a :: st) N I L P := st_go b18 dX1_add_39 (by decide) rfl
theorem s18_40 (h : a < N) (h1 : sm_lay a = .inl 1) : sm_at C X 18 40 ls (.ref a :: st) N I L P = sm_at C X 18 43 ls (va_rf (P a 0) :: st) N I L P := st_gfR b18 dX1_add_40 rfl rfl h h1
theorem s18_43 : sm_at C X 18 43 [some (.ref a), l1, l2] st N I L P = sm_at C X 18 44 [some (.ref a), l1, l2] (.ref a :: st) N I L P := st_go b18 dX1_add_43 (by decide) rfl
theorem s18_44 (h : a < N) (h1 : sm_lay a = .inl 1) : sm_at C X 18 44 ls (.ref a :: st) N I L P = sm_at C X 18 47 ls (.int (I a 1) :: st) N I L P := st_gfI b18 dX1_add_44 rfl rfl h h1
theorem s18_47 : sm_at C X 18 47 [l0, some (.int x0), l2] st N I L P = sm_at C X 18 48 [l0, some (.int x0), l2] (.int x0 :: st) N I L P := st_go b18 dX1_add_47 (by decide) rfl
theorem s18_48 (h : a < N) (h1 : k < sm_al a) : sm_at C X 18 48 ls (.int x0 :: .int (nI k) :: .ref a :: st) N I L P = sm_at C X 18 49 ls st N (sm_up I a k x0) L P := st_iast b18 dX1_add_48 h h1
theorem s18_49 : sm_at C X 18 49 [some (.ref a), l1, l2] st N I L P = sm_at C X 18 50 [some (.ref a), l1, l2] (.ref a :: st) N I L P := st_go b18 dX1_add_49 (by decide) rfl
theorem s18_50 : sm_at C X 18 50 ls (.ref a :: st) N I L P = sm_at C X 18 51 ls (.ref a :: .ref a :: st) N I L P := st_go b18 dX1_add_50 (by decide) rfl
theorem s18_51 (h : a < N) (h1 : sm_lay a = .inl 1) : sm_at C X 18 51 ls (.ref a :: st) N I L P = sm_at C X 18 54 ls (.int (I a 1) :: st) N I L P := st_gfI b18 dX1_add_51 rfl rfl h h1
theorem s18_54 : sm_at C X 18 54 ls st N I L P = sm_at C X 18 55 ls (.int (nI 1) :: st) N I L P := st_go b18 dX1_add_54 (by decide) rfl
theorem s18_55 : sm_at C X 18 55 ls (.int x0 :: .int x1 :: st) N I L P = sm_at C X 18 56 ls (.int (x1 + x0) :: st) N I L P := st_go b18 dX1_add_55 (by decide) rfl
theorem s18_56 (h : a < N) (h1 : sm_lay a = .inl 1) : sm_at C X 18 56 ls (.int x0 :: .ref a :: st) N I L P = sm_at C X 18 59 ls st N (sm_up I a 1 x0) L P := st_pfI b18 dX1_add_56 rfl rfl rfl h h1
theorem s18_59 : sm_at C X 18 59 [some (.ref a), l1, l2] st N I L P = sm_at C X 18 60 [some (.ref a), l1, l2] (.ref a :: st) N I L P := st_go b18 dX1_add_59 (by decide) rfl
theorem s18_60 (h : a < N) (h1 : sm_lay a = .inl 1) : sm_at C X 18 60 ls (.ref a :: st) N I L P = sm_at C X 18 63 ls (.int (I a 1) :: st) N I L P := st_gfI b18 dX1_add_60 rfl rfl h h1
theorem s18_63 : sm_at C X 18 63 ls [.int x0] N I L P = some (some (.int x0), N, I, L, P) := st_iret b18 dX1_add_63 rfl
theorem b19 : sm_b 19 = cX1_copyFrom := rfl
theorem s19_0 : sm_at C X 19 0 [l0, some (.ref a)] st N I L P = sm_at C X 19 1 [l0, some (.ref a)] (.ref a :: st) N I L P := st_go b19 dX1_copyFrom_0 (by decide) rfl
theorem s19_0n : sm_at C X 19 0 [l0, some .null] st N I L P = sm_at C X 19 1 [l0, some .null] (.null :: st) N I L P := st_go b19 dX1_copyFrom_0 (by decide) rfl
theorem s19_1 (h : a < N) (h1 : sm_lay a = .inl 1) : sm_at C X 19 1 ls (.ref a :: st) N I L P = sm_at C X 19 4 ls (va_rf (P a 0) :: st) N I L P := st_gfR b19 dX1_copyFrom_1 rfl rfl h h1
theorem s19_4 : sm_at C X 19 4 ls st N I L P = sm_at C X 19 5 ls (.int (nI 0) :: st) N I L P := st_go b19 dX1_copyFrom_4 (by decide) rfl
theorem s19_5 : sm_at C X 19 5 [some (.ref a), l1] st N I L P = sm_at C X 19 6 [some (.ref a), l1] (.ref a :: st) N I L P := st_go b19 dX1_copyFrom_5 (by decide) rfl
theorem s19_6 (h : a < N) (h1 : sm_lay a = .inl 1) : sm_at C X 19 6 ls (.ref a :: st) N I L P = sm_at C X 19 9 ls (va_rf (P a 0) :: st) N I L P := st_gfR b19 dX1_copyFrom_6 rfl rfl h h1
theorem s19_9 : sm_at C X 19 9 ls st N I L P = sm_at C X 19 10 ls (.int (nI 0) :: st) N I L P := st_go b19 dX1_copyFrom_9 (by decide) rfl
theorem s19_10 : sm_at C X 19 10 ls st N I L P = sm_at C X 19 11 ls (.int (nI 4) :: st) N I L P := st_go b19 dX1_copyFrom_10 (by decide) rfl
theorem s19_11 (h : a < N) (h1 : a2 < N) (h2 : k ≤ sm_al a) (h3 : k ≤ sm_al a2) (h4 : 0 < k) : sm_at C X 19 11 ls [.int (nI k), .int (nI 0), .ref a, .int (nI 0), .ref a2] N I L P = sm_at C X 19 14 ls [] N (sm_row I a (va_cpy (I a2) (I a) 0 0 k)) L P := st_copy b19 dX1_copyFrom_11 rfl rfl h h1 h2 h3 h4
theorem s19_14 : sm_at C X 19 14 [some (.ref a), l1] st N I L P = sm_at C X 19 15 [some (.ref a), l1] (.ref a :: st) N I L P := st_go b19 dX1_copyFrom_14 (by decide) rfl
theorem s19_15 : sm_at C X 19 15 [l0, some (.ref a)] st N I L P = sm_at C X 19 16 [l0, some (.ref a)] (.ref a :: st) N I L P := st_go b19 dX1_copyFrom_15 (by decide) rfl
theorem s19_15n : sm_at C X 19 15 [l0, some .null] st N I L P = sm_at C X 19 16 [l0, some .null] (.null :: st) N I L P := st_go b19 dX1_copyFrom_15 (by decide) rfl
theorem s19_16 (h : a < N) (h1 : sm_lay a = .inl 1) : sm_at C X 19 16 ls (.ref a :: st) N I L P = sm_at C X 19 19 ls (.int (I a 1) :: st) N I L P := st_gfI b19 dX1_copyFrom_16 rfl rfl h h1
theorem s19_19 (h : a < N) (h1 : sm_lay a = .inl 1) : sm_at C X 19 19 ls (.int x0 :: .ref a :: st) N I L P = sm_at C X 19 22 ls st N (sm_up I a 1 x0) L P := st_pfI b19 dX1_copyFrom_19 rfl rfl rfl h h1
theorem s19_22 : sm_at C X 19 22 ls [] N I L P = some (none, N, I, L, P) := st_ret b19 dX1_copyFrom_22 (by decide) rfl
theorem b20 : sm_b 20 = cX1_weight := rfl
theorem s20_0 : sm_at C X 20 0 [some (.ref a), l1, l2, l3, l4, l5] st N I L P = sm_at C X 20 1 [some (.ref a), l1, l2, l3, l4, l5] (.ref a :: st) N I L P := st_go b20 dX1_weight_0 (by decide) rfl
theorem s20_1 : sm_at C X 20 1 [l0, some (.int x0), l2, l3, l4, l5] st N I L P = sm_at C X 20 2 [l0, some (.int x0), l2, l3, l4, l5] (.int x0 :: st) N I L P := st_go b20 dX1_weight_1 (by decide) rfl
theorem s20_2 (h : a < N) (h1 : sm_lay a = .inl 1) : sm_at C X 20 2 ls [w1, .ref a] N I L P = sm_af C X 20 5 ls [] (C 17 [.ref a, w1] N I L P) := st_virt b20 dX1_weight_2 (n := 2) (rest := []) rfl rfl rfl rfl rfl rfl rfl h h1
theorem s20_5 : sm_at C X 20 5 [l0, l1, l2, l3, l4, l5] (.int x0 :: st) N I L P = sm_at C X 20 7 [l0, l1, l2, sm_cl l3, some (.int x0), l5] st N I L P := st_go b20 dX1_weight_5 (by decide) rfl
theorem s20_7 : sm_at C X 20 7 [l0, l1, some (.int x0), l3, l4, l5] st N I L P = sm_at C X 20 8 [l0, l1, some (.int x0), l3, l4, l5] (.int x0 :: st) N I L P := st_go b20 dX1_weight_7 (by decide) rfl
theorem s20_8 : sm_at C X 20 8 [l0, l1, l2, l3, some (.int x0), l5] st N I L P = sm_at C X 20 10 [l0, l1, l2, l3, some (.int x0), l5] (.int x0 :: st) N I L P := st_go b20 dX1_weight_8 (by decide) rfl
theorem s20_10 : sm_at C X 20 10 ls st N I L P = sm_at C X 20 11 ls (.int (-1) :: st) N I L P := st_go b20 dX1_weight_10 (by decide) rfl
theorem s20_11 : sm_at C X 20 11 ls (.int x0 :: .int x1 :: st) N I L P = sm_at C X 20 12 ls (.int (x1 ^^^ x0) :: st) N I L P := st_go b20 dX1_weight_11 (by decide) rfl
theorem s20_12 : sm_at C X 20 12 ls (.int x0 :: .int x1 :: st) N I L P = sm_at C X 20 13 ls (.int (x1 &&& x0) :: st) N I L P := st_go b20 dX1_weight_12 (by decide) rfl
theorem s20_13 : sm_at C X 20 13 ls (.int x0 :: st) N I L P = if x0 = 0 then sm_at C X 20 18 ls st N I L P else sm_at C X 20 16 ls st N I L P := st_br b20 dX1_weight_13 (by decide) rfl
theorem s20_16 : sm_at C X 20 16 ls st N I L P = sm_at C X 20 17 ls (.long (lN 0) :: st) N I L P := st_go b20 dX1_weight_16 (by decide) rfl
theorem s20_17 : sm_at C X 20 17 ls [.long z0] N I L P = some (some (.long z0), N, I, L, P) := st_ret b20 dX1_weight_17 (by decide) rfl
theorem s20_18 : sm_at C X 20 18 [l0, l1, l2, l3, some (.int x0), l5] st N I L P = sm_at C X 20 20 [l0, l1, l2, l3, some (.int x0), l5] (.int x0 :: st) N I L P := st_go b20 dX1_weight_18 (by decide) rfl
theorem s20_20 : sm_at C X 20 20 [l0, l1, some (.int x0), l3, l4, l5] st N I L P = sm_at C X 20 21 [l0, l1, some (.int x0), l3, l4, l5] (.int x0 :: st) N I L P := st_go b20 dX1_weight_20 (by decide) rfl
theorem s20_21 : sm_at C X 20 21 ls st N I L P = sm_at C X 20 22 ls (.int (-1) :: st) N I L P := st_go b20 dX1_weight_21 (by decide) rfl
theorem s20_22 : sm_at C X 20 22 ls (.int x0 :: .int x1 :: st) N I L P = sm_at C X 20 23 ls (.int (x1 ^^^ x0) :: st) N I L P := st_go b20 dX1_weight_22 (by decide) rfl
theorem s20_23 : sm_at C X 20 23 ls (.int x0 :: .int x1 :: st) N I L P = sm_at C X 20 24 ls (.int (x1 &&& x0) :: st) N I L P := st_go b20 dX1_weight_23 (by decide) rfl
theorem s20_24 : sm_at C X 20 24 ls [w0] N I L P = sm_af C X 20 27 ls [] (C 213 [w0] N I L P) := st_stat b20 dX1_weight_24 (n := 1) (rest := []) rfl rfl rfl rfl rfl rfl
theorem s20_27 : sm_at C X 20 27 [l0, l1, l2, l3, l4, l5] (.int x0 :: st) N I L P = sm_at C X 20 29 [l0, l1, l2, l3, sm_cl l4, some (.int x0)] st N I L P := st_go b20 dX1_weight_27 (by decide) rfl
theorem s20_29 : sm_at C X 20 29 [l0, l1, l2, some (.int x0), l4, l5] st N I L P = sm_at C X 20 30 [l0, l1, l2, some (.int x0), l4, l5] (.int x0 :: st) N I L P := st_go b20 dX1_weight_29 (by decide) rfl
theorem s20_30 : sm_at C X 20 30 ls (.int x0 :: st) N I L P = sm_at C X 20 31 ls (.long x0.toInt64 :: st) N I L P := st_go b20 dX1_weight_30 (by decide) rfl
theorem s20_31 : sm_at C X 20 31 [l0, l1, l2, l3, l4, some (.int x0)] st N I L P = sm_at C X 20 33 [l0, l1, l2, l3, l4, some (.int x0)] (.int x0 :: st) N I L P := st_go b20 dX1_weight_31 (by decide) rfl
theorem s20_33 : sm_at C X 20 33 ls [w1, w0] N I L P = sm_af C X 20 36 ls [] (C 142 [w0, w1] N I L P) := st_stat b20 dX1_weight_33 (n := 2) (rest := []) rfl rfl rfl rfl rfl rfl
theorem s20_36 : sm_at C X 20 36 ls st N I L P = sm_at C X 20 39 ls (.long (lN 10) :: st) N I L P := st_go b20 dX1_weight_36 (by decide) rfl
theorem s20_39 : sm_at C X 20 39 ls st N I L P = sm_at C X 20 41 ls (.int (nI 8) :: st) N I L P := st_go b20 dX1_weight_39 (by decide) rfl
theorem s20_41 : sm_at C X 20 41 [l0, l1, l2, l3, l4, some (.int x0)] st N I L P = sm_at C X 20 43 [l0, l1, l2, l3, l4, some (.int x0)] (.int x0 :: st) N I L P := st_go b20 dX1_weight_41 (by decide) rfl
theorem s20_43 : sm_at C X 20 43 ls (.int x0 :: .int x1 :: st) N I L P = sm_at C X 20 44 ls (.int (x1 - x0) :: st) N I L P := st_go b20 dX1_weight_43 (by decide) rfl
theorem s20_44 : sm_at C X 20 44 ls [w1, w0, v0] N I L P = sm_af C X 20 47 ls [v0] (C 142 [w0, w1] N I L P) := st_stat b20 dX1_weight_44 (n := 2) (rest := [v0]) rfl rfl rfl rfl rfl rfl
theorem s20_47 : sm_at C X 20 47 ls (.long z0 :: .long z1 :: st) N I L P = sm_at C X 20 48 ls (.long (z1 * z0) :: st) N I L P := st_go b20 dX1_weight_47 (by decide) rfl
theorem s20_48 : sm_at C X 20 48 ls [.long z0] N I L P = some (some (.long z0), N, I, L, P) := st_ret b20 dX1_weight_48 (by decide) rfl
theorem b21 : sm_b 21 = cX1_weightOfAll := rfl
theorem s21_0 : sm_at C X 21 0 ls st N I L P = sm_at C X 21 1 ls (.long (lN 0) :: st) N I L P := st_go b21 dX1_weightOfAll_0 (by decide) rfl
theorem s21_1 : sm_at C X 21 1 [l0, l1, l2, l3, l4, l5] (.long z0 :: st) N I L P = sm_at C X 21 2 [l0, l1, sm_cl l2, some (.long z0), none, l5] st N I L P := st_go b21 dX1_weightOfAll_1 (by decide) rfl
theorem s21_2 : sm_at C X 21 2 ls st N I L P = sm_at C X 21 3 ls (.int (nI 0) :: st) N I L P := st_go b21 dX1_weightOfAll_2 (by decide) rfl
theorem s21_3 : sm_at C X 21 3 [l0, l1, l2, l3, l4, l5] (.int x0 :: st) N I L P = sm_at C X 21 5 [l0, l1, l2, l3, sm_cl l4, some (.int x0)] st N I L P := st_go b21 dX1_weightOfAll_3 (by decide) rfl
theorem s21_5 : sm_at C X 21 5 [l0, l1, l2, l3, l4, some (.int x0)] st N I L P = sm_at C X 21 7 [l0, l1, l2, l3, l4, some (.int x0)] (.int x0 :: st) N I L P := st_go b21 dX1_weightOfAll_5 (by decide) rfl
theorem s21_7 : sm_at C X 21 7 [some (.ref a), l1, l2, l3, l4, l5] st N I L P = sm_at C X 21 8 [some (.ref a), l1, l2, l3, l4, l5] (.ref a :: st) N I L P := st_go b21 dX1_weightOfAll_7 (by decide) rfl
theorem s21_8 (h : a < N) (h1 : sm_lay a = .inl 1) : sm_at C X 21 8 ls (.ref a :: st) N I L P = sm_at C X 21 11 ls (.int (I a 1) :: st) N I L P := st_gfI b21 dX1_weightOfAll_8 rfl rfl h h1
theorem s21_11 : sm_at C X 21 11 ls (.int x0 :: .int x1 :: st) N I L P = if x0 ≤ x1 then sm_at C X 21 31 ls st N I L P else sm_at C X 21 14 ls st N I L P := st_br b21 dX1_weightOfAll_11 (by decide) rfl
theorem s21_14 : sm_at C X 21 14 [l0, l1, l2, some (.long z0), l4, l5] st N I L P = sm_at C X 21 15 [l0, l1, l2, some (.long z0), l4, l5] (.long z0 :: st) N I L P := st_go b21 dX1_weightOfAll_14 (by decide) rfl
theorem s21_15 : sm_at C X 21 15 [some (.ref a), l1, l2, l3, l4, l5] st N I L P = sm_at C X 21 16 [some (.ref a), l1, l2, l3, l4, l5] (.ref a :: st) N I L P := st_go b21 dX1_weightOfAll_15 (by decide) rfl
theorem s21_16 : sm_at C X 21 16 [l0, l1, l2, l3, l4, some (.int x0)] st N I L P = sm_at C X 21 18 [l0, l1, l2, l3, l4, some (.int x0)] (.int x0 :: st) N I L P := st_go b21 dX1_weightOfAll_16 (by decide) rfl
theorem s21_18 : sm_at C X 21 18 [l0, some (.int x0), l2, l3, l4, l5] st N I L P = sm_at C X 21 19 [l0, some (.int x0), l2, l3, l4, l5] (.int x0 :: st) N I L P := st_go b21 dX1_weightOfAll_18 (by decide) rfl
theorem s21_19 : sm_at C X 21 19 [l0, l1, some (.int x0), l3, l4, l5] st N I L P = sm_at C X 21 20 [l0, l1, some (.int x0), l3, l4, l5] (.int x0 :: st) N I L P := st_go b21 dX1_weightOfAll_19 (by decide) rfl
theorem s21_20 (h : a < N) (h1 : sm_lay a = .inl 1) : sm_at C X 21 20 ls [w3, w2, w1, .ref a, v0] N I L P = sm_af C X 21 23 ls [v0] (C 20 [.ref a, w1, w2, w3] N I L P) := st_virt b21 dX1_weightOfAll_20 (n := 4) (rest := [v0]) rfl rfl rfl rfl rfl rfl rfl h h1
theorem s21_23 : sm_at C X 21 23 ls (.long z0 :: .long z1 :: st) N I L P = sm_at C X 21 24 ls (.long (z1 + z0) :: st) N I L P := st_go b21 dX1_weightOfAll_23 (by decide) rfl
theorem s21_24 : sm_at C X 21 24 [l0, l1, l2, l3, l4, l5] (.long z0 :: st) N I L P = sm_at C X 21 25 [l0, l1, sm_cl l2, some (.long z0), none, l5] st N I L P := st_go b21 dX1_weightOfAll_24 (by decide) rfl
theorem s21_25 : sm_at C X 21 25 [l0, l1, l2, l3, l4, some (.int x0)] st N I L P = sm_at C X 21 28 [l0, l1, l2, l3, sm_cl l4, some (.int (x0 + (nI 1)))] st N I L P := st_go b21 dX1_weightOfAll_25 (by decide) rfl
theorem s21_28 : sm_at C X 21 28 ls st N I L P = sm_at C X 21 5 ls st N I L P := st_go b21 dX1_weightOfAll_28 (by decide) rfl
theorem s21_31 : sm_at C X 21 31 [l0, l1, l2, some (.long z0), l4, l5] st N I L P = sm_at C X 21 32 [l0, l1, l2, some (.long z0), l4, l5] (.long z0 :: st) N I L P := st_go b21 dX1_weightOfAll_31 (by decide) rfl
theorem s21_32 : sm_at C X 21 32 ls [.long z0] N I L P = some (some (.long z0), N, I, L, P) := st_ret b21 dX1_weightOfAll_32 (by decide) rfl
end STX1
