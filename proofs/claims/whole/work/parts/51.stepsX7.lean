section STX7
variable {C : sm_Cf} {X : sm_Xs} {ls : List (Option Value)} {st : List Value} {N : Nat} {I : sm_Im} {L : sm_Lm} {P : sm_Pm} {x0 x1 x2 : Int32} {z0 z1 : Int64} {a a2 k n : Nat} {f : Nat → Int32} {w0 w1 w2 w3 w4 w5 w6 v0 v1 v2 v3 v4 : Value} {l0 l1 l2 l3 l4 l5 l6 l7 l8 l9 l10 l11 l12 l13 l14 l15 l16 : Option Value}
theorem b67 : sm_b 67 = cX7_init := rfl
theorem s67_0 : sm_at C X 67 0 [some (.ref a)] st N I L P = sm_at C X 67 1 [some (.ref a)] (.ref a :: st) N I L P := st_go b67 dX7_init_0 (by decide) rfl
theorem s67_1 : sm_at C X 67 1 ls (.ref a :: []) N I L P = sm_at C X 67 4 ls [] N I L P := st_go b67 dX7_init_1 (by decide) rfl
theorem s67_4 : sm_at C X 67 4 [some (.ref a)] st N I L P = sm_at C X 67 5 [some (.ref a)] (.ref a :: st) N I L P := st_go b67 dX7_init_4 (by decide) rfl
theorem s67_5 : sm_at C X 67 5 ls st N I L P = sm_at C X 67 7 ls (.int (nI 16) :: st) N I L P := st_go b67 dX7_init_5 (by decide) rfl
theorem s67_7 (h : N < 81) (h1 : sm_lay N = .inr (.inl k)) (h2 : k < 1000) : sm_at C X 67 7 ls (.int (nI k) :: st) N I L P = sm_at C X 67 9 ls (.ref N :: st) (N + 1) (sm_z I N 0) L P := st_newa b67 dX7_init_7 h h1 h2
theorem s67_9 (h : a < N) (h1 : sm_lay a = .inl 7) : sm_at C X 67 9 ls (.ref a2 :: .ref a :: st) N I L P = sm_at C X 67 12 ls st N I L (sm_up P a 0 (some a2)) := st_pfR b67 dX7_init_9 rfl rfl (Or.inr ⟨rfl, rfl⟩) h h1
theorem s67_12 : sm_at C X 67 12 ls [] N I L P = some (none, N, I, L, P) := st_ret b67 dX7_init_12 (by decide) rfl
theorem b68 : sm_b 68 = cX7_most := rfl
theorem s68_0 : sm_at C X 68 0 [some (.ref a)] st N I L P = sm_at C X 68 1 [some (.ref a)] (.ref a :: st) N I L P := st_go b68 dX7_most_0 (by decide) rfl
theorem s68_1 (h : a < N) (h1 : sm_lay a = .inl 7) : sm_at C X 68 1 ls (.ref a :: st) N I L P = sm_at C X 68 4 ls (.int (I a 1) :: st) N I L P := st_gfI b68 dX7_most_1 rfl rfl h h1
theorem s68_4 : sm_at C X 68 4 ls [.int x0] N I L P = some (some (.int x0), N, I, L, P) := st_iret b68 dX7_most_4 rfl
theorem b69 : sm_b 69 = cX7_firstSet := rfl
theorem s69_0 : sm_at C X 69 0 [some (.ref a)] st N I L P = sm_at C X 69 1 [some (.ref a)] (.ref a :: st) N I L P := st_go b69 dX7_firstSet_0 (by decide) rfl
theorem s69_1 (h : a < N) (h1 : sm_lay a = .inl 7) : sm_at C X 69 1 ls (.ref a :: st) N I L P = sm_at C X 69 4 ls (.int (I a 2) :: st) N I L P := st_gfI b69 dX7_firstSet_1 rfl rfl h h1
theorem s69_4 : sm_at C X 69 4 ls [.int x0] N I L P = some (some (.int x0), N, I, L, P) := st_iret b69 dX7_firstSet_4 rfl
theorem b70 : sm_b 70 = cX7_search := rfl
theorem s70_0 : sm_at C X 70 0 ls st N I L P = sm_at C X 70 1 ls (.int (nI 1) :: st) N I L P := st_go b70 dX7_search_0 (by decide) rfl
theorem s70_1 : sm_at C X 70 1 [l0, some (.int x0), l2, l3, l4] st N I L P = sm_at C X 70 2 [l0, some (.int x0), l2, l3, l4] (.int x0 :: st) N I L P := st_go b70 dX7_search_1 (by decide) rfl
theorem s70_2 : sm_at C X 70 2 ls (.int x0 :: .int x1 :: st) N I L P = sm_at C X 70 3 ls (.int (x1 <<< (x0 &&& 31)) :: st) N I L P := st_go b70 dX7_search_2 (by decide) rfl
theorem s70_3 : sm_at C X 70 3 [some (.ref a), l1, l2, l3, l4] st N I L P = sm_at C X 70 4 [some (.ref a), l1, l2, l3, l4] (.ref a :: st) N I L P := st_go b70 dX7_search_3 (by decide) rfl
theorem s70_4 (h : a < N) (h1 : sm_lay a = .inl 7) : sm_at C X 70 4 ls (.ref a :: st) N I L P = sm_at C X 70 7 ls (va_rf (P a 0) :: st) N I L P := st_gfR b70 dX7_search_4 rfl rfl h h1
theorem s70_7 (h : a < N) (h1 : sm_lay a = .inr (.inl k)) : sm_at C X 70 7 ls (.ref a :: st) N I L P = sm_at C X 70 8 ls (.int (nI k) :: st) N I L P := st_alen b70 dX7_search_7 h h1
theorem s70_8 : sm_at C X 70 8 ls [w1, w0] N I L P = sm_af C X 70 11 ls [] (C 214 [w0, w1] N I L P) := st_stat b70 dX7_search_8 (n := 2) (rest := []) rfl rfl rfl rfl rfl rfl
theorem s70_11 : sm_at C X 70 11 [l0, l1, l2, l3, l4] (.int x0 :: st) N I L P = sm_at C X 70 12 [l0, l1, sm_cl l2, some (.int x0), l4] st N I L P := st_go b70 dX7_search_11 (by decide) rfl
theorem s70_12 : sm_at C X 70 12 ls st N I L P = sm_at C X 70 13 ls (.int (nI 0) :: st) N I L P := st_go b70 dX7_search_12 (by decide) rfl
theorem s70_13 : sm_at C X 70 13 [l0, l1, l2, l3, l4] (.int x0 :: st) N I L P = sm_at C X 70 15 [l0, l1, l2, sm_cl l3, some (.int x0)] st N I L P := st_go b70 dX7_search_13 (by decide) rfl
theorem s70_15 : sm_at C X 70 15 [l0, l1, l2, l3, some (.int x0)] st N I L P = sm_at C X 70 17 [l0, l1, l2, l3, some (.int x0)] (.int x0 :: st) N I L P := st_go b70 dX7_search_15 (by decide) rfl
theorem s70_17 : sm_at C X 70 17 [l0, l1, l2, some (.int x0), l4] st N I L P = sm_at C X 70 18 [l0, l1, l2, some (.int x0), l4] (.int x0 :: st) N I L P := st_go b70 dX7_search_17 (by decide) rfl
theorem s70_18 : sm_at C X 70 18 ls (.int x0 :: .int x1 :: st) N I L P = if x0 ≤ x1 then sm_at C X 70 41 ls st N I L P else sm_at C X 70 21 ls st N I L P := st_br b70 dX7_search_18 (by decide) rfl
theorem s70_21 : sm_at C X 70 21 [some (.ref a), l1, l2, l3, l4] st N I L P = sm_at C X 70 22 [some (.ref a), l1, l2, l3, l4] (.ref a :: st) N I L P := st_go b70 dX7_search_21 (by decide) rfl
theorem s70_22 (h : a < N) (h1 : sm_lay a = .inl 7) : sm_at C X 70 22 ls (.ref a :: st) N I L P = sm_at C X 70 25 ls (va_rf (P a 0) :: st) N I L P := st_gfR b70 dX7_search_22 rfl rfl h h1
theorem s70_25 : sm_at C X 70 25 [l0, l1, l2, l3, some (.int x0)] st N I L P = sm_at C X 70 27 [l0, l1, l2, l3, some (.int x0)] (.int x0 :: st) N I L P := st_go b70 dX7_search_25 (by decide) rfl
theorem s70_27 : sm_at C X 70 27 [l0, l1, l2, l3, some (.int x0)] st N I L P = sm_at C X 70 29 [l0, l1, l2, l3, some (.int x0)] (.int x0 :: st) N I L P := st_go b70 dX7_search_27 (by decide) rfl
theorem s70_29 : sm_at C X 70 29 [l0, l1, l2, some (.int x0), l4] st N I L P = sm_at C X 70 30 [l0, l1, l2, some (.int x0), l4] (.int x0 :: st) N I L P := st_go b70 dX7_search_29 (by decide) rfl
theorem s70_30 : sm_at C X 70 30 [l0, l1, some (.int x0), l3, l4] st N I L P = sm_at C X 70 31 [l0, l1, some (.int x0), l3, l4] (.int x0 :: st) N I L P := st_go b70 dX7_search_30 (by decide) rfl
theorem s70_31 : sm_at C X 70 31 ls [w2, w1, w0, v1, v0] N I L P = sm_af C X 70 34 ls [v1, v0] (C 71 [w0, w1, w2] N I L P) := st_stat b70 dX7_search_31 (n := 3) (rest := [v1, v0]) rfl rfl rfl rfl rfl rfl
theorem s70_34 (h : a < N) (h1 : k < sm_al a) : sm_at C X 70 34 ls (.int x0 :: .int (nI k) :: .ref a :: st) N I L P = sm_at C X 70 35 ls st N (sm_up I a k x0) L P := st_iast b70 dX7_search_34 h h1
theorem s70_35 : sm_at C X 70 35 [l0, l1, l2, l3, some (.int x0)] st N I L P = sm_at C X 70 38 [l0, l1, l2, sm_cl l3, some (.int (x0 + (nI 1)))] st N I L P := st_go b70 dX7_search_35 (by decide) rfl
theorem s70_38 : sm_at C X 70 38 ls st N I L P = sm_at C X 70 15 ls st N I L P := st_go b70 dX7_search_38 (by decide) rfl
theorem s70_41 : sm_at C X 70 41 [some (.ref a), l1, l2, l3, l4] st N I L P = sm_at C X 70 42 [some (.ref a), l1, l2, l3, l4] (.ref a :: st) N I L P := st_go b70 dX7_search_41 (by decide) rfl
theorem s70_42 : sm_at C X 70 42 ls st N I L P = sm_at C X 70 43 ls (.int (nI 0) :: st) N I L P := st_go b70 dX7_search_42 (by decide) rfl
theorem s70_43 (h : a < N) (h1 : sm_lay a = .inl 7) : sm_at C X 70 43 ls (.int x0 :: .ref a :: st) N I L P = sm_at C X 70 46 ls st N (sm_up I a 1 x0) L P := st_pfI b70 dX7_search_43 rfl rfl rfl h h1
theorem s70_46 : sm_at C X 70 46 [some (.ref a), l1, l2, l3, l4] st N I L P = sm_at C X 70 47 [some (.ref a), l1, l2, l3, l4] (.ref a :: st) N I L P := st_go b70 dX7_search_46 (by decide) rfl
theorem s70_47 : sm_at C X 70 47 ls st N I L P = sm_at C X 70 48 ls (.int (nI 0) :: st) N I L P := st_go b70 dX7_search_47 (by decide) rfl
theorem s70_48 (h : a < N) (h1 : sm_lay a = .inl 7) : sm_at C X 70 48 ls (.int x0 :: .ref a :: st) N I L P = sm_at C X 70 51 ls st N (sm_up I a 2 x0) L P := st_pfI b70 dX7_search_48 rfl rfl rfl h h1
theorem s70_51 : sm_at C X 70 51 [some (.ref a), l1, l2, l3, l4] st N I L P = sm_at C X 70 52 [some (.ref a), l1, l2, l3, l4] (.ref a :: st) N I L P := st_go b70 dX7_search_51 (by decide) rfl
theorem s70_52 : sm_at C X 70 52 [l0, l1, l2, some (.int x0), l4] st N I L P = sm_at C X 70 53 [l0, l1, l2, some (.int x0), l4] (.int x0 :: st) N I L P := st_go b70 dX7_search_52 (by decide) rfl
theorem s70_53 : sm_at C X 70 53 ls st N I L P = sm_at C X 70 54 ls (.int (nI 1) :: st) N I L P := st_go b70 dX7_search_53 (by decide) rfl
theorem s70_54 : sm_at C X 70 54 ls (.int x0 :: .int x1 :: st) N I L P = sm_at C X 70 55 ls (.int (x1 - x0) :: st) N I L P := st_go b70 dX7_search_54 (by decide) rfl
theorem s70_55 : sm_at C X 70 55 ls st N I L P = sm_at C X 70 56 ls (.int (nI 1) :: st) N I L P := st_go b70 dX7_search_55 (by decide) rfl
theorem s70_56 : sm_at C X 70 56 [l0, l1, l2, some (.int x0), l4] st N I L P = sm_at C X 70 57 [l0, l1, l2, some (.int x0), l4] (.int x0 :: st) N I L P := st_go b70 dX7_search_56 (by decide) rfl
theorem s70_57 : sm_at C X 70 57 ls (.int x0 :: .int x1 :: st) N I L P = sm_at C X 70 58 ls (.int (x1 <<< (x0 &&& 31)) :: st) N I L P := st_go b70 dX7_search_57 (by decide) rfl
theorem s70_58 : sm_at C X 70 58 ls st N I L P = sm_at C X 70 59 ls (.int (nI 1) :: st) N I L P := st_go b70 dX7_search_58 (by decide) rfl
theorem s70_59 : sm_at C X 70 59 ls (.int x0 :: .int x1 :: st) N I L P = sm_at C X 70 60 ls (.int (x1 - x0) :: st) N I L P := st_go b70 dX7_search_59 (by decide) rfl
theorem s70_60 : sm_at C X 70 60 ls st N I L P = sm_at C X 70 61 ls (.int (nI 0) :: st) N I L P := st_go b70 dX7_search_60 (by decide) rfl
theorem s70_61 : sm_at C X 70 61 ls st N I L P = sm_at C X 70 62 ls (.int (nI 0) :: st) N I L P := st_go b70 dX7_search_61 (by decide) rfl
theorem s70_62 (h : a < N) (h1 : sm_lay a = .inl 7) : sm_at C X 70 62 ls [w4, w3, w2, w1, .ref a] N I L P = sm_af C X 70 65 ls [] (C 72 [.ref a, w1, w2, w3, w4] N I L P) := st_virt b70 dX7_search_62 (n := 5) (rest := []) rfl rfl rfl rfl rfl rfl rfl h h1
theorem s70_65 : sm_at C X 70 65 ls [] N I L P = some (none, N, I, L, P) := st_ret b70 dX7_search_65 (by decide) rfl
theorem b71 : sm_b 71 = cX7_rowsLike := rfl
theorem s71_0 : sm_at C X 71 0 ls st N I L P = sm_at C X 71 1 ls (.int (nI 0) :: st) N I L P := st_go b71 dX7_rowsLike_0 (by decide) rfl
theorem s71_1 : sm_at C X 71 1 [l0, l1, l2, l3, l4, l5, l6] (.int x0 :: st) N I L P = sm_at C X 71 2 [l0, l1, sm_cl l2, some (.int x0), l4, l5, l6] st N I L P := st_go b71 dX7_rowsLike_1 (by decide) rfl
theorem s71_2 : sm_at C X 71 2 ls st N I L P = sm_at C X 71 3 ls (.int (nI 0) :: st) N I L P := st_go b71 dX7_rowsLike_2 (by decide) rfl
theorem s71_3 : sm_at C X 71 3 [l0, l1, l2, l3, l4, l5, l6] (.int x0 :: st) N I L P = sm_at C X 71 5 [l0, l1, l2, sm_cl l3, some (.int x0), l5, l6] st N I L P := st_go b71 dX7_rowsLike_3 (by decide) rfl
theorem s71_5 : sm_at C X 71 5 [l0, l1, l2, l3, some (.int x0), l5, l6] st N I L P = sm_at C X 71 7 [l0, l1, l2, l3, some (.int x0), l5, l6] (.int x0 :: st) N I L P := st_go b71 dX7_rowsLike_5 (by decide) rfl
theorem s71_7 : sm_at C X 71 7 [l0, some (.int x0), l2, l3, l4, l5, l6] st N I L P = sm_at C X 71 8 [l0, some (.int x0), l2, l3, l4, l5, l6] (.int x0 :: st) N I L P := st_go b71 dX7_rowsLike_7 (by decide) rfl
theorem s71_8 : sm_at C X 71 8 ls (.int x0 :: .int x1 :: st) N I L P = if x0 ≤ x1 then sm_at C X 71 58 ls st N I L P else sm_at C X 71 11 ls st N I L P := st_br b71 dX7_rowsLike_8 (by decide) rfl
theorem s71_11 : sm_at C X 71 11 [some (.int x0), l1, l2, l3, l4, l5, l6] st N I L P = sm_at C X 71 12 [some (.int x0), l1, l2, l3, l4, l5, l6] (.int x0 :: st) N I L P := st_go b71 dX7_rowsLike_11 (by decide) rfl
theorem s71_12 : sm_at C X 71 12 [l0, l1, l2, l3, some (.int x0), l5, l6] st N I L P = sm_at C X 71 14 [l0, l1, l2, l3, some (.int x0), l5, l6] (.int x0 :: st) N I L P := st_go b71 dX7_rowsLike_12 (by decide) rfl
theorem s71_14 : sm_at C X 71 14 ls st N I L P = sm_at C X 71 15 ls (.int (-1) :: st) N I L P := st_go b71 dX7_rowsLike_14 (by decide) rfl
theorem s71_15 : sm_at C X 71 15 ls (.int x0 :: .int x1 :: st) N I L P = sm_at C X 71 16 ls (.int (x1 ^^^ x0) :: st) N I L P := st_go b71 dX7_rowsLike_15 (by decide) rfl
theorem s71_16 : sm_at C X 71 16 ls (.int x0 :: .int x1 :: st) N I L P = sm_at C X 71 17 ls (.int (x1 &&& x0) :: st) N I L P := st_go b71 dX7_rowsLike_16 (by decide) rfl
theorem s71_17 : sm_at C X 71 17 ls [w0] N I L P = sm_af C X 71 20 ls [] (C 213 [w0] N I L P) := st_stat b71 dX7_rowsLike_17 (n := 1) (rest := []) rfl rfl rfl rfl rfl rfl
theorem s71_20 : sm_at C X 71 20 [l0, l1, l2, l3, l4, l5, l6] (.int x0 :: st) N I L P = sm_at C X 71 22 [l0, l1, l2, l3, sm_cl l4, some (.int x0), l6] st N I L P := st_go b71 dX7_rowsLike_20 (by decide) rfl
theorem s71_22 : sm_at C X 71 22 [l0, l1, l2, l3, some (.int x0), l5, l6] st N I L P = sm_at C X 71 24 [l0, l1, l2, l3, some (.int x0), l5, l6] (.int x0 :: st) N I L P := st_go b71 dX7_rowsLike_22 (by decide) rfl
theorem s71_24 : sm_at C X 71 24 [some (.int x0), l1, l2, l3, l4, l5, l6] st N I L P = sm_at C X 71 25 [some (.int x0), l1, l2, l3, l4, l5, l6] (.int x0 :: st) N I L P := st_go b71 dX7_rowsLike_24 (by decide) rfl
theorem s71_25 : sm_at C X 71 25 ls st N I L P = sm_at C X 71 26 ls (.int (-1) :: st) N I L P := st_go b71 dX7_rowsLike_25 (by decide) rfl
theorem s71_26 : sm_at C X 71 26 ls (.int x0 :: .int x1 :: st) N I L P = sm_at C X 71 27 ls (.int (x1 ^^^ x0) :: st) N I L P := st_go b71 dX7_rowsLike_26 (by decide) rfl
theorem s71_27 : sm_at C X 71 27 ls (.int x0 :: .int x1 :: st) N I L P = sm_at C X 71 28 ls (.int (x1 &&& x0) :: st) N I L P := st_go b71 dX7_rowsLike_27 (by decide) rfl
theorem s71_28 : sm_at C X 71 28 ls [w0] N I L P = sm_af C X 71 31 ls [] (C 213 [w0] N I L P) := st_stat b71 dX7_rowsLike_28 (n := 1) (rest := []) rfl rfl rfl rfl rfl rfl
theorem s71_31 : sm_at C X 71 31 [l0, l1, l2, l3, l4, l5, l6] (.int x0 :: st) N I L P = sm_at C X 71 33 [l0, l1, l2, l3, l4, sm_cl l5, some (.int x0)] st N I L P := st_go b71 dX7_rowsLike_31 (by decide) rfl
theorem s71_33 : sm_at C X 71 33 [l0, l1, l2, l3, l4, some (.int x0), l6] st N I L P = sm_at C X 71 35 [l0, l1, l2, l3, l4, some (.int x0), l6] (.int x0 :: st) N I L P := st_go b71 dX7_rowsLike_33 (by decide) rfl
theorem s71_35 : sm_at C X 71 35 [l0, l1, some (.int x0), l3, l4, l5, l6] st N I L P = sm_at C X 71 36 [l0, l1, some (.int x0), l3, l4, l5, l6] (.int x0 :: st) N I L P := st_go b71 dX7_rowsLike_35 (by decide) rfl
theorem s71_36 : sm_at C X 71 36 ls (.int x0 :: .int x1 :: st) N I L P = if x0 < x1 then sm_at C X 71 52 ls st N I L P else sm_at C X 71 39 ls st N I L P := st_br b71 dX7_rowsLike_36 (by decide) rfl
theorem s71_39 : sm_at C X 71 39 [l0, l1, l2, l3, l4, l5, some (.int x0)] st N I L P = sm_at C X 71 41 [l0, l1, l2, l3, l4, l5, some (.int x0)] (.int x0 :: st) N I L P := st_go b71 dX7_rowsLike_39 (by decide) rfl
theorem s71_41 : sm_at C X 71 41 [l0, l1, some (.int x0), l3, l4, l5, l6] st N I L P = sm_at C X 71 42 [l0, l1, some (.int x0), l3, l4, l5, l6] (.int x0 :: st) N I L P := st_go b71 dX7_rowsLike_41 (by decide) rfl
theorem s71_42 : sm_at C X 71 42 ls (.int x0 :: .int x1 :: st) N I L P = if x0 < x1 then sm_at C X 71 52 ls st N I L P else sm_at C X 71 45 ls st N I L P := st_br b71 dX7_rowsLike_42 (by decide) rfl
theorem s71_45 : sm_at C X 71 45 [l0, l1, l2, some (.int x0), l4, l5, l6] st N I L P = sm_at C X 71 46 [l0, l1, l2, some (.int x0), l4, l5, l6] (.int x0 :: st) N I L P := st_go b71 dX7_rowsLike_45 (by decide) rfl
theorem s71_46 : sm_at C X 71 46 ls st N I L P = sm_at C X 71 47 ls (.int (nI 1) :: st) N I L P := st_go b71 dX7_rowsLike_46 (by decide) rfl
theorem s71_47 : sm_at C X 71 47 [l0, l1, l2, l3, some (.int x0), l5, l6] st N I L P = sm_at C X 71 49 [l0, l1, l2, l3, some (.int x0), l5, l6] (.int x0 :: st) N I L P := st_go b71 dX7_rowsLike_47 (by decide) rfl
theorem s71_49 : sm_at C X 71 49 ls (.int x0 :: .int x1 :: st) N I L P = sm_at C X 71 50 ls (.int (x1 <<< (x0 &&& 31)) :: st) N I L P := st_go b71 dX7_rowsLike_49 (by decide) rfl
theorem s71_50 : sm_at C X 71 50 ls (.int x0 :: .int x1 :: st) N I L P = sm_at C X 71 51 ls (.int (x1 ||| x0) :: st) N I L P := st_go b71 dX7_rowsLike_50 (by decide) rfl
theorem s71_51 : sm_at C X 71 51 [l0, l1, l2, l3, l4, l5, l6] (.int x0 :: st) N I L P = sm_at C X 71 52 [l0, l1, sm_cl l2, some (.int x0), l4, l5, l6] st N I L P := st_go b71 dX7_rowsLike_51 (by decide) rfl
theorem s71_52 : sm_at C X 71 52 [l0, l1, l2, l3, some (.int x0), l5, l6] st N I L P = sm_at C X 71 55 [l0, l1, l2, sm_cl l3, some (.int (x0 + (nI 1))), l5, l6] st N I L P := st_go b71 dX7_rowsLike_52 (by decide) rfl
theorem s71_55 : sm_at C X 71 55 ls st N I L P = sm_at C X 71 5 ls st N I L P := st_go b71 dX7_rowsLike_55 (by decide) rfl
theorem s71_58 : sm_at C X 71 58 [l0, l1, l2, some (.int x0), l4, l5, l6] st N I L P = sm_at C X 71 59 [l0, l1, l2, some (.int x0), l4, l5, l6] (.int x0 :: st) N I L P := st_go b71 dX7_rowsLike_58 (by decide) rfl
theorem s71_59 : sm_at C X 71 59 ls [.int x0] N I L P = some (some (.int x0), N, I, L, P) := st_iret b71 dX7_rowsLike_59 rfl
theorem b72 : sm_b 72 = cX7_choose := rfl
theorem s72_0 : sm_at C X 72 0 [l0, l1, l2, l3, some (.int x0)] st N I L P = sm_at C X 72 2 [l0, l1, l2, l3, some (.int x0)] (.int x0 :: st) N I L P := st_go b72 dX7_choose_0 (by decide) rfl
theorem s72_2 : sm_at C X 72 2 [l0, l1, some (.int x0), l3, l4] st N I L P = sm_at C X 72 3 [l0, l1, some (.int x0), l3, l4] (.int x0 :: st) N I L P := st_go b72 dX7_choose_2 (by decide) rfl
theorem s72_3 : sm_at C X 72 3 ls [w0, v0] N I L P = sm_af C X 72 6 ls [v0] (C 213 [w0] N I L P) := st_stat b72 dX7_choose_3 (n := 1) (rest := [v0]) rfl rfl rfl rfl rfl rfl
theorem s72_6 : sm_at C X 72 6 ls (.int x0 :: .int x1 :: st) N I L P = sm_at C X 72 7 ls (.int (x1 + x0) :: st) N I L P := st_go b72 dX7_choose_6 (by decide) rfl
theorem s72_7 : sm_at C X 72 7 [some (.ref a), l1, l2, l3, l4] st N I L P = sm_at C X 72 8 [some (.ref a), l1, l2, l3, l4] (.ref a :: st) N I L P := st_go b72 dX7_choose_7 (by decide) rfl
theorem s72_8 (h : a < N) (h1 : sm_lay a = .inl 7) : sm_at C X 72 8 ls (.ref a :: st) N I L P = sm_at C X 72 11 ls (.int (I a 1) :: st) N I L P := st_gfI b72 dX7_choose_8 rfl rfl h h1
theorem s72_11 : sm_at C X 72 11 ls (.int x0 :: .int x1 :: st) N I L P = if x0 < x1 then sm_at C X 72 15 ls st N I L P else sm_at C X 72 14 ls st N I L P := st_br b72 dX7_choose_11 (by decide) rfl
theorem s72_14 : sm_at C X 72 14 ls [] N I L P = some (none, N, I, L, P) := st_ret b72 dX7_choose_14 (by decide) rfl
theorem s72_15 : sm_at C X 72 15 [l0, some (.int x0), l2, l3, l4] st N I L P = sm_at C X 72 16 [l0, some (.int x0), l2, l3, l4] (.int x0 :: st) N I L P := st_go b72 dX7_choose_15 (by decide) rfl
theorem s72_16 : sm_at C X 72 16 ls (.int x0 :: st) N I L P = if x0 < 0 then sm_at C X 72 28 ls st N I L P else sm_at C X 72 19 ls st N I L P := st_br b72 dX7_choose_16 (by decide) rfl
theorem s72_19 : sm_at C X 72 19 [l0, some (.int x0), l2, l3, l4] st N I L P = sm_at C X 72 20 [l0, some (.int x0), l2, l3, l4] (.int x0 :: st) N I L P := st_go b72 dX7_choose_19 (by decide) rfl
theorem s72_20 : sm_at C X 72 20 [some (.ref a), l1, l2, l3, l4] st N I L P = sm_at C X 72 21 [some (.ref a), l1, l2, l3, l4] (.ref a :: st) N I L P := st_go b72 dX7_choose_20 (by decide) rfl
theorem s72_21 (h : a < N) (h1 : sm_lay a = .inl 7) : sm_at C X 72 21 ls (.ref a :: st) N I L P = sm_at C X 72 24 ls (va_rf (P a 0) :: st) N I L P := st_gfR b72 dX7_choose_21 rfl rfl h h1
theorem s72_24 (h : a < N) (h1 : sm_lay a = .inr (.inl k)) : sm_at C X 72 24 ls (.ref a :: st) N I L P = sm_at C X 72 25 ls (.int (nI k) :: st) N I L P := st_alen b72 dX7_choose_24 h h1
theorem s72_25 : sm_at C X 72 25 ls (.int x0 :: .int x1 :: st) N I L P = if x1 < x0 then sm_at C X 72 40 ls st N I L P else sm_at C X 72 28 ls st N I L P := st_br b72 dX7_choose_25 (by decide) rfl
theorem s72_28 : sm_at C X 72 28 [some (.ref a), l1, l2, l3, l4] st N I L P = sm_at C X 72 29 [some (.ref a), l1, l2, l3, l4] (.ref a :: st) N I L P := st_go b72 dX7_choose_28 (by decide) rfl
theorem s72_29 : sm_at C X 72 29 [l0, l1, l2, l3, some (.int x0)] st N I L P = sm_at C X 72 31 [l0, l1, l2, l3, some (.int x0)] (.int x0 :: st) N I L P := st_go b72 dX7_choose_29 (by decide) rfl
theorem s72_31 (h : a < N) (h1 : sm_lay a = .inl 7) : sm_at C X 72 31 ls (.int x0 :: .ref a :: st) N I L P = sm_at C X 72 34 ls st N (sm_up I a 1 x0) L P := st_pfI b72 dX7_choose_31 rfl rfl rfl h h1
theorem s72_34 : sm_at C X 72 34 [some (.ref a), l1, l2, l3, l4] st N I L P = sm_at C X 72 35 [some (.ref a), l1, l2, l3, l4] (.ref a :: st) N I L P := st_go b72 dX7_choose_34 (by decide) rfl
theorem s72_35 : sm_at C X 72 35 [l0, l1, l2, some (.int x0), l4] st N I L P = sm_at C X 72 36 [l0, l1, l2, some (.int x0), l4] (.int x0 :: st) N I L P := st_go b72 dX7_choose_35 (by decide) rfl
theorem s72_36 (h : a < N) (h1 : sm_lay a = .inl 7) : sm_at C X 72 36 ls (.int x0 :: .ref a :: st) N I L P = sm_at C X 72 39 ls st N (sm_up I a 2 x0) L P := st_pfI b72 dX7_choose_36 rfl rfl rfl h h1
theorem s72_39 : sm_at C X 72 39 ls [] N I L P = some (none, N, I, L, P) := st_ret b72 dX7_choose_39 (by decide) rfl
theorem s72_40 : sm_at C X 72 40 [some (.ref a), l1, l2, l3, l4] st N I L P = sm_at C X 72 41 [some (.ref a), l1, l2, l3, l4] (.ref a :: st) N I L P := st_go b72 dX7_choose_40 (by decide) rfl
theorem s72_41 : sm_at C X 72 41 [l0, some (.int x0), l2, l3, l4] st N I L P = sm_at C X 72 42 [l0, some (.int x0), l2, l3, l4] (.int x0 :: st) N I L P := st_go b72 dX7_choose_41 (by decide) rfl
theorem s72_42 : sm_at C X 72 42 ls st N I L P = sm_at C X 72 43 ls (.int (nI 1) :: st) N I L P := st_go b72 dX7_choose_42 (by decide) rfl
theorem s72_43 : sm_at C X 72 43 ls (.int x0 :: .int x1 :: st) N I L P = sm_at C X 72 44 ls (.int (x1 - x0) :: st) N I L P := st_go b72 dX7_choose_43 (by decide) rfl
theorem s72_44 : sm_at C X 72 44 [l0, l1, some (.int x0), l3, l4] st N I L P = sm_at C X 72 45 [l0, l1, some (.int x0), l3, l4] (.int x0 :: st) N I L P := st_go b72 dX7_choose_44 (by decide) rfl
theorem s72_45 : sm_at C X 72 45 ls st N I L P = sm_at C X 72 46 ls (.int (nI 1) :: st) N I L P := st_go b72 dX7_choose_45 (by decide) rfl
theorem s72_46 : sm_at C X 72 46 [l0, some (.int x0), l2, l3, l4] st N I L P = sm_at C X 72 47 [l0, some (.int x0), l2, l3, l4] (.int x0 :: st) N I L P := st_go b72 dX7_choose_46 (by decide) rfl
theorem s72_47 : sm_at C X 72 47 ls (.int x0 :: .int x1 :: st) N I L P = sm_at C X 72 48 ls (.int (x1 <<< (x0 &&& 31)) :: st) N I L P := st_go b72 dX7_choose_47 (by decide) rfl
theorem s72_48 : sm_at C X 72 48 ls st N I L P = sm_at C X 72 49 ls (.int (-1) :: st) N I L P := st_go b72 dX7_choose_48 (by decide) rfl
theorem s72_49 : sm_at C X 72 49 ls (.int x0 :: .int x1 :: st) N I L P = sm_at C X 72 50 ls (.int (x1 ^^^ x0) :: st) N I L P := st_go b72 dX7_choose_49 (by decide) rfl
theorem s72_50 : sm_at C X 72 50 ls (.int x0 :: .int x1 :: st) N I L P = sm_at C X 72 51 ls (.int (x1 &&& x0) :: st) N I L P := st_go b72 dX7_choose_50 (by decide) rfl
theorem s72_51 : sm_at C X 72 51 [l0, l1, l2, some (.int x0), l4] st N I L P = sm_at C X 72 52 [l0, l1, l2, some (.int x0), l4] (.int x0 :: st) N I L P := st_go b72 dX7_choose_51 (by decide) rfl
theorem s72_52 : sm_at C X 72 52 [l0, l1, l2, l3, some (.int x0)] st N I L P = sm_at C X 72 54 [l0, l1, l2, l3, some (.int x0)] (.int x0 :: st) N I L P := st_go b72 dX7_choose_52 (by decide) rfl
theorem s72_54 (h : a < N) (h1 : sm_lay a = .inl 7) : sm_at C X 72 54 ls [w4, w3, w2, w1, .ref a] N I L P = sm_af C X 72 57 ls [] (C 72 [.ref a, w1, w2, w3, w4] N I L P) := st_virt b72 dX7_choose_54 (n := 5) (rest := []) rfl rfl rfl rfl rfl rfl rfl h h1
theorem s72_57 : sm_at C X 72 57 [l0, l1, some (.int x0), l3, l4] st N I L P = sm_at C X 72 58 [l0, l1, some (.int x0), l3, l4] (.int x0 :: st) N I L P := st_go b72 dX7_choose_57 (by decide) rfl
theorem s72_58 : sm_at C X 72 58 [l0, some (.int x0), l2, l3, l4] st N I L P = sm_at C X 72 59 [l0, some (.int x0), l2, l3, l4] (.int x0 :: st) N I L P := st_go b72 dX7_choose_58 (by decide) rfl
theorem s72_59 : sm_at C X 72 59 ls [w1, w0] N I L P = sm_af C X 72 62 ls [] (C 140 [w0, w1] N I L P) := st_stat b72 dX7_choose_59 (n := 2) (rest := []) rfl rfl rfl rfl rfl rfl
theorem s72_62 : sm_at C X 72 62 ls (.int x0 :: st) N I L P = if x0 = 0 then sm_at C X 72 91 ls st N I L P else sm_at C X 72 65 ls st N I L P := st_br b72 dX7_choose_62 (by decide) rfl
theorem s72_65 : sm_at C X 72 65 [some (.ref a), l1, l2, l3, l4] st N I L P = sm_at C X 72 66 [some (.ref a), l1, l2, l3, l4] (.ref a :: st) N I L P := st_go b72 dX7_choose_65 (by decide) rfl
theorem s72_66 : sm_at C X 72 66 [l0, some (.int x0), l2, l3, l4] st N I L P = sm_at C X 72 67 [l0, some (.int x0), l2, l3, l4] (.int x0 :: st) N I L P := st_go b72 dX7_choose_66 (by decide) rfl
theorem s72_67 : sm_at C X 72 67 ls st N I L P = sm_at C X 72 68 ls (.int (nI 1) :: st) N I L P := st_go b72 dX7_choose_67 (by decide) rfl
theorem s72_68 : sm_at C X 72 68 ls (.int x0 :: .int x1 :: st) N I L P = sm_at C X 72 69 ls (.int (x1 - x0) :: st) N I L P := st_go b72 dX7_choose_68 (by decide) rfl
theorem s72_69 : sm_at C X 72 69 [l0, l1, some (.int x0), l3, l4] st N I L P = sm_at C X 72 70 [l0, l1, some (.int x0), l3, l4] (.int x0 :: st) N I L P := st_go b72 dX7_choose_69 (by decide) rfl
theorem s72_70 : sm_at C X 72 70 [some (.ref a), l1, l2, l3, l4] st N I L P = sm_at C X 72 71 [some (.ref a), l1, l2, l3, l4] (.ref a :: st) N I L P := st_go b72 dX7_choose_70 (by decide) rfl
theorem s72_71 (h : a < N) (h1 : sm_lay a = .inl 7) : sm_at C X 72 71 ls (.ref a :: st) N I L P = sm_at C X 72 74 ls (va_rf (P a 0) :: st) N I L P := st_gfR b72 dX7_choose_71 rfl rfl h h1
theorem s72_74 : sm_at C X 72 74 [l0, some (.int x0), l2, l3, l4] st N I L P = sm_at C X 72 75 [l0, some (.int x0), l2, l3, l4] (.int x0 :: st) N I L P := st_go b72 dX7_choose_74 (by decide) rfl
theorem s72_75 (h : a < N) (h1 : k < sm_al a) : sm_at C X 72 75 ls (.int (nI k) :: .ref a :: st) N I L P = sm_at C X 72 76 ls (.int (I a k) :: st) N I L P := st_iald b72 dX7_choose_75 h h1
theorem s72_76 : sm_at C X 72 76 ls st N I L P = sm_at C X 72 77 ls (.int (-1) :: st) N I L P := st_go b72 dX7_choose_76 (by decide) rfl
theorem s72_77 : sm_at C X 72 77 ls (.int x0 :: .int x1 :: st) N I L P = sm_at C X 72 78 ls (.int (x1 ^^^ x0) :: st) N I L P := st_go b72 dX7_choose_77 (by decide) rfl
theorem s72_78 : sm_at C X 72 78 ls (.int x0 :: .int x1 :: st) N I L P = sm_at C X 72 79 ls (.int (x1 &&& x0) :: st) N I L P := st_go b72 dX7_choose_78 (by decide) rfl
theorem s72_79 : sm_at C X 72 79 [l0, l1, l2, some (.int x0), l4] st N I L P = sm_at C X 72 80 [l0, l1, l2, some (.int x0), l4] (.int x0 :: st) N I L P := st_go b72 dX7_choose_79 (by decide) rfl
theorem s72_80 : sm_at C X 72 80 ls st N I L P = sm_at C X 72 81 ls (.int (nI 1) :: st) N I L P := st_go b72 dX7_choose_80 (by decide) rfl
theorem s72_81 : sm_at C X 72 81 [l0, some (.int x0), l2, l3, l4] st N I L P = sm_at C X 72 82 [l0, some (.int x0), l2, l3, l4] (.int x0 :: st) N I L P := st_go b72 dX7_choose_81 (by decide) rfl
theorem s72_82 : sm_at C X 72 82 ls (.int x0 :: .int x1 :: st) N I L P = sm_at C X 72 83 ls (.int (x1 <<< (x0 &&& 31)) :: st) N I L P := st_go b72 dX7_choose_82 (by decide) rfl
theorem s72_83 : sm_at C X 72 83 ls (.int x0 :: .int x1 :: st) N I L P = sm_at C X 72 84 ls (.int (x1 ||| x0) :: st) N I L P := st_go b72 dX7_choose_83 (by decide) rfl
theorem s72_84 : sm_at C X 72 84 [l0, l1, l2, l3, some (.int x0)] st N I L P = sm_at C X 72 86 [l0, l1, l2, l3, some (.int x0)] (.int x0 :: st) N I L P := st_go b72 dX7_choose_84 (by decide) rfl
theorem s72_86 : sm_at C X 72 86 ls st N I L P = sm_at C X 72 87 ls (.int (nI 1) :: st) N I L P := st_go b72 dX7_choose_86 (by decide) rfl
theorem s72_87 : sm_at C X 72 87 ls (.int x0 :: .int x1 :: st) N I L P = sm_at C X 72 88 ls (.int (x1 + x0) :: st) N I L P := st_go b72 dX7_choose_87 (by decide) rfl
theorem s72_88 (h : a < N) (h1 : sm_lay a = .inl 7) : sm_at C X 72 88 ls [w4, w3, w2, w1, .ref a] N I L P = sm_af C X 72 91 ls [] (C 72 [.ref a, w1, w2, w3, w4] N I L P) := st_virt b72 dX7_choose_88 (n := 5) (rest := []) rfl rfl rfl rfl rfl rfl rfl h h1
theorem s72_91 : sm_at C X 72 91 ls [] N I L P = some (none, N, I, L, P) := st_ret b72 dX7_choose_91 (by decide) rfl
end STX7
