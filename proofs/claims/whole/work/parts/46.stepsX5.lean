section STX5
variable {C : sm_Cf} {X : sm_Xs} {ls : List (Option Value)} {st : List Value} {N : Nat} {I : sm_Im} {L : sm_Lm} {P : sm_Pm} {x0 x1 x2 : Int32} {z0 z1 : Int64} {a a2 k n : Nat} {f : Nat → Int32} {w0 w1 w2 w3 w4 w5 w6 v0 v1 v2 v3 v4 : Value} {l0 l1 l2 l3 l4 l5 l6 l7 l8 l9 l10 l11 l12 l13 l14 l15 l16 : Option Value}
theorem b49 : sm_b 49 = cX5_init := rfl
theorem s49_0 : sm_at C X 49 0 [some (.ref a)] st N I L P = sm_at C X 49 1 [some (.ref a)] (.ref a :: st) N I L P := st_go b49 dX5_init_0 (by decide) rfl
theorem s49_1 : sm_at C X 49 1 ls (.ref a :: []) N I L P = sm_at C X 49 4 ls [] N I L P := st_go b49 dX5_init_1 (by decide) rfl
theorem s49_4 : sm_at C X 49 4 [some (.ref a)] st N I L P = sm_at C X 49 5 [some (.ref a)] (.ref a :: st) N I L P := st_go b49 dX5_init_4 (by decide) rfl
theorem s49_5 : sm_at C X 49 5 ls st N I L P = sm_at C X 49 7 ls (.int (nI 32) :: st) N I L P := st_go b49 dX5_init_5 (by decide) rfl
theorem s49_7 (h : N < 81) (h1 : sm_lay N = .inr (.inl k)) (h2 : k < 1000) : sm_at C X 49 7 ls (.int (nI k) :: st) N I L P = sm_at C X 49 9 ls (.ref N :: st) (N + 1) (sm_z I N 0) L P := st_newa b49 dX5_init_7 h h1 h2
theorem s49_9 (h : a < N) (h1 : sm_lay a = .inl 5) : sm_at C X 49 9 ls (.ref a2 :: .ref a :: st) N I L P = sm_at C X 49 12 ls st N I L (sm_up P a 0 (some a2)) := st_pfR b49 dX5_init_9 rfl rfl (Or.inr ⟨rfl, rfl⟩) h h1
theorem s49_12 : sm_at C X 49 12 ls [] N I L P = some (none, N, I, L, P) := st_ret b49 dX5_init_12 (by decide) rfl
theorem b50 : sm_b 50 = cX5_size := rfl
theorem s50_0 : sm_at C X 50 0 [some (.ref a)] st N I L P = sm_at C X 50 1 [some (.ref a)] (.ref a :: st) N I L P := st_go b50 dX5_size_0 (by decide) rfl
theorem s50_1 (h : a < N) (h1 : sm_lay a = .inl 5) : sm_at C X 50 1 ls (.ref a :: st) N I L P = sm_at C X 50 4 ls (.int (I a 1) :: st) N I L P := st_gfI b50 dX5_size_1 rfl rfl h h1
theorem s50_4 : sm_at C X 50 4 ls [.int x0] N I L P = some (some (.int x0), N, I, L, P) := st_iret b50 dX5_size_4 rfl
theorem b51 : sm_b 51 = cX5_at := rfl
theorem s51_0 : sm_at C X 51 0 [l0, some (.int x0)] st N I L P = sm_at C X 51 1 [l0, some (.int x0)] (.int x0 :: st) N I L P := st_go b51 dX5_at_0 (by decide) rfl
theorem s51_1 : sm_at C X 51 1 ls (.int x0 :: st) N I L P = if x0 < 0 then sm_at C X 51 27 ls st N I L P else sm_at C X 51 4 ls st N I L P := st_br b51 dX5_at_1 (by decide) rfl
theorem s51_4 : sm_at C X 51 4 [l0, some (.int x0)] st N I L P = sm_at C X 51 5 [l0, some (.int x0)] (.int x0 :: st) N I L P := st_go b51 dX5_at_4 (by decide) rfl
theorem s51_5 : sm_at C X 51 5 [some (.ref a), l1] st N I L P = sm_at C X 51 6 [some (.ref a), l1] (.ref a :: st) N I L P := st_go b51 dX5_at_5 (by decide) rfl
theorem s51_6 (h : a < N) (h1 : sm_lay a = .inl 5) : sm_at C X 51 6 ls (.ref a :: st) N I L P = sm_at C X 51 9 ls (.int (I a 1) :: st) N I L P := st_gfI b51 dX5_at_6 rfl rfl h h1
theorem s51_9 : sm_at C X 51 9 ls (.int x0 :: .int x1 :: st) N I L P = if x0 ≤ x1 then sm_at C X 51 27 ls st N I L P else sm_at C X 51 12 ls st N I L P := st_br b51 dX5_at_9 (by decide) rfl
theorem s51_12 : sm_at C X 51 12 [l0, some (.int x0)] st N I L P = sm_at C X 51 13 [l0, some (.int x0)] (.int x0 :: st) N I L P := st_go b51 dX5_at_12 (by decide) rfl
theorem s51_13 : sm_at C X 51 13 ls st N I L P = sm_at C X 51 15 ls (.int (nI 32) :: st) N I L P := st_go b51 dX5_at_13 (by decide) rfl
theorem s51_15 : sm_at C X 51 15 ls (.int x0 :: .int x1 :: st) N I L P = if x0 ≤ x1 then sm_at C X 51 27 ls st N I L P else sm_at C X 51 18 ls st N I L P := st_br b51 dX5_at_15 (by decide) rfl
theorem s51_18 : sm_at C X 51 18 [some (.ref a), l1] st N I L P = sm_at C X 51 19 [some (.ref a), l1] (.ref a :: st) N I L P := st_go b51 dX5_at_18 (by decide) rfl
theorem s51_19 (h : a < N) (h1 : sm_lay a = .inl 5) : sm_at C X 51 19 ls (.ref a :: st) N I L P = sm_at C X 51 22 ls (va_rf (P a 0) :: st) N I L P := st_gfR b51 dX5_at_19 rfl rfl h h1
theorem s51_22 : sm_at C X 51 22 [l0, some (.int x0)] st N I L P = sm_at C X 51 23 [l0, some (.int x0)] (.int x0 :: st) N I L P := st_go b51 dX5_at_22 (by decide) rfl
theorem s51_23 (h : a < N) (h1 : k < sm_al a) : sm_at C X 51 23 ls (.int (nI k) :: .ref a :: st) N I L P = sm_at C X 51 24 ls (.int (I a k) :: st) N I L P := st_iald b51 dX5_at_23 h h1
theorem s51_24 : sm_at C X 51 24 ls st N I L P = sm_at C X 51 28 ls st N I L P := st_go b51 dX5_at_24 (by decide) rfl
theorem s51_27 : sm_at C X 51 27 ls st N I L P = sm_at C X 51 28 ls (.int (-1) :: st) N I L P := st_go b51 dX5_at_27 (by decide) rfl
theorem s51_28 : sm_at C X 51 28 ls [.int x0] N I L P = some (some (.int x0), N, I, L, P) := st_iret b51 dX5_at_28 rfl
theorem b52 : sm_b 52 = cX5_clear := rfl
theorem s52_0 : sm_at C X 52 0 [some (.ref a)] st N I L P = sm_at C X 52 1 [some (.ref a)] (.ref a :: st) N I L P := st_go b52 dX5_clear_0 (by decide) rfl
theorem s52_1 : sm_at C X 52 1 ls st N I L P = sm_at C X 52 2 ls (.int (nI 0) :: st) N I L P := st_go b52 dX5_clear_1 (by decide) rfl
theorem s52_2 (h : a < N) (h1 : sm_lay a = .inl 5) : sm_at C X 52 2 ls (.int x0 :: .ref a :: st) N I L P = sm_at C X 52 5 ls st N (sm_up I a 1 x0) L P := st_pfI b52 dX5_clear_2 rfl rfl rfl h h1
theorem s52_5 : sm_at C X 52 5 ls [] N I L P = some (none, N, I, L, P) := st_ret b52 dX5_clear_5 (by decide) rfl
theorem b53 : sm_b 53 = cX5_write := rfl
theorem s53_0 : sm_at C X 53 0 [l0, some (.long z0), l2, l3, l4] st N I L P = sm_at C X 53 1 [l0, some (.long z0), l2, l3, l4] (.long z0 :: st) N I L P := st_go b53 dX5_write_0 (by decide) rfl
theorem s53_1 : sm_at C X 53 1 ls [w0] N I L P = sm_af C X 53 4 ls [] (C 54 [w0] N I L P) := st_stat b53 dX5_write_1 (n := 1) (rest := []) rfl rfl rfl rfl rfl rfl
theorem s53_4 : sm_at C X 53 4 [l0, l1, l2, l3, l4] (.int x0 :: st) N I L P = sm_at C X 53 5 [l0, l1, sm_cl l2, some (.int x0), l4] st N I L P := st_go b53 dX5_write_4 (by decide) rfl
theorem s53_5 : sm_at C X 53 5 [l0, l1, l2, some (.int x0), l4] st N I L P = sm_at C X 53 6 [l0, l1, l2, some (.int x0), l4] (.int x0 :: st) N I L P := st_go b53 dX5_write_5 (by decide) rfl
theorem s53_6 : sm_at C X 53 6 ls (.int x0 :: st) N I L P = if 0 ≤ x0 then sm_at C X 53 12 ls st N I L P else sm_at C X 53 9 ls st N I L P := st_br b53 dX5_write_6 (by decide) rfl
theorem s53_9 : sm_at C X 53 9 ls st N I L P = sm_at C X 53 11 ls (.int (-102) :: st) N I L P := st_go b53 dX5_write_9 (by decide) rfl
theorem s53_11 : sm_at C X 53 11 ls [.int x0] N I L P = some (some (.int x0), N, I, L, P) := st_iret b53 dX5_write_11 rfl
theorem s53_12 : sm_at C X 53 12 [some (.ref a), l1, l2, l3, l4] st N I L P = sm_at C X 53 13 [some (.ref a), l1, l2, l3, l4] (.ref a :: st) N I L P := st_go b53 dX5_write_12 (by decide) rfl
theorem s53_13 (h : a < N) (h1 : sm_lay a = .inl 5) : sm_at C X 53 13 ls (.ref a :: st) N I L P = sm_at C X 53 16 ls (.int (I a 1) :: st) N I L P := st_gfI b53 dX5_write_13 rfl rfl h h1
theorem s53_16 : sm_at C X 53 16 [l0, l1, l2, some (.int x0), l4] st N I L P = sm_at C X 53 17 [l0, l1, l2, some (.int x0), l4] (.int x0 :: st) N I L P := st_go b53 dX5_write_16 (by decide) rfl
theorem s53_17 : sm_at C X 53 17 ls (.int x0 :: .int x1 :: st) N I L P = sm_at C X 53 18 ls (.int (x1 + x0) :: st) N I L P := st_go b53 dX5_write_17 (by decide) rfl
theorem s53_18 : sm_at C X 53 18 ls st N I L P = sm_at C X 53 20 ls (.int (nI 32) :: st) N I L P := st_go b53 dX5_write_18 (by decide) rfl
theorem s53_20 : sm_at C X 53 20 ls (.int x0 :: .int x1 :: st) N I L P = if x1 ≤ x0 then sm_at C X 53 26 ls st N I L P else sm_at C X 53 23 ls st N I L P := st_br b53 dX5_write_20 (by decide) rfl
theorem s53_23 : sm_at C X 53 23 ls st N I L P = sm_at C X 53 25 ls (.int (-104) :: st) N I L P := st_go b53 dX5_write_23 (by decide) rfl
theorem s53_25 : sm_at C X 53 25 ls [.int x0] N I L P = some (some (.int x0), N, I, L, P) := st_iret b53 dX5_write_25 rfl
theorem s53_26 : sm_at C X 53 26 ls st N I L P = sm_at C X 53 27 ls (.int (nI 0) :: st) N I L P := st_go b53 dX5_write_26 (by decide) rfl
theorem s53_27 : sm_at C X 53 27 [l0, l1, l2, l3, l4] (.int x0 :: st) N I L P = sm_at C X 53 29 [l0, l1, l2, sm_cl l3, some (.int x0)] st N I L P := st_go b53 dX5_write_27 (by decide) rfl
theorem s53_29 : sm_at C X 53 29 [l0, l1, l2, l3, some (.int x0)] st N I L P = sm_at C X 53 31 [l0, l1, l2, l3, some (.int x0)] (.int x0 :: st) N I L P := st_go b53 dX5_write_29 (by decide) rfl
theorem s53_31 : sm_at C X 53 31 [l0, l1, l2, some (.int x0), l4] st N I L P = sm_at C X 53 32 [l0, l1, l2, some (.int x0), l4] (.int x0 :: st) N I L P := st_go b53 dX5_write_31 (by decide) rfl
theorem s53_32 : sm_at C X 53 32 ls (.int x0 :: .int x1 :: st) N I L P = if x0 ≤ x1 then sm_at C X 53 59 ls st N I L P else sm_at C X 53 35 ls st N I L P := st_br b53 dX5_write_32 (by decide) rfl
theorem s53_35 : sm_at C X 53 35 [some (.ref a), l1, l2, l3, l4] st N I L P = sm_at C X 53 36 [some (.ref a), l1, l2, l3, l4] (.ref a :: st) N I L P := st_go b53 dX5_write_35 (by decide) rfl
theorem s53_36 (h : a < N) (h1 : sm_lay a = .inl 5) : sm_at C X 53 36 ls (.ref a :: st) N I L P = sm_at C X 53 39 ls (va_rf (P a 0) :: st) N I L P := st_gfR b53 dX5_write_36 rfl rfl h h1
theorem s53_39 : sm_at C X 53 39 [some (.ref a), l1, l2, l3, l4] st N I L P = sm_at C X 53 40 [some (.ref a), l1, l2, l3, l4] (.ref a :: st) N I L P := st_go b53 dX5_write_39 (by decide) rfl
theorem s53_40 (h : a < N) (h1 : sm_lay a = .inl 5) : sm_at C X 53 40 ls (.ref a :: st) N I L P = sm_at C X 53 43 ls (.int (I a 1) :: st) N I L P := st_gfI b53 dX5_write_40 rfl rfl h h1
theorem s53_43 : sm_at C X 53 43 [l0, l1, l2, l3, some (.int x0)] st N I L P = sm_at C X 53 45 [l0, l1, l2, l3, some (.int x0)] (.int x0 :: st) N I L P := st_go b53 dX5_write_43 (by decide) rfl
theorem s53_45 : sm_at C X 53 45 ls (.int x0 :: .int x1 :: st) N I L P = sm_at C X 53 46 ls (.int (x1 + x0) :: st) N I L P := st_go b53 dX5_write_45 (by decide) rfl
theorem s53_46 : sm_at C X 53 46 [l0, some (.long z0), l2, l3, l4] st N I L P = sm_at C X 53 47 [l0, some (.long z0), l2, l3, l4] (.long z0 :: st) N I L P := st_go b53 dX5_write_46 (by decide) rfl
theorem s53_47 : sm_at C X 53 47 [l0, l1, l2, l3, some (.int x0)] st N I L P = sm_at C X 53 49 [l0, l1, l2, l3, some (.int x0)] (.int x0 :: st) N I L P := st_go b53 dX5_write_47 (by decide) rfl
theorem s53_49 : sm_at C X 53 49 ls [w1, w0, v1, v0] N I L P = sm_af C X 53 52 ls [v1, v0] (C 55 [w0, w1] N I L P) := st_stat b53 dX5_write_49 (n := 2) (rest := [v1, v0]) rfl rfl rfl rfl rfl rfl
theorem s53_52 (h : a < N) (h1 : k < sm_al a) : sm_at C X 53 52 ls (.int x0 :: .int (nI k) :: .ref a :: st) N I L P = sm_at C X 53 53 ls st N (sm_up I a k x0) L P := st_iast b53 dX5_write_52 h h1
theorem s53_53 : sm_at C X 53 53 [l0, l1, l2, l3, some (.int x0)] st N I L P = sm_at C X 53 56 [l0, l1, l2, sm_cl l3, some (.int (x0 + (nI 1)))] st N I L P := st_go b53 dX5_write_53 (by decide) rfl
theorem s53_56 : sm_at C X 53 56 ls st N I L P = sm_at C X 53 29 ls st N I L P := st_go b53 dX5_write_56 (by decide) rfl
theorem s53_59 : sm_at C X 53 59 [some (.ref a), l1, l2, l3, l4] st N I L P = sm_at C X 53 60 [some (.ref a), l1, l2, l3, l4] (.ref a :: st) N I L P := st_go b53 dX5_write_59 (by decide) rfl
theorem s53_60 : sm_at C X 53 60 ls (.ref a :: st) N I L P = sm_at C X 53 61 ls (.ref a :: .ref a :: st) N I L P := st_go b53 dX5_write_60 (by decide) rfl
theorem s53_61 (h : a < N) (h1 : sm_lay a = .inl 5) : sm_at C X 53 61 ls (.ref a :: st) N I L P = sm_at C X 53 64 ls (.int (I a 1) :: st) N I L P := st_gfI b53 dX5_write_61 rfl rfl h h1
theorem s53_64 : sm_at C X 53 64 [l0, l1, l2, some (.int x0), l4] st N I L P = sm_at C X 53 65 [l0, l1, l2, some (.int x0), l4] (.int x0 :: st) N I L P := st_go b53 dX5_write_64 (by decide) rfl
theorem s53_65 : sm_at C X 53 65 ls (.int x0 :: .int x1 :: st) N I L P = sm_at C X 53 66 ls (.int (x1 + x0) :: st) N I L P := st_go b53 dX5_write_65 (by decide) rfl
theorem s53_66 (h : a < N) (h1 : sm_lay a = .inl 5) : sm_at C X 53 66 ls (.int x0 :: .ref a :: st) N I L P = sm_at C X 53 69 ls st N (sm_up I a 1 x0) L P := st_pfI b53 dX5_write_66 rfl rfl rfl h h1
theorem s53_69 : sm_at C X 53 69 [some (.ref a), l1, l2, l3, l4] st N I L P = sm_at C X 53 70 [some (.ref a), l1, l2, l3, l4] (.ref a :: st) N I L P := st_go b53 dX5_write_69 (by decide) rfl
theorem s53_70 (h : a < N) (h1 : sm_lay a = .inl 5) : sm_at C X 53 70 ls (.ref a :: st) N I L P = sm_at C X 53 73 ls (.int (I a 1) :: st) N I L P := st_gfI b53 dX5_write_70 rfl rfl h h1
theorem s53_73 : sm_at C X 53 73 ls [.int x0] N I L P = some (some (.int x0), N, I, L, P) := st_iret b53 dX5_write_73 rfl
theorem b54 : sm_b 54 = cX5_lettersIn := rfl
theorem s54_0 : sm_at C X 54 0 ls st N I L P = sm_at C X 54 1 ls (.int (nI 0) :: st) N I L P := st_go b54 dX5_lettersIn_0 (by decide) rfl
theorem s54_1 : sm_at C X 54 1 [l0, l1, l2, l3, l4, l5] (.int x0 :: st) N I L P = sm_at C X 54 2 [l0, sm_cl l1, some (.int x0), l3, l4, l5] st N I L P := st_go b54 dX5_lettersIn_1 (by decide) rfl
theorem s54_2 : sm_at C X 54 2 ls st N I L P = sm_at C X 54 3 ls (.int (nI 0) :: st) N I L P := st_go b54 dX5_lettersIn_2 (by decide) rfl
theorem s54_3 : sm_at C X 54 3 [l0, l1, l2, l3, l4, l5] (.int x0 :: st) N I L P = sm_at C X 54 4 [l0, l1, sm_cl l2, some (.int x0), l4, l5] st N I L P := st_go b54 dX5_lettersIn_3 (by decide) rfl
theorem s54_4 : sm_at C X 54 4 [l0, l1, l2, some (.int x0), l4, l5] st N I L P = sm_at C X 54 5 [l0, l1, l2, some (.int x0), l4, l5] (.int x0 :: st) N I L P := st_go b54 dX5_lettersIn_4 (by decide) rfl
theorem s54_5 : sm_at C X 54 5 ls st N I L P = sm_at C X 54 7 ls (.int (nI 8) :: st) N I L P := st_go b54 dX5_lettersIn_5 (by decide) rfl
theorem s54_7 : sm_at C X 54 7 ls (.int x0 :: .int x1 :: st) N I L P = if x0 ≤ x1 then sm_at C X 54 62 ls st N I L P else sm_at C X 54 10 ls st N I L P := st_br b54 dX5_lettersIn_7 (by decide) rfl
theorem s54_10 : sm_at C X 54 10 [some (.long z0), l1, l2, l3, l4, l5] st N I L P = sm_at C X 54 11 [some (.long z0), l1, l2, l3, l4, l5] (.long z0 :: st) N I L P := st_go b54 dX5_lettersIn_10 (by decide) rfl
theorem s54_11 : sm_at C X 54 11 [l0, l1, l2, some (.int x0), l4, l5] st N I L P = sm_at C X 54 12 [l0, l1, l2, some (.int x0), l4, l5] (.int x0 :: st) N I L P := st_go b54 dX5_lettersIn_11 (by decide) rfl
theorem s54_12 : sm_at C X 54 12 ls [w1, w0] N I L P = sm_af C X 54 15 ls [] (C 55 [w0, w1] N I L P) := st_stat b54 dX5_lettersIn_12 (n := 2) (rest := []) rfl rfl rfl rfl rfl rfl
theorem s54_15 : sm_at C X 54 15 [l0, l1, l2, l3, l4, l5] (.int x0 :: st) N I L P = sm_at C X 54 17 [l0, l1, l2, sm_cl l3, some (.int x0), l5] st N I L P := st_go b54 dX5_lettersIn_15 (by decide) rfl
theorem s54_17 : sm_at C X 54 17 [l0, l1, some (.int x0), l3, l4, l5] st N I L P = sm_at C X 54 18 [l0, l1, some (.int x0), l3, l4, l5] (.int x0 :: st) N I L P := st_go b54 dX5_lettersIn_17 (by decide) rfl
theorem s54_18 : sm_at C X 54 18 [l0, l1, l2, some (.int x0), l4, l5] st N I L P = sm_at C X 54 19 [l0, l1, l2, some (.int x0), l4, l5] (.int x0 :: st) N I L P := st_go b54 dX5_lettersIn_18 (by decide) rfl
theorem s54_19 : sm_at C X 54 19 ls (.int x0 :: .int x1 :: st) N I L P = if x0 ≤ x1 then sm_at C X 54 26 ls st N I L P else sm_at C X 54 22 ls st N I L P := st_br b54 dX5_lettersIn_19 (by decide) rfl
theorem s54_22 : sm_at C X 54 22 ls st N I L P = sm_at C X 54 23 ls (.int (nI 1) :: st) N I L P := st_go b54 dX5_lettersIn_22 (by decide) rfl
theorem s54_23 : sm_at C X 54 23 ls st N I L P = sm_at C X 54 27 ls st N I L P := st_go b54 dX5_lettersIn_23 (by decide) rfl
theorem s54_26 : sm_at C X 54 26 ls st N I L P = sm_at C X 54 27 ls (.int (nI 0) :: st) N I L P := st_go b54 dX5_lettersIn_26 (by decide) rfl
theorem s54_27 : sm_at C X 54 27 [l0, l1, l2, l3, l4, l5] (.int x0 :: st) N I L P = sm_at C X 54 29 [l0, l1, l2, l3, sm_cl l4, some (.int x0)] st N I L P := st_go b54 dX5_lettersIn_27 (by decide) rfl
theorem s54_29 : sm_at C X 54 29 [l0, l1, l2, l3, some (.int x0), l5] st N I L P = sm_at C X 54 31 [l0, l1, l2, l3, some (.int x0), l5] (.int x0 :: st) N I L P := st_go b54 dX5_lettersIn_29 (by decide) rfl
theorem s54_31 : sm_at C X 54 31 ls st N I L P = sm_at C X 54 33 ls (.int (nI 126) :: st) N I L P := st_go b54 dX5_lettersIn_31 (by decide) rfl
theorem s54_33 : sm_at C X 54 33 ls (.int x0 :: .int x1 :: st) N I L P = if x0 < x1 then sm_at C X 54 46 ls st N I L P else sm_at C X 54 36 ls st N I L P := st_br b54 dX5_lettersIn_33 (by decide) rfl
theorem s54_36 : sm_at C X 54 36 [l0, l1, l2, l3, some (.int x0), l5] st N I L P = sm_at C X 54 38 [l0, l1, l2, l3, some (.int x0), l5] (.int x0 :: st) N I L P := st_go b54 dX5_lettersIn_36 (by decide) rfl
theorem s54_38 : sm_at C X 54 38 ls (.int x0 :: st) N I L P = if x0 = 0 then sm_at C X 54 48 ls st N I L P else sm_at C X 54 41 ls st N I L P := st_br b54 dX5_lettersIn_38 (by decide) rfl
theorem s54_41 : sm_at C X 54 41 [l0, l1, l2, l3, l4, some (.int x0)] st N I L P = sm_at C X 54 43 [l0, l1, l2, l3, l4, some (.int x0)] (.int x0 :: st) N I L P := st_go b54 dX5_lettersIn_41 (by decide) rfl
theorem s54_43 : sm_at C X 54 43 ls (.int x0 :: st) N I L P = if x0 = 0 then sm_at C X 54 48 ls st N I L P else sm_at C X 54 46 ls st N I L P := st_br b54 dX5_lettersIn_43 (by decide) rfl
theorem s54_46 : sm_at C X 54 46 ls st N I L P = sm_at C X 54 47 ls (.int (-1) :: st) N I L P := st_go b54 dX5_lettersIn_46 (by decide) rfl
theorem s54_47 : sm_at C X 54 47 ls [.int x0] N I L P = some (some (.int x0), N, I, L, P) := st_iret b54 dX5_lettersIn_47 rfl
theorem s54_48 : sm_at C X 54 48 [l0, l1, l2, l3, some (.int x0), l5] st N I L P = sm_at C X 54 50 [l0, l1, l2, l3, some (.int x0), l5] (.int x0 :: st) N I L P := st_go b54 dX5_lettersIn_48 (by decide) rfl
theorem s54_50 : sm_at C X 54 50 ls (.int x0 :: st) N I L P = if x0 = 0 then sm_at C X 54 56 ls st N I L P else sm_at C X 54 53 ls st N I L P := st_br b54 dX5_lettersIn_50 (by decide) rfl
theorem s54_53 : sm_at C X 54 53 [l0, l1, some (.int x0), l3, l4, l5] st N I L P = sm_at C X 54 56 [l0, sm_cl l1, some (.int (x0 + (nI 1))), l3, l4, l5] st N I L P := st_go b54 dX5_lettersIn_53 (by decide) rfl
theorem s54_56 : sm_at C X 54 56 [l0, l1, l2, some (.int x0), l4, l5] st N I L P = sm_at C X 54 59 [l0, l1, sm_cl l2, some (.int (x0 + (nI 1))), l4, l5] st N I L P := st_go b54 dX5_lettersIn_56 (by decide) rfl
theorem s54_59 : sm_at C X 54 59 ls st N I L P = sm_at C X 54 4 ls st N I L P := st_go b54 dX5_lettersIn_59 (by decide) rfl
theorem s54_62 : sm_at C X 54 62 [l0, l1, some (.int x0), l3, l4, l5] st N I L P = sm_at C X 54 63 [l0, l1, some (.int x0), l3, l4, l5] (.int x0 :: st) N I L P := st_go b54 dX5_lettersIn_62 (by decide) rfl
theorem s54_63 : sm_at C X 54 63 ls [.int x0] N I L P = some (some (.int x0), N, I, L, P) := st_iret b54 dX5_lettersIn_63 rfl
theorem b55 : sm_b 55 = cX5_byteOf := rfl
theorem s55_0 : sm_at C X 55 0 [some (.long z0), l1, l2] st N I L P = sm_at C X 55 1 [some (.long z0), l1, l2] (.long z0 :: st) N I L P := st_go b55 dX5_byteOf_0 (by decide) rfl
theorem s55_1 : sm_at C X 55 1 ls st N I L P = sm_at C X 55 3 ls (.int (nI 8) :: st) N I L P := st_go b55 dX5_byteOf_1 (by decide) rfl
theorem s55_3 : sm_at C X 55 3 [l0, l1, some (.int x0)] st N I L P = sm_at C X 55 4 [l0, l1, some (.int x0)] (.int x0 :: st) N I L P := st_go b55 dX5_byteOf_3 (by decide) rfl
theorem s55_4 : sm_at C X 55 4 ls (.int x0 :: .int x1 :: st) N I L P = sm_at C X 55 5 ls (.int (x1 * x0) :: st) N I L P := st_go b55 dX5_byteOf_4 (by decide) rfl
theorem s55_5 : sm_at C X 55 5 ls (.int x0 :: .long z0 :: st) N I L P = sm_at C X 55 6 ls (.long (z0.toUInt64 >>> (x0.toInt64.toUInt64 &&& Int64.toUInt64 63)).toInt64 :: st) N I L P := st_go b55 dX5_byteOf_5 (by decide) rfl
theorem s55_6 : sm_at C X 55 6 ls st N I L P = sm_at C X 55 9 ls (.long (lN 255) :: st) N I L P := st_go b55 dX5_byteOf_6 (by decide) rfl
theorem s55_9 : sm_at C X 55 9 ls (.long z0 :: .long z1 :: st) N I L P = sm_at C X 55 10 ls (.long (z1 &&& z0) :: st) N I L P := st_go b55 dX5_byteOf_9 (by decide) rfl
theorem s55_10 : sm_at C X 55 10 ls (.long z0 :: st) N I L P = sm_at C X 55 11 ls (.int z0.toInt32 :: st) N I L P := st_go b55 dX5_byteOf_10 (by decide) rfl
theorem s55_11 : sm_at C X 55 11 ls [.int x0] N I L P = some (some (.int x0), N, I, L, P) := st_iret b55 dX5_byteOf_11 rfl
end STX5
