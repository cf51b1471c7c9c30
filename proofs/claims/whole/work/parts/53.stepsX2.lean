section STX2
variable {C : sm_Cf} {X : sm_Xs} {ls : List (Option Value)} {st : List Value} {N : Nat} {I : sm_Im} {L : sm_Lm} {P : sm_Pm} {x0 x1 x2 : Int32} {z0 z1 : Int64} {a a2 k n : Nat} {f : Nat → Int32} {w0 w1 w2 w3 w4 w5 w6 v0 v1 v2 v3 v4 : Value} {l0 l1 l2 l3 l4 l5 l6 l7 l8 l9 l10 l11 l12 l13 l14 l15 l16 : Option Value}
theorem b22 : sm_b 22 = cX2_init := rfl
theorem s22_0 : sm_at C X 22 0 [some (.ref a)] st N I L P = sm_at C X 22 1 [some (.ref a)] (.ref a :: st) N I L P := st_go b22 dX2_init_0 (by decide) rfl
theorem s22_1 : sm_at C X 22 1 ls (.ref a :: []) N I L P = sm_at C X 22 4 ls [] N I L P := st_go b22 dX2_init_1 (by decide) rfl
theorem s22_4 : sm_at C X 22 4 [some (.ref a)] st N I L P = sm_at C X 22 5 [some (.ref a)] (.ref a :: st) N I L P := st_go b22 dX2_init_4 (by decide) rfl
theorem s22_5 : sm_at C X 22 5 ls st N I L P = sm_at C X 22 7 ls (.int (nI 8) :: st) N I L P := st_go b22 dX2_init_5 (by decide) rfl
theorem s22_7 (h : N < 81) (h1 : sm_lay N = .inr (.inl k)) (h2 : k < 1000) : sm_at C X 22 7 ls (.int (nI k) :: st) N I L P = sm_at C X 22 9 ls (.ref N :: st) (N + 1) (sm_z I N 0) L P := st_newa b22 dX2_init_7 h h1 h2
theorem s22_9 (h : a < N) (h1 : sm_lay a = .inl 2) : sm_at C X 22 9 ls (.ref a2 :: .ref a :: st) N I L P = sm_at C X 22 12 ls st N I L (sm_up P a 0 (some a2)) := st_pfR b22 dX2_init_9 rfl rfl (Or.inr ⟨rfl, rfl⟩) h h1
theorem s22_12 : sm_at C X 22 12 [some (.ref a)] st N I L P = sm_at C X 22 13 [some (.ref a)] (.ref a :: st) N I L P := st_go b22 dX2_init_12 (by decide) rfl
theorem s22_13 : sm_at C X 22 13 ls st N I L P = sm_at C X 22 15 ls (.int (nI 8) :: st) N I L P := st_go b22 dX2_init_13 (by decide) rfl
theorem s22_15 (h : N < 81) (h1 : sm_lay N = .inr (.inl k)) (h2 : k < 1000) : sm_at C X 22 15 ls (.int (nI k) :: st) N I L P = sm_at C X 22 17 ls (.ref N :: st) (N + 1) (sm_z I N 0) L P := st_newa b22 dX2_init_15 h h1 h2
theorem s22_17 (h : a < N) (h1 : sm_lay a = .inl 2) : sm_at C X 22 17 ls (.ref a2 :: .ref a :: st) N I L P = sm_at C X 22 20 ls st N I L (sm_up P a 1 (some a2)) := st_pfR b22 dX2_init_17 rfl rfl (Or.inr ⟨rfl, rfl⟩) h h1
theorem s22_20 : sm_at C X 22 20 [some (.ref a)] st N I L P = sm_at C X 22 21 [some (.ref a)] (.ref a :: st) N I L P := st_go b22 dX2_init_20 (by decide) rfl
theorem s22_21 : sm_at C X 22 21 ls st N I L P = sm_at C X 22 23 ls (.int (nI 8) :: st) N I L P := st_go b22 dX2_init_21 (by decide) rfl
theorem s22_23 (h : N < 81) (h1 : sm_lay N = .inr (.inl k)) (h2 : k < 1000) : sm_at C X 22 23 ls (.int (nI k) :: st) N I L P = sm_at C X 22 25 ls (.ref N :: st) (N + 1) (sm_z I N 0) L P := st_newa b22 dX2_init_23 h h1 h2
theorem s22_25 (h : a < N) (h1 : sm_lay a = .inl 2) : sm_at C X 22 25 ls (.ref a2 :: .ref a :: st) N I L P = sm_at C X 22 28 ls st N I L (sm_up P a 2 (some a2)) := st_pfR b22 dX2_init_25 rfl rfl (Or.inr ⟨rfl, rfl⟩) h h1
theorem s22_28 : sm_at C X 22 28 [some (.ref a)] st N I L P = sm_at C X 22 29 [some (.ref a)] (.ref a :: st) N I L P := st_go b22 dX2_init_28 (by decide) rfl
theorem s22_29 : sm_at C X 22 29 ls st N I L P = sm_at C X 22 31 ls (.int (nI 8) :: st) N I L P := st_go b22 dX2_init_29 (by decide) rfl
theorem s22_31 (h : N < 81) (h1 : sm_lay N = .inr (.inl k)) (h2 : k < 1000) : sm_at C X 22 31 ls (.int (nI k) :: st) N I L P = sm_at C X 22 33 ls (.ref N :: st) (N + 1) (sm_z I N 0) L P := st_newa b22 dX2_init_31 h h1 h2
theorem s22_33 (h : a < N) (h1 : sm_lay a = .inl 2) : sm_at C X 22 33 ls (.ref a2 :: .ref a :: st) N I L P = sm_at C X 22 36 ls st N I L (sm_up P a 3 (some a2)) := st_pfR b22 dX2_init_33 rfl rfl (Or.inr ⟨rfl, rfl⟩) h h1
theorem s22_36 : sm_at C X 22 36 [some (.ref a)] st N I L P = sm_at C X 22 37 [some (.ref a)] (.ref a :: st) N I L P := st_go b22 dX2_init_36 (by decide) rfl
theorem s22_37 : sm_at C X 22 37 ls st N I L P = sm_at C X 22 38 ls (.int (nI 4) :: st) N I L P := st_go b22 dX2_init_37 (by decide) rfl
theorem s22_38 (h : a < N) (h1 : sm_lay a = .inl 2) : sm_at C X 22 38 ls (.int x0 :: .ref a :: st) N I L P = sm_at C X 22 41 ls st N (sm_up I a 4 x0) L P := st_pfI b22 dX2_init_38 rfl rfl rfl h h1
theorem s22_41 : sm_at C X 22 41 ls [] N I L P = some (none, N, I, L, P) := st_ret b22 dX2_init_41 (by decide) rfl
theorem b23 : sm_b 23 = cX2_size := rfl
theorem s23_0 : sm_at C X 23 0 [some (.ref a)] st N I L P = sm_at C X 23 1 [some (.ref a)] (.ref a :: st) N I L P := st_go b23 dX2_size_0 (by decide) rfl
theorem s23_1 (h : a < N) (h1 : sm_lay a = .inl 2) : sm_at C X 23 1 ls (.ref a :: st) N I L P = sm_at C X 23 4 ls (.int (I a 4) :: st) N I L P := st_gfI b23 dX2_size_1 rfl rfl h h1
theorem s23_4 : sm_at C X 23 4 ls [.int x0] N I L P = some (some (.int x0), N, I, L, P) := st_iret b23 dX2_size_4 rfl
theorem b24 : sm_b 24 = cX2_winces := rfl
theorem s24_0 : sm_at C X 24 0 [some (.ref a)] st N I L P = sm_at C X 24 1 [some (.ref a)] (.ref a :: st) N I L P := st_go b24 dX2_winces_0 (by decide) rfl
theorem s24_1 (h : a < N) (h1 : sm_lay a = .inl 2) : sm_at C X 24 1 ls (.ref a :: st) N I L P = sm_at C X 24 4 ls (.int (I a 5) :: st) N I L P := st_gfI b24 dX2_winces_1 rfl rfl h h1
theorem s24_4 : sm_at C X 24 4 ls [.int x0] N I L P = some (some (.int x0), N, I, L, P) := st_iret b24 dX2_winces_4 rfl
theorem b25 : sm_b 25 = cX2_gather := rfl
theorem s25_0 : sm_at C X 25 0 [some (.ref a), l1] st N I L P = sm_at C X 25 1 [some (.ref a), l1] (.ref a :: st) N I L P := st_go b25 dX2_gather_0 (by decide) rfl
theorem s25_1 : sm_at C X 25 1 [l0, some (.int x0)] st N I L P = sm_at C X 25 2 [l0, some (.int x0)] (.int x0 :: st) N I L P := st_go b25 dX2_gather_1 (by decide) rfl
theorem s25_2 (h : a < N) (h1 : sm_lay a = .inl 2) : sm_at C X 25 2 ls (.int x0 :: .ref a :: st) N I L P = sm_at C X 25 5 ls st N (sm_up I a 4 x0) L P := st_pfI b25 dX2_gather_2 rfl rfl rfl h h1
theorem s25_5 : sm_at C X 25 5 [some (.ref a), l1] st N I L P = sm_at C X 25 6 [some (.ref a), l1] (.ref a :: st) N I L P := st_go b25 dX2_gather_5 (by decide) rfl
theorem s25_6 : sm_at C X 25 6 ls st N I L P = sm_at C X 25 7 ls (.int (nI 0) :: st) N I L P := st_go b25 dX2_gather_6 (by decide) rfl
theorem s25_7 (h : a < N) (h1 : sm_lay a = .inl 2) : sm_at C X 25 7 ls (.int x0 :: .ref a :: st) N I L P = sm_at C X 25 10 ls st N (sm_up I a 5 x0) L P := st_pfI b25 dX2_gather_7 rfl rfl rfl h h1
theorem s25_10 : sm_at C X 25 10 ls [] N I L P = some (none, N, I, L, P) := st_ret b25 dX2_gather_10 (by decide) rfl
theorem b26 : sm_b 26 = cX2_add := rfl
theorem s26_0 : sm_at C X 26 0 [some (.ref a), l1, l2] st N I L P = sm_at C X 26 1 [some (.ref a), l1, l2] (.ref a :: st) N I L P := st_go b26 dX2_add_0 (by decide) rfl
theorem s26_1 (h : a < N) (h1 : sm_lay a = .inl 2) : sm_at C X 26 1 ls (.ref a :: st) N I L P = sm_at C X 26 4 ls (.int (I a 5) :: st) N I L P := st_gfI b26 dX2_add_1 rfl rfl h h1
theorem s26_4 : sm_at C X 26 4 ls st N I L P = sm_at C X 26 6 ls (.int (nI 8) :: st) N I L P := st_go b26 dX2_add_4 (by decide) rfl
theorem s26_6 : sm_at C X 26 6 ls (.int x0 :: .int x1 :: st) N I L P = if x1 < x0 then sm_at C X 26 12 ls st N I L P else sm_at C X 26 9 ls st N I L P := st_br b26 dX2_add_6 (by decide) rfl
theorem s26_9 : sm_at C X 26 9 ls st N I L P = sm_at C X 26 11 ls (.int (-104) :: st) N I L P := st_go b26 dX2_add_9 (by decide) rfl
theorem s26_11 : sm_at C X 26 11 ls [.int x0] N I L P = some (some (.int x0), N, I, L, P) := st_iret b26 dX2_add_11 rfl
theorem s26_12 : sm_at C X 26 12 [some (.ref a), l1, l2] st N I L P = sm_at C X 26 13 [some (.ref a), l1, l2] (.ref a :: st) N I L P := st_go b26 dX2_add_12 (by decide) rfl
theorem s26_13 (h : a < N) (h1 : sm_lay a = .inl 2) : sm_at C X 26 13 ls (.ref a :: st) N I L P = sm_at C X 26 16 ls (va_rf (P a 0) :: st) N I L P := st_gfR b26 dX2_add_13 rfl rfl h h1
theorem s26_16 : sm_at C X 26 16 [some (.ref a), l1, l2] st N I L P = sm_at C X 26 17 [some (.ref a), l1, l2] (.ref a :: st) N I L P := st_go b26 dX2_add_16 (by decide) rfl
theorem s26_17 (h : a < N) (h1 : sm_lay a = .inl 2) : sm_at C X 26 17 ls (.ref a :: st) N I L P = sm_at C X 26 20 ls (.int (I a 5) :: st) N I L P := st_gfI b26 dX2_add_17 rfl rfl h h1
theorem s26_20 : sm_at C X 26 20 [l0, some (.int x0), l2] st N I L P = sm_at C X 26 21 [l0, some (.int x0), l2] (.int x0 :: st) N I L P := st_go b26 dX2_add_20 (by decide) rfl
theorem s26_21 (h : a < N) (h1 : k < sm_al a) : sm_at C X 26 21 ls (.int x0 :: .int (nI k) :: .ref a :: st) N I L P = sm_at C X 26 22 ls st N (sm_up I a k x0) L P := st_iast b26 dX2_add_21 h h1
theorem s26_22 : sm_at C X 26 22 [some (.ref a), l1, l2] st N I L P = sm_at C X 26 23 [some (.ref a), l1, l2] (.ref a :: st) N I L P := st_go b26 dX2_add_22 (by decide) rfl
theorem s26_23 (h : a < N) (h1 : sm_lay a = .inl 2) : sm_at C X 26 23 ls (.ref a :: st) N I L P = sm_at C X 26 26 ls (va_rf (P a 1) :: st) N I L P := st_gfR b26 dX2_add_23 rfl rfl h h1
theorem s26_26 : sm_at C X 26 26 [some (.ref a), l1, l2] st N I L P = sm_at C X 26 27 [some (.ref a), l1, l2] (.ref a :: st) N I L P := st_go b26 dX2_add_26 (by decide) rfl
theorem s26_27 (h : a < N) (h1 : sm_lay a = .inl 2) : sm_at C X 26 27 ls (.ref a :: st) N I L P = sm_at C X 26 30 ls (.int (I a 5) :: st) N I L P := st_gfI b26 dX2_add_27 rfl rfl h h1
theorem s26_30 : sm_at C X 26 30 [l0, l1, some (.int x0)] st N I L P = sm_at C X 26 31 [l0, l1, some (.int x0)] (.int x0 :: st) N I L P := st_go b26 dX2_add_30 (by decide) rfl
theorem s26_31 (h : a < N) (h1 : k < sm_al a) : sm_at C X 26 31 ls (.int x0 :: .int (nI k) :: .ref a :: st) N I L P = sm_at C X 26 32 ls st N (sm_up I a k x0) L P := st_iast b26 dX2_add_31 h h1
theorem s26_32 : sm_at C X 26 32 [some (.ref a), l1, l2] st N I L P = sm_at C X 26 33 [some (.ref a), l1, l2] (.ref a :: st) N I L P := st_go b26 dX2_add_32 (by decide) rfl
theorem s26_33 : sm_at C X 26 33 ls (.ref a :: st) N I L P = sm_at C X 26 34 ls (.ref a :: .ref a :: st) N I L P := st_go b26 dX2_add_33 (by decide) rfl
theorem s26_34 (h : a < N) (h1 : sm_lay a = .inl 2) : sm_at C X 26 34 ls (.ref a :: st) N I L P = sm_at C X 26 37 ls (.int (I a 5) :: st) N I L P := st_gfI b26 dX2_add_34 rfl rfl h h1
theorem s26_37 : sm_at C X 26 37 ls st N I L P = sm_at C X 26 38 ls (.int (nI 1) :: st) N I L P := st_go b26 dX2_add_37 (by decide) rfl
theorem s26_38 : sm_at C X 26 38 ls (.int x0 :: .int x1 :: st) N I L P = sm_at C X 26 39 ls (.int (x1 + x0) :: st) N I L P := st_go b26 dX2_add_38 (by decide) rfl
theorem s26_39 (h : a < N) (h1 : sm_lay a = .inl 2) : sm_at C X 26 39 ls (.int x0 :: .ref a :: st) N I L P = sm_at C X 26 42 ls st N (sm_up I a 5 x0) L P := st_pfI b26 dX2_add_39 rfl rfl rfl h h1
theorem s26_42 : sm_at C X 26 42 [some (.ref a), l1, l2] st N I L P = sm_at C X 26 43 [some (.ref a), l1, l2] (.ref a :: st) N I L P := st_go b26 dX2_add_42 (by decide) rfl
theorem s26_43 (h : a < N) (h1 : sm_lay a = .inl 2) : sm_at C X 26 43 ls (.ref a :: st) N I L P = sm_at C X 26 46 ls (.int (I a 5) :: st) N I L P := st_gfI b26 dX2_add_43 rfl rfl h h1
theorem s26_46 : sm_at C X 26 46 ls [.int x0] N I L P = some (some (.int x0), N, I, L, P) := st_iret b26 dX2_add_46 rfl
theorem b27 : sm_b 27 = cX2_copyFrom := rfl
theorem s27_0 : sm_at C X 27 0 [l0, some (.ref a)] st N I L P = sm_at C X 27 1 [l0, some (.ref a)] (.ref a :: st) N I L P := st_go b27 dX2_copyFrom_0 (by decide) rfl
theorem s27_0n : sm_at C X 27 0 [l0, some .null] st N I L P = sm_at C X 27 1 [l0, some .null] (.null :: st) N I L P := st_go b27 dX2_copyFrom_0 (by decide) rfl
theorem s27_1 (h : a < N) (h1 : sm_lay a = .inl 2) : sm_at C X 27 1 ls (.ref a :: st) N I L P = sm_at C X 27 4 ls (va_rf (P a 0) :: st) N I L P := st_gfR b27 dX2_copyFrom_1 rfl rfl h h1
theorem s27_4 : sm_at C X 27 4 ls st N I L P = sm_at C X 27 5 ls (.int (nI 0) :: st) N I L P := st_go b27 dX2_copyFrom_4 (by decide) rfl
theorem s27_5 : sm_at C X 27 5 [some (.ref a), l1] st N I L P = sm_at C X 27 6 [some (.ref a), l1] (.ref a :: st) N I L P := st_go b27 dX2_copyFrom_5 (by decide) rfl
theorem s27_6 (h : a < N) (h1 : sm_lay a = .inl 2) : sm_at C X 27 6 ls (.ref a :: st) N I L P = sm_at C X 27 9 ls (va_rf (P a 0) :: st) N I L P := st_gfR b27 dX2_copyFrom_6 rfl rfl h h1
theorem s27_9 : sm_at C X 27 9 ls st N I L P = sm_at C X 27 10 ls (.int (nI 0) :: st) N I L P := st_go b27 dX2_copyFrom_9 (by decide) rfl
theorem s27_10 : sm_at C X 27 10 ls st N I L P = sm_at C X 27 12 ls (.int (nI 8) :: st) N I L P := st_go b27 dX2_copyFrom_10 (by decide) rfl
theorem s27_12 (h : a < N) (h1 : a2 < N) (h2 : k ≤ sm_al a) (h3 : k ≤ sm_al a2) (h4 : 0 < k) : sm_at C X 27 12 ls [.int (nI k), .int (nI 0), .ref a, .int (nI 0), .ref a2] N I L P = sm_at C X 27 15 ls [] N (sm_row I a (va_cpy (I a2) (I a) 0 0 k)) L P := st_copy b27 dX2_copyFrom_12 rfl rfl h h1 h2 h3 h4
theorem s27_15 : sm_at C X 27 15 [l0, some (.ref a)] st N I L P = sm_at C X 27 16 [l0, some (.ref a)] (.ref a :: st) N I L P := st_go b27 dX2_copyFrom_15 (by decide) rfl
theorem s27_15n : sm_at C X 27 15 [l0, some .null] st N I L P = sm_at C X 27 16 [l0, some .null] (.null :: st) N I L P := st_go b27 dX2_copyFrom_15 (by decide) rfl
theorem s27_16 (h : a < N) (h1 : sm_lay a = .inl 2) : sm_at C X 27 16 ls (.ref a :: st) N I L P = sm_at C X 27 19 ls (va_rf (P a 1) :: st) N I L P := st_gfR b27 dX2_copyFrom_16 rfl rfl h h1
theorem s27_19 : sm_at C X 27 19 ls st N I L P = sm_at C X 27 20 ls (.int (nI 0) :: st) N I L P := st_go b27 dX2_copyFrom_19 (by decide) rfl
theorem s27_20 : sm_at C X 27 20 [some (.ref a), l1] st N I L P = sm_at C X 27 21 [some (.ref a), l1] (.ref a :: st) N I L P := st_go b27 dX2_copyFrom_20 (by decide) rfl
theorem s27_21 (h : a < N) (h1 : sm_lay a = .inl 2) : sm_at C X 27 21 ls (.ref a :: st) N I L P = sm_at C X 27 24 ls (va_rf (P a 1) :: st) N I L P := st_gfR b27 dX2_copyFrom_21 rfl rfl h h1
theorem s27_24 : sm_at C X 27 24 ls st N I L P = sm_at C X 27 25 ls (.int (nI 0) :: st) N I L P := st_go b27 dX2_copyFrom_24 (by decide) rfl
theorem s27_25 : sm_at C X 27 25 ls st N I L P = sm_at C X 27 27 ls (.int (nI 8) :: st) N I L P := st_go b27 dX2_copyFrom_25 (by decide) rfl
theorem s27_27 (h : a < N) (h1 : a2 < N) (h2 : k ≤ sm_al a) (h3 : k ≤ sm_al a2) (h4 : 0 < k) : sm_at C X 27 27 ls [.int (nI k), .int (nI 0), .ref a, .int (nI 0), .ref a2] N I L P = sm_at C X 27 30 ls [] N (sm_row I a (va_cpy (I a2) (I a) 0 0 k)) L P := st_copy b27 dX2_copyFrom_27 rfl rfl h h1 h2 h3 h4
theorem s27_30 : sm_at C X 27 30 [some (.ref a), l1] st N I L P = sm_at C X 27 31 [some (.ref a), l1] (.ref a :: st) N I L P := st_go b27 dX2_copyFrom_30 (by decide) rfl
theorem s27_31 : sm_at C X 27 31 [l0, some (.ref a)] st N I L P = sm_at C X 27 32 [l0, some (.ref a)] (.ref a :: st) N I L P := st_go b27 dX2_copyFrom_31 (by decide) rfl
theorem s27_31n : sm_at C X 27 31 [l0, some .null] st N I L P = sm_at C X 27 32 [l0, some .null] (.null :: st) N I L P := st_go b27 dX2_copyFrom_31 (by decide) rfl
theorem s27_32 (h : a < N) (h1 : sm_lay a = .inl 2) : sm_at C X 27 32 ls (.ref a :: st) N I L P = sm_at C X 27 35 ls (.int (I a 4) :: st) N I L P := st_gfI b27 dX2_copyFrom_32 rfl rfl h h1
theorem s27_35 (h : a < N) (h1 : sm_lay a = .inl 2) : sm_at C X 27 35 ls (.int x0 :: .ref a :: st) N I L P = sm_at C X 27 38 ls st N (sm_up I a 4 x0) L P := st_pfI b27 dX2_copyFrom_35 rfl rfl rfl h h1
theorem s27_38 : sm_at C X 27 38 [some (.ref a), l1] st N I L P = sm_at C X 27 39 [some (.ref a), l1] (.ref a :: st) N I L P := st_go b27 dX2_copyFrom_38 (by decide) rfl
theorem s27_39 : sm_at C X 27 39 [l0, some (.ref a)] st N I L P = sm_at C X 27 40 [l0, some (.ref a)] (.ref a :: st) N I L P := st_go b27 dX2_copyFrom_39 (by decide) rfl
theorem s27_39n : sm_at C X 27 39 [l0, some .null] st N I L P = sm_at C X 27 40 [l0, some .null] (.null :: st) N I L P := st_go b27 dX2_copyFrom_39 (by decide) rfl
theorem s27_40 (h : a < N) (h1 : sm_lay a = .inl 2) : sm_at C X 27 40 ls (.ref a :: st) N I L P = sm_at C X 27 43 ls (.int (I a 5) :: st) N I L P := st_gfI b27 dX2_copyFrom_40 rfl rfl h h1
theorem s27_43 (h : a < N) (h1 : sm_lay a = .inl 2) : sm_at C X 27 43 ls (.int x0 :: .ref a :: st) N I L P = sm_at C X 27 46 ls st N (sm_up I a 5 x0) L P := st_pfI b27 dX2_copyFrom_43 rfl rfl rfl h h1
theorem s27_46 : sm_at C X 27 46 ls [] N I L P = some (none, N, I, L, P) := st_ret b27 dX2_copyFrom_46 (by decide) rfl
theorem b28 : sm_b 28 = cX2_survey := rfl
theorem s28_0 : sm_at C X 28 0 ls st N I L P = sm_at C X 28 1 ls (.int (nI 1) :: st) N I L P := st_go b28 dX2_survey_0 (by decide) rfl
theorem s28_1 : sm_at C X 28 1 [some (.ref a), l1, l2] st N I L P = sm_at C X 28 2 [some (.ref a), l1, l2] (.ref a :: st) N I L P := st_go b28 dX2_survey_1 (by decide) rfl
theorem s28_2 (h : a < N) (h1 : sm_lay a = .inl 2) : sm_at C X 28 2 ls (.ref a :: st) N I L P = sm_at C X 28 5 ls (.int (I a 4) :: st) N I L P := st_gfI b28 dX2_survey_2 rfl rfl h h1
theorem s28_5 : sm_at C X 28 5 ls (.int x0 :: .int x1 :: st) N I L P = sm_at C X 28 6 ls (.int (x1 <<< (x0 &&& 31)) :: st) N I L P := st_go b28 dX2_survey_5 (by decide) rfl
theorem s28_6 : sm_at C X 28 6 ls st N I L P = sm_at C X 28 7 ls (.int (nI 1) :: st) N I L P := st_go b28 dX2_survey_6 (by decide) rfl
theorem s28_7 : sm_at C X 28 7 ls (.int x0 :: .int x1 :: st) N I L P = sm_at C X 28 8 ls (.int (x1 - x0) :: st) N I L P := st_go b28 dX2_survey_7 (by decide) rfl
theorem s28_8 : sm_at C X 28 8 [l0, l1, l2] (.int x0 :: st) N I L P = sm_at C X 28 9 [sm_cl l0, some (.int x0), l2] st N I L P := st_go b28 dX2_survey_8 (by decide) rfl
theorem s28_9 : sm_at C X 28 9 [some (.ref a), l1, l2] st N I L P = sm_at C X 28 10 [some (.ref a), l1, l2] (.ref a :: st) N I L P := st_go b28 dX2_survey_9 (by decide) rfl
theorem s28_10 (h : a < N) (h1 : sm_lay a = .inl 2) : sm_at C X 28 10 ls (.ref a :: st) N I L P = sm_at C X 28 13 ls (va_rf (P a 2) :: st) N I L P := st_gfR b28 dX2_survey_10 rfl rfl h h1
theorem s28_13 : sm_at C X 28 13 [l0, some (.int x0), l2] st N I L P = sm_at C X 28 14 [l0, some (.int x0), l2] (.int x0 :: st) N I L P := st_go b28 dX2_survey_13 (by decide) rfl
theorem s28_14 : sm_at C X 28 14 ls [w1, w0] N I L P = sm_af C X 28 17 ls [] (C 215 [w0, w1] N I L P) := st_stat b28 dX2_survey_14 (n := 2) (rest := []) rfl rfl rfl rfl rfl rfl
theorem s28_17 : sm_at C X 28 17 [some (.ref a), l1, l2] st N I L P = sm_at C X 28 18 [some (.ref a), l1, l2] (.ref a :: st) N I L P := st_go b28 dX2_survey_17 (by decide) rfl
theorem s28_18 (h : a < N) (h1 : sm_lay a = .inl 2) : sm_at C X 28 18 ls (.ref a :: st) N I L P = sm_at C X 28 21 ls (va_rf (P a 3) :: st) N I L P := st_gfR b28 dX2_survey_18 rfl rfl h h1
theorem s28_21 : sm_at C X 28 21 ls st N I L P = sm_at C X 28 22 ls (.int (nI 0) :: st) N I L P := st_go b28 dX2_survey_21 (by decide) rfl
theorem s28_22 : sm_at C X 28 22 ls [w1, w0] N I L P = sm_af C X 28 25 ls [] (C 215 [w0, w1] N I L P) := st_stat b28 dX2_survey_22 (n := 2) (rest := []) rfl rfl rfl rfl rfl rfl
theorem s28_25 : sm_at C X 28 25 ls st N I L P = sm_at C X 28 26 ls (.int (nI 0) :: st) N I L P := st_go b28 dX2_survey_25 (by decide) rfl
theorem s28_26 : sm_at C X 28 26 [l0, l1, l2] (.int x0 :: st) N I L P = sm_at C X 28 27 [l0, sm_cl l1, some (.int x0)] st N I L P := st_go b28 dX2_survey_26 (by decide) rfl
theorem s28_27 : sm_at C X 28 27 [l0, l1, some (.int x0)] st N I L P = sm_at C X 28 28 [l0, l1, some (.int x0)] (.int x0 :: st) N I L P := st_go b28 dX2_survey_27 (by decide) rfl
theorem s28_28 : sm_at C X 28 28 [some (.ref a), l1, l2] st N I L P = sm_at C X 28 29 [some (.ref a), l1, l2] (.ref a :: st) N I L P := st_go b28 dX2_survey_28 (by decide) rfl
theorem s28_29 (h : a < N) (h1 : sm_lay a = .inl 2) : sm_at C X 28 29 ls (.ref a :: st) N I L P = sm_at C X 28 32 ls (.int (I a 5) :: st) N I L P := st_gfI b28 dX2_survey_29 rfl rfl h h1
theorem s28_32 : sm_at C X 28 32 ls (.int x0 :: .int x1 :: st) N I L P = if x0 ≤ x1 then sm_at C X 28 67 ls st N I L P else sm_at C X 28 35 ls st N I L P := st_br b28 dX2_survey_32 (by decide) rfl
theorem s28_35 : sm_at C X 28 35 [l0, l1, some (.int x0)] st N I L P = sm_at C X 28 36 [l0, l1, some (.int x0)] (.int x0 :: st) N I L P := st_go b28 dX2_survey_35 (by decide) rfl
theorem s28_36 : sm_at C X 28 36 ls st N I L P = sm_at C X 28 38 ls (.int (nI 8) :: st) N I L P := st_go b28 dX2_survey_36 (by decide) rfl
theorem s28_38 : sm_at C X 28 38 ls (.int x0 :: .int x1 :: st) N I L P = if x0 ≤ x1 then sm_at C X 28 67 ls st N I L P else sm_at C X 28 41 ls st N I L P := st_br b28 dX2_survey_38 (by decide) rfl
theorem s28_41 : sm_at C X 28 41 [some (.ref a), l1, l2] st N I L P = sm_at C X 28 42 [some (.ref a), l1, l2] (.ref a :: st) N I L P := st_go b28 dX2_survey_41 (by decide) rfl
theorem s28_42 (h : a < N) (h1 : sm_lay a = .inl 2) : sm_at C X 28 42 ls (.ref a :: st) N I L P = sm_at C X 28 45 ls (va_rf (P a 2) :: st) N I L P := st_gfR b28 dX2_survey_42 rfl rfl h h1
theorem s28_45 : sm_at C X 28 45 [some (.ref a), l1, l2] st N I L P = sm_at C X 28 46 [some (.ref a), l1, l2] (.ref a :: st) N I L P := st_go b28 dX2_survey_45 (by decide) rfl
theorem s28_46 (h : a < N) (h1 : sm_lay a = .inl 2) : sm_at C X 28 46 ls (.ref a :: st) N I L P = sm_at C X 28 49 ls (va_rf (P a 0) :: st) N I L P := st_gfR b28 dX2_survey_46 rfl rfl h h1
theorem s28_49 : sm_at C X 28 49 [l0, l1, some (.int x0)] st N I L P = sm_at C X 28 50 [l0, l1, some (.int x0)] (.int x0 :: st) N I L P := st_go b28 dX2_survey_49 (by decide) rfl
theorem s28_50 (h : a < N) (h1 : k < sm_al a) : sm_at C X 28 50 ls (.int (nI k) :: .ref a :: st) N I L P = sm_at C X 28 51 ls (.int (I a k) :: st) N I L P := st_iald b28 dX2_survey_50 h h1
theorem s28_51 : sm_at C X 28 51 ls (.int x0 :: .ref a :: st) N I L P = sm_at C X 28 52 ls (.int x0 :: .ref a :: .int x0 :: .ref a :: st) N I L P := st_go b28 dX2_survey_51 (by decide) rfl
theorem s28_52 (h : a < N) (h1 : k < sm_al a) : sm_at C X 28 52 ls (.int (nI k) :: .ref a :: st) N I L P = sm_at C X 28 53 ls (.int (I a k) :: st) N I L P := st_iald b28 dX2_survey_52 h h1
theorem s28_53 : sm_at C X 28 53 [some (.ref a), l1, l2] st N I L P = sm_at C X 28 54 [some (.ref a), l1, l2] (.ref a :: st) N I L P := st_go b28 dX2_survey_53 (by decide) rfl
theorem s28_54 (h : a < N) (h1 : sm_lay a = .inl 2) : sm_at C X 28 54 ls (.ref a :: st) N I L P = sm_at C X 28 57 ls (va_rf (P a 1) :: st) N I L P := st_gfR b28 dX2_survey_54 rfl rfl h h1
theorem s28_57 : sm_at C X 28 57 [l0, l1, some (.int x0)] st N I L P = sm_at C X 28 58 [l0, l1, some (.int x0)] (.int x0 :: st) N I L P := st_go b28 dX2_survey_57 (by decide) rfl
theorem s28_58 (h : a < N) (h1 : k < sm_al a) : sm_at C X 28 58 ls (.int (nI k) :: .ref a :: st) N I L P = sm_at C X 28 59 ls (.int (I a k) :: st) N I L P := st_iald b28 dX2_survey_58 h h1
theorem s28_59 : sm_at C X 28 59 ls (.int x0 :: .int x1 :: st) N I L P = sm_at C X 28 60 ls (.int (x1 &&& x0) :: st) N I L P := st_go b28 dX2_survey_59 (by decide) rfl
theorem s28_60 (h : a < N) (h1 : k < sm_al a) : sm_at C X 28 60 ls (.int x0 :: .int (nI k) :: .ref a :: st) N I L P = sm_at C X 28 61 ls st N (sm_up I a k x0) L P := st_iast b28 dX2_survey_60 h h1
theorem s28_61 : sm_at C X 28 61 [l0, l1, some (.int x0)] st N I L P = sm_at C X 28 64 [l0, sm_cl l1, some (.int (x0 + (nI 1)))] st N I L P := st_go b28 dX2_survey_61 (by decide) rfl
theorem s28_64 : sm_at C X 28 64 ls st N I L P = sm_at C X 28 27 ls st N I L P := st_go b28 dX2_survey_64 (by decide) rfl
theorem s28_67 : sm_at C X 28 67 [some (.ref a), l1, l2] st N I L P = sm_at C X 28 68 [some (.ref a), l1, l2] (.ref a :: st) N I L P := st_go b28 dX2_survey_67 (by decide) rfl
theorem s28_68 : sm_at C X 28 68 [l0, some (.int x0), l2] st N I L P = sm_at C X 28 69 [l0, some (.int x0), l2] (.int x0 :: st) N I L P := st_go b28 dX2_survey_68 (by decide) rfl
theorem s28_69 : sm_at C X 28 69 [some (.ref a), l1, l2] st N I L P = sm_at C X 28 70 [some (.ref a), l1, l2] (.ref a :: st) N I L P := st_go b28 dX2_survey_69 (by decide) rfl
theorem s28_70 (h : a < N) (h1 : sm_lay a = .inl 2) : sm_at C X 28 70 ls (.ref a :: st) N I L P = sm_at C X 28 73 ls (.int (I a 4) :: st) N I L P := st_gfI b28 dX2_survey_70 rfl rfl h h1
theorem s28_73 : sm_at C X 28 73 ls st N I L P = sm_at C X 28 74 ls (.int (nI 2) :: st) N I L P := st_go b28 dX2_survey_73 (by decide) rfl
theorem s28_74 (h : ¬ x0 = 0) : sm_at C X 28 74 ls (.int x0 :: .int x1 :: st) N I L P = sm_at C X 28 75 ls (.int (x1 / x0) :: st) N I L P := st_idiv b28 dX2_survey_74 h
theorem s28_75 (h : a < N) (h1 : sm_lay a = .inl 2) : sm_at C X 28 75 ls [w2, w1, .ref a] N I L P = sm_af C X 28 78 ls [] (C 30 [.ref a, w1, w2] N I L P) := st_virt b28 dX2_survey_75 (n := 3) (rest := []) rfl rfl rfl rfl rfl rfl rfl h h1
theorem s28_78 : sm_at C X 28 78 ls [.int x0] N I L P = some (some (.int x0), N, I, L, P) := st_iret b28 dX2_survey_78 rfl
theorem b29 : sm_b 29 = cX2_onlyTwin := rfl
theorem s29_0 : sm_at C X 29 0 [l0, some (.int x0)] st N I L P = sm_at C X 29 1 [l0, some (.int x0)] (.int x0 :: st) N I L P := st_go b29 dX2_onlyTwin_0 (by decide) rfl
theorem s29_1 : sm_at C X 29 1 ls (.int x0 :: st) N I L P = if x0 < 0 then sm_at C X 29 25 ls st N I L P else sm_at C X 29 4 ls st N I L P := st_br b29 dX2_onlyTwin_1 (by decide) rfl
theorem s29_4 : sm_at C X 29 4 [l0, some (.int x0)] st N I L P = sm_at C X 29 5 [l0, some (.int x0)] (.int x0 :: st) N I L P := st_go b29 dX2_onlyTwin_4 (by decide) rfl
theorem s29_5 : sm_at C X 29 5 [some (.ref a), l1] st N I L P = sm_at C X 29 6 [some (.ref a), l1] (.ref a :: st) N I L P := st_go b29 dX2_onlyTwin_5 (by decide) rfl
theorem s29_6 (h : a < N) (h1 : sm_lay a = .inl 2) : sm_at C X 29 6 ls (.ref a :: st) N I L P = sm_at C X 29 9 ls (.int (I a 4) :: st) N I L P := st_gfI b29 dX2_onlyTwin_6 rfl rfl h h1
theorem s29_9 : sm_at C X 29 9 ls (.int x0 :: .int x1 :: st) N I L P = if x0 ≤ x1 then sm_at C X 29 25 ls st N I L P else sm_at C X 29 12 ls st N I L P := st_br b29 dX2_onlyTwin_9 (by decide) rfl
theorem s29_12 : sm_at C X 29 12 [some (.ref a), l1] st N I L P = sm_at C X 29 13 [some (.ref a), l1] (.ref a :: st) N I L P := st_go b29 dX2_onlyTwin_12 (by decide) rfl
theorem s29_13 (h : a < N) (h1 : sm_lay a = .inl 2) : sm_at C X 29 13 ls (.ref a :: st) N I L P = sm_at C X 29 16 ls (va_rf (P a 3) :: st) N I L P := st_gfR b29 dX2_onlyTwin_13 rfl rfl h h1
theorem s29_16 : sm_at C X 29 16 [l0, some (.int x0)] st N I L P = sm_at C X 29 17 [l0, some (.int x0)] (.int x0 :: st) N I L P := st_go b29 dX2_onlyTwin_16 (by decide) rfl
theorem s29_17 (h : a < N) (h1 : k < sm_al a) : sm_at C X 29 17 ls (.int (nI k) :: .ref a :: st) N I L P = sm_at C X 29 18 ls (.int (I a k) :: st) N I L P := st_iald b29 dX2_onlyTwin_17 h h1
theorem s29_18 : sm_at C X 29 18 ls [w0] N I L P = sm_af C X 29 21 ls [] (C 213 [w0] N I L P) := st_stat b29 dX2_onlyTwin_18 (n := 1) (rest := []) rfl rfl rfl rfl rfl rfl
theorem s29_21 : sm_at C X 29 21 ls st N I L P = sm_at C X 29 22 ls (.int (nI 1) :: st) N I L P := st_go b29 dX2_onlyTwin_21 (by decide) rfl
theorem s29_22 : sm_at C X 29 22 ls (.int x0 :: .int x1 :: st) N I L P = if x1 = x0 then sm_at C X 29 27 ls st N I L P else sm_at C X 29 25 ls st N I L P := st_br b29 dX2_onlyTwin_22 (by decide) rfl
theorem s29_25 : sm_at C X 29 25 ls st N I L P = sm_at C X 29 26 ls (.int (-1) :: st) N I L P := st_go b29 dX2_onlyTwin_25 (by decide) rfl
theorem s29_26 : sm_at C X 29 26 ls [.int x0] N I L P = some (some (.int x0), N, I, L, P) := st_iret b29 dX2_onlyTwin_26 rfl
theorem s29_27 : sm_at C X 29 27 [some (.ref a), l1] st N I L P = sm_at C X 29 28 [some (.ref a), l1] (.ref a :: st) N I L P := st_go b29 dX2_onlyTwin_27 (by decide) rfl
theorem s29_28 (h : a < N) (h1 : sm_lay a = .inl 2) : sm_at C X 29 28 ls (.ref a :: st) N I L P = sm_at C X 29 31 ls (va_rf (P a 3) :: st) N I L P := st_gfR b29 dX2_onlyTwin_28 rfl rfl h h1
theorem s29_31 : sm_at C X 29 31 [l0, some (.int x0)] st N I L P = sm_at C X 29 32 [l0, some (.int x0)] (.int x0 :: st) N I L P := st_go b29 dX2_onlyTwin_31 (by decide) rfl
theorem s29_32 (h : a < N) (h1 : k < sm_al a) : sm_at C X 29 32 ls (.int (nI k) :: .ref a :: st) N I L P = sm_at C X 29 33 ls (.int (I a k) :: st) N I L P := st_iald b29 dX2_onlyTwin_32 h h1
theorem s29_33 : sm_at C X 29 33 ls [w0] N I L P = sm_af C X 29 36 ls [] (C 32 [w0] N I L P) := st_stat b29 dX2_onlyTwin_33 (n := 1) (rest := []) rfl rfl rfl rfl rfl rfl
theorem s29_36 : sm_at C X 29 36 ls [.int x0] N I L P = some (some (.int x0), N, I, L, P) := st_iret b29 dX2_onlyTwin_36 rfl
theorem b30 : sm_b 30 = cX2_pairUp := rfl
theorem s30_0 : sm_at C X 30 0 [l0, l1, some (.int x0), l3, l4, l5, l6] st N I L P = sm_at C X 30 1 [l0, l1, some (.int x0), l3, l4, l5, l6] (.int x0 :: st) N I L P := st_go b30 dX2_pairUp_0 (by decide) rfl
theorem s30_1 : sm_at C X 30 1 ls (.int x0 :: st) N I L P = if 0 < x0 then sm_at C X 30 6 ls st N I L P else sm_at C X 30 4 ls st N I L P := st_br b30 dX2_pairUp_1 (by decide) rfl
theorem s30_4 : sm_at C X 30 4 ls st N I L P = sm_at C X 30 5 ls (.int (nI 1) :: st) N I L P := st_go b30 dX2_pairUp_4 (by decide) rfl
theorem s30_5 : sm_at C X 30 5 ls [.int x0] N I L P = some (some (.int x0), N, I, L, P) := st_iret b30 dX2_pairUp_5 rfl
theorem s30_6 : sm_at C X 30 6 [l0, some (.int x0), l2, l3, l4, l5, l6] st N I L P = sm_at C X 30 7 [l0, some (.int x0), l2, l3, l4, l5, l6] (.int x0 :: st) N I L P := st_go b30 dX2_pairUp_6 (by decide) rfl
theorem s30_7 : sm_at C X 30 7 ls [w0] N I L P = sm_af C X 30 10 ls [] (C 32 [w0] N I L P) := st_stat b30 dX2_pairUp_7 (n := 1) (rest := []) rfl rfl rfl rfl rfl rfl
theorem s30_10 : sm_at C X 30 10 [l0, l1, l2, l3, l4, l5, l6] (.int x0 :: st) N I L P = sm_at C X 30 11 [l0, l1, sm_cl l2, some (.int x0), l4, l5, l6] st N I L P := st_go b30 dX2_pairUp_10 (by decide) rfl
theorem s30_11 : sm_at C X 30 11 ls st N I L P = sm_at C X 30 12 ls (.int (nI 0) :: st) N I L P := st_go b30 dX2_pairUp_11 (by decide) rfl
theorem s30_12 : sm_at C X 30 12 [l0, l1, l2, l3, l4, l5, l6] (.int x0 :: st) N I L P = sm_at C X 30 14 [l0, l1, l2, sm_cl l3, some (.int x0), l5, l6] st N I L P := st_go b30 dX2_pairUp_12 (by decide) rfl
theorem s30_14 : sm_at C X 30 14 [l0, l1, l2, some (.int x0), l4, l5, l6] st N I L P = sm_at C X 30 15 [l0, l1, l2, some (.int x0), l4, l5, l6] (.int x0 :: st) N I L P := st_go b30 dX2_pairUp_14 (by decide) rfl
theorem s30_15 : sm_at C X 30 15 ls st N I L P = sm_at C X 30 16 ls (.int (nI 1) :: st) N I L P := st_go b30 dX2_pairUp_15 (by decide) rfl
theorem s30_16 : sm_at C X 30 16 ls (.int x0 :: .int x1 :: st) N I L P = sm_at C X 30 17 ls (.int (x1 + x0) :: st) N I L P := st_go b30 dX2_pairUp_16 (by decide) rfl
theorem s30_17 : sm_at C X 30 17 [l0, l1, l2, l3, l4, l5, l6] (.int x0 :: st) N I L P = sm_at C X 30 19 [l0, l1, l2, l3, sm_cl l4, some (.int x0), l6] st N I L P := st_go b30 dX2_pairUp_17 (by decide) rfl
theorem s30_19 : sm_at C X 30 19 [l0, l1, l2, l3, l4, some (.int x0), l6] st N I L P = sm_at C X 30 21 [l0, l1, l2, l3, l4, some (.int x0), l6] (.int x0 :: st) N I L P := st_go b30 dX2_pairUp_19 (by decide) rfl
theorem s30_21 : sm_at C X 30 21 ls st N I L P = sm_at C X 30 23 ls (.int (nI 8) :: st) N I L P := st_go b30 dX2_pairUp_21 (by decide) rfl
theorem s30_23 : sm_at C X 30 23 ls (.int x0 :: .int x1 :: st) N I L P = if x0 ≤ x1 then sm_at C X 30 110 ls st N I L P else sm_at C X 30 26 ls st N I L P := st_br b30 dX2_pairUp_23 (by decide) rfl
theorem s30_26 : sm_at C X 30 26 [l0, some (.int x0), l2, l3, l4, l5, l6] st N I L P = sm_at C X 30 27 [l0, some (.int x0), l2, l3, l4, l5, l6] (.int x0 :: st) N I L P := st_go b30 dX2_pairUp_26 (by decide) rfl
theorem s30_27 : sm_at C X 30 27 [l0, l1, l2, l3, l4, some (.int x0), l6] st N I L P = sm_at C X 30 29 [l0, l1, l2, l3, l4, some (.int x0), l6] (.int x0 :: st) N I L P := st_go b30 dX2_pairUp_27 (by decide) rfl
theorem s30_29 : sm_at C X 30 29 ls [w1, w0] N I L P = sm_af C X 30 32 ls [] (C 140 [w0, w1] N I L P) := st_stat b30 dX2_pairUp_29 (n := 2) (rest := []) rfl rfl rfl rfl rfl rfl
theorem s30_32 : sm_at C X 30 32 ls (.int x0 :: st) N I L P = if x0 = 0 then sm_at C X 30 104 ls st N I L P else sm_at C X 30 35 ls st N I L P := st_br b30 dX2_pairUp_32 (by decide) rfl
theorem s30_35 : sm_at C X 30 35 [some (.ref a), l1, l2, l3, l4, l5, l6] st N I L P = sm_at C X 30 36 [some (.ref a), l1, l2, l3, l4, l5, l6] (.ref a :: st) N I L P := st_go b30 dX2_pairUp_35 (by decide) rfl
theorem s30_36 : sm_at C X 30 36 [l0, l1, l2, some (.int x0), l4, l5, l6] st N I L P = sm_at C X 30 37 [l0, l1, l2, some (.int x0), l4, l5, l6] (.int x0 :: st) N I L P := st_go b30 dX2_pairUp_36 (by decide) rfl
theorem s30_37 : sm_at C X 30 37 [l0, l1, l2, l3, l4, some (.int x0), l6] st N I L P = sm_at C X 30 39 [l0, l1, l2, l3, l4, some (.int x0), l6] (.int x0 :: st) N I L P := st_go b30 dX2_pairUp_37 (by decide) rfl
theorem s30_39 (h : a < N) (h1 : sm_lay a = .inl 2) : sm_at C X 30 39 ls [w2, w1, .ref a] N I L P = sm_af C X 30 42 ls [] (C 31 [.ref a, w1, w2] N I L P) := st_virt b30 dX2_pairUp_39 (n := 3) (rest := []) rfl rfl rfl rfl rfl rfl rfl h h1
theorem s30_42 : sm_at C X 30 42 ls (.int x0 :: st) N I L P = if x0 = 0 then sm_at C X 30 104 ls st N I L P else sm_at C X 30 45 ls st N I L P := st_br b30 dX2_pairUp_42 (by decide) rfl
theorem s30_45 : sm_at C X 30 45 [some (.ref a), l1, l2, l3, l4, l5, l6] st N I L P = sm_at C X 30 46 [some (.ref a), l1, l2, l3, l4, l5, l6] (.ref a :: st) N I L P := st_go b30 dX2_pairUp_45 (by decide) rfl
theorem s30_46 : sm_at C X 30 46 [l0, some (.int x0), l2, l3, l4, l5, l6] st N I L P = sm_at C X 30 47 [l0, some (.int x0), l2, l3, l4, l5, l6] (.int x0 :: st) N I L P := st_go b30 dX2_pairUp_46 (by decide) rfl
theorem s30_47 : sm_at C X 30 47 ls st N I L P = sm_at C X 30 48 ls (.int (nI 1) :: st) N I L P := st_go b30 dX2_pairUp_47 (by decide) rfl
theorem s30_48 : sm_at C X 30 48 [l0, l1, l2, some (.int x0), l4, l5, l6] st N I L P = sm_at C X 30 49 [l0, l1, l2, some (.int x0), l4, l5, l6] (.int x0 :: st) N I L P := st_go b30 dX2_pairUp_48 (by decide) rfl
theorem s30_49 : sm_at C X 30 49 ls (.int x0 :: .int x1 :: st) N I L P = sm_at C X 30 50 ls (.int (x1 <<< (x0 &&& 31)) :: st) N I L P := st_go b30 dX2_pairUp_49 (by decide) rfl
theorem s30_50 : sm_at C X 30 50 ls st N I L P = sm_at C X 30 51 ls (.int (nI 1) :: st) N I L P := st_go b30 dX2_pairUp_50 (by decide) rfl
theorem s30_51 : sm_at C X 30 51 [l0, l1, l2, l3, l4, some (.int x0), l6] st N I L P = sm_at C X 30 53 [l0, l1, l2, l3, l4, some (.int x0), l6] (.int x0 :: st) N I L P := st_go b30 dX2_pairUp_51 (by decide) rfl
theorem s30_53 : sm_at C X 30 53 ls (.int x0 :: .int x1 :: st) N I L P = sm_at C X 30 54 ls (.int (x1 <<< (x0 &&& 31)) :: st) N I L P := st_go b30 dX2_pairUp_53 (by decide) rfl
theorem s30_54 : sm_at C X 30 54 ls (.int x0 :: .int x1 :: st) N I L P = sm_at C X 30 55 ls (.int (x1 ||| x0) :: st) N I L P := st_go b30 dX2_pairUp_54 (by decide) rfl
theorem s30_55 : sm_at C X 30 55 ls st N I L P = sm_at C X 30 56 ls (.int (-1) :: st) N I L P := st_go b30 dX2_pairUp_55 (by decide) rfl
theorem s30_56 : sm_at C X 30 56 ls (.int x0 :: .int x1 :: st) N I L P = sm_at C X 30 57 ls (.int (x1 ^^^ x0) :: st) N I L P := st_go b30 dX2_pairUp_56 (by decide) rfl
theorem s30_57 : sm_at C X 30 57 ls (.int x0 :: .int x1 :: st) N I L P = sm_at C X 30 58 ls (.int (x1 &&& x0) :: st) N I L P := st_go b30 dX2_pairUp_57 (by decide) rfl
theorem s30_58 : sm_at C X 30 58 [l0, l1, some (.int x0), l3, l4, l5, l6] st N I L P = sm_at C X 30 59 [l0, l1, some (.int x0), l3, l4, l5, l6] (.int x0 :: st) N I L P := st_go b30 dX2_pairUp_58 (by decide) rfl
theorem s30_59 : sm_at C X 30 59 ls st N I L P = sm_at C X 30 60 ls (.int (nI 1) :: st) N I L P := st_go b30 dX2_pairUp_59 (by decide) rfl
theorem s30_60 : sm_at C X 30 60 ls (.int x0 :: .int x1 :: st) N I L P = sm_at C X 30 61 ls (.int (x1 - x0) :: st) N I L P := st_go b30 dX2_pairUp_60 (by decide) rfl
theorem s30_61 (h : a < N) (h1 : sm_lay a = .inl 2) : sm_at C X 30 61 ls [w2, w1, .ref a] N I L P = sm_af C X 30 64 ls [] (C 30 [.ref a, w1, w2] N I L P) := st_virt b30 dX2_pairUp_61 (n := 3) (rest := []) rfl rfl rfl rfl rfl rfl rfl h h1
theorem s30_64 : sm_at C X 30 64 [l0, l1, l2, l3, l4, l5, l6] (.int x0 :: st) N I L P = sm_at C X 30 66 [l0, l1, l2, l3, l4, sm_cl l5, some (.int x0)] st N I L P := st_go b30 dX2_pairUp_64 (by decide) rfl
theorem s30_66 : sm_at C X 30 66 [l0, l1, l2, l3, l4, l5, some (.int x0)] st N I L P = sm_at C X 30 68 [l0, l1, l2, l3, l4, l5, some (.int x0)] (.int x0 :: st) N I L P := st_go b30 dX2_pairUp_66 (by decide) rfl
theorem s30_68 : sm_at C X 30 68 ls (.int x0 :: st) N I L P = if x0 ≤ 0 then sm_at C X 30 97 ls st N I L P else sm_at C X 30 71 ls st N I L P := st_br b30 dX2_pairUp_68 (by decide) rfl
theorem s30_71 : sm_at C X 30 71 [some (.ref a), l1, l2, l3, l4, l5, l6] st N I L P = sm_at C X 30 72 [some (.ref a), l1, l2, l3, l4, l5, l6] (.ref a :: st) N I L P := st_go b30 dX2_pairUp_71 (by decide) rfl
theorem s30_72 (h : a < N) (h1 : sm_lay a = .inl 2) : sm_at C X 30 72 ls (.ref a :: st) N I L P = sm_at C X 30 75 ls (va_rf (P a 3) :: st) N I L P := st_gfR b30 dX2_pairUp_72 rfl rfl h h1
theorem s30_75 : sm_at C X 30 75 [l0, l1, l2, some (.int x0), l4, l5, l6] st N I L P = sm_at C X 30 76 [l0, l1, l2, some (.int x0), l4, l5, l6] (.int x0 :: st) N I L P := st_go b30 dX2_pairUp_75 (by decide) rfl
theorem s30_76 : sm_at C X 30 76 ls (.int x0 :: .ref a :: st) N I L P = sm_at C X 30 77 ls (.int x0 :: .ref a :: .int x0 :: .ref a :: st) N I L P := st_go b30 dX2_pairUp_76 (by decide) rfl
theorem s30_77 (h : a < N) (h1 : k < sm_al a) : sm_at C X 30 77 ls (.int (nI k) :: .ref a :: st) N I L P = sm_at C X 30 78 ls (.int (I a k) :: st) N I L P := st_iald b30 dX2_pairUp_77 h h1
theorem s30_78 : sm_at C X 30 78 ls st N I L P = sm_at C X 30 79 ls (.int (nI 1) :: st) N I L P := st_go b30 dX2_pairUp_78 (by decide) rfl
theorem s30_79 : sm_at C X 30 79 [l0, l1, l2, l3, l4, some (.int x0), l6] st N I L P = sm_at C X 30 81 [l0, l1, l2, l3, l4, some (.int x0), l6] (.int x0 :: st) N I L P := st_go b30 dX2_pairUp_79 (by decide) rfl
theorem s30_81 : sm_at C X 30 81 ls (.int x0 :: .int x1 :: st) N I L P = sm_at C X 30 82 ls (.int (x1 <<< (x0 &&& 31)) :: st) N I L P := st_go b30 dX2_pairUp_81 (by decide) rfl
theorem s30_82 : sm_at C X 30 82 ls (.int x0 :: .int x1 :: st) N I L P = sm_at C X 30 83 ls (.int (x1 ||| x0) :: st) N I L P := st_go b30 dX2_pairUp_82 (by decide) rfl
theorem s30_83 (h : a < N) (h1 : k < sm_al a) : sm_at C X 30 83 ls (.int x0 :: .int (nI k) :: .ref a :: st) N I L P = sm_at C X 30 84 ls st N (sm_up I a k x0) L P := st_iast b30 dX2_pairUp_83 h h1
theorem s30_84 : sm_at C X 30 84 [some (.ref a), l1, l2, l3, l4, l5, l6] st N I L P = sm_at C X 30 85 [some (.ref a), l1, l2, l3, l4, l5, l6] (.ref a :: st) N I L P := st_go b30 dX2_pairUp_84 (by decide) rfl
theorem s30_85 (h : a < N) (h1 : sm_lay a = .inl 2) : sm_at C X 30 85 ls (.ref a :: st) N I L P = sm_at C X 30 88 ls (va_rf (P a 3) :: st) N I L P := st_gfR b30 dX2_pairUp_85 rfl rfl h h1
theorem s30_88 : sm_at C X 30 88 [l0, l1, l2, l3, l4, some (.int x0), l6] st N I L P = sm_at C X 30 90 [l0, l1, l2, l3, l4, some (.int x0), l6] (.int x0 :: st) N I L P := st_go b30 dX2_pairUp_88 (by decide) rfl
theorem s30_90 : sm_at C X 30 90 ls (.int x0 :: .ref a :: st) N I L P = sm_at C X 30 91 ls (.int x0 :: .ref a :: .int x0 :: .ref a :: st) N I L P := st_go b30 dX2_pairUp_90 (by decide) rfl
theorem s30_91 (h : a < N) (h1 : k < sm_al a) : sm_at C X 30 91 ls (.int (nI k) :: .ref a :: st) N I L P = sm_at C X 30 92 ls (.int (I a k) :: st) N I L P := st_iald b30 dX2_pairUp_91 h h1
theorem s30_92 : sm_at C X 30 92 ls st N I L P = sm_at C X 30 93 ls (.int (nI 1) :: st) N I L P := st_go b30 dX2_pairUp_92 (by decide) rfl
theorem s30_93 : sm_at C X 30 93 [l0, l1, l2, some (.int x0), l4, l5, l6] st N I L P = sm_at C X 30 94 [l0, l1, l2, some (.int x0), l4, l5, l6] (.int x0 :: st) N I L P := st_go b30 dX2_pairUp_93 (by decide) rfl
theorem s30_94 : sm_at C X 30 94 ls (.int x0 :: .int x1 :: st) N I L P = sm_at C X 30 95 ls (.int (x1 <<< (x0 &&& 31)) :: st) N I L P := st_go b30 dX2_pairUp_94 (by decide) rfl
theorem s30_95 : sm_at C X 30 95 ls (.int x0 :: .int x1 :: st) N I L P = sm_at C X 30 96 ls (.int (x1 ||| x0) :: st) N I L P := st_go b30 dX2_pairUp_95 (by decide) rfl
theorem s30_96 (h : a < N) (h1 : k < sm_al a) : sm_at C X 30 96 ls (.int x0 :: .int (nI k) :: .ref a :: st) N I L P = sm_at C X 30 97 ls st N (sm_up I a k x0) L P := st_iast b30 dX2_pairUp_96 h h1
theorem s30_97 : sm_at C X 30 97 [l0, l1, l2, l3, some (.int x0), l5, l6] st N I L P = sm_at C X 30 99 [l0, l1, l2, l3, some (.int x0), l5, l6] (.int x0 :: st) N I L P := st_go b30 dX2_pairUp_97 (by decide) rfl
theorem s30_99 : sm_at C X 30 99 [l0, l1, l2, l3, l4, l5, some (.int x0)] st N I L P = sm_at C X 30 101 [l0, l1, l2, l3, l4, l5, some (.int x0)] (.int x0 :: st) N I L P := st_go b30 dX2_pairUp_99 (by decide) rfl
theorem s30_101 : sm_at C X 30 101 ls (.int x0 :: .int x1 :: st) N I L P = sm_at C X 30 102 ls (.int (x1 + x0) :: st) N I L P := st_go b30 dX2_pairUp_101 (by decide) rfl
theorem s30_102 : sm_at C X 30 102 [l0, l1, l2, l3, l4, l5, l6] (.int x0 :: st) N I L P = sm_at C X 30 104 [l0, l1, l2, sm_cl l3, some (.int x0), l5, l6] st N I L P := st_go b30 dX2_pairUp_102 (by decide) rfl
theorem s30_104 : sm_at C X 30 104 [l0, l1, l2, l3, l4, some (.int x0), l6] st N I L P = sm_at C X 30 107 [l0, l1, l2, l3, sm_cl l4, some (.int (x0 + (nI 1))), l6] st N I L P := st_go b30 dX2_pairUp_104 (by decide) rfl
theorem s30_107 : sm_at C X 30 107 ls st N I L P = sm_at C X 30 19 ls st N I L P := st_go b30 dX2_pairUp_107 (by decide) rfl
theorem s30_110 : sm_at C X 30 110 [l0, l1, l2, l3, some (.int x0), l5, l6] st N I L P = sm_at C X 30 112 [l0, l1, l2, l3, some (.int x0), l5, l6] (.int x0 :: st) N I L P := st_go b30 dX2_pairUp_110 (by decide) rfl
theorem s30_112 : sm_at C X 30 112 ls [.int x0] N I L P = some (some (.int x0), N, I, L, P) := st_iret b30 dX2_pairUp_112 rfl
theorem b31 : sm_b 31 = cX2_mayBeTwins := rfl
theorem s31_0 : sm_at C X 31 0 [some (.ref a), l1, l2] st N I L P = sm_at C X 31 1 [some (.ref a), l1, l2] (.ref a :: st) N I L P := st_go b31 dX2_mayBeTwins_0 (by decide) rfl
theorem s31_1 (h : a < N) (h1 : sm_lay a = .inl 2) : sm_at C X 31 1 ls (.ref a :: st) N I L P = sm_at C X 31 4 ls (va_rf (P a 2) :: st) N I L P := st_gfR b31 dX2_mayBeTwins_1 rfl rfl h h1
theorem s31_4 : sm_at C X 31 4 [l0, some (.int x0), l2] st N I L P = sm_at C X 31 5 [l0, some (.int x0), l2] (.int x0 :: st) N I L P := st_go b31 dX2_mayBeTwins_4 (by decide) rfl
theorem s31_5 (h : a < N) (h1 : k < sm_al a) : sm_at C X 31 5 ls (.int (nI k) :: .ref a :: st) N I L P = sm_at C X 31 6 ls (.int (I a k) :: st) N I L P := st_iald b31 dX2_mayBeTwins_5 h h1
theorem s31_6 : sm_at C X 31 6 [l0, l1, some (.int x0)] st N I L P = sm_at C X 31 7 [l0, l1, some (.int x0)] (.int x0 :: st) N I L P := st_go b31 dX2_mayBeTwins_6 (by decide) rfl
theorem s31_7 : sm_at C X 31 7 ls [w1, w0] N I L P = sm_af C X 31 10 ls [] (C 140 [w0, w1] N I L P) := st_stat b31 dX2_mayBeTwins_7 (n := 2) (rest := []) rfl rfl rfl rfl rfl rfl
theorem s31_10 : sm_at C X 31 10 ls (.int x0 :: st) N I L P = if x0 = 0 then sm_at C X 31 30 ls st N I L P else sm_at C X 31 13 ls st N I L P := st_br b31 dX2_mayBeTwins_10 (by decide) rfl
theorem s31_13 : sm_at C X 31 13 [some (.ref a), l1, l2] st N I L P = sm_at C X 31 14 [some (.ref a), l1, l2] (.ref a :: st) N I L P := st_go b31 dX2_mayBeTwins_13 (by decide) rfl
theorem s31_14 (h : a < N) (h1 : sm_lay a = .inl 2) : sm_at C X 31 14 ls (.ref a :: st) N I L P = sm_at C X 31 17 ls (va_rf (P a 2) :: st) N I L P := st_gfR b31 dX2_mayBeTwins_14 rfl rfl h h1
theorem s31_17 : sm_at C X 31 17 [l0, l1, some (.int x0)] st N I L P = sm_at C X 31 18 [l0, l1, some (.int x0)] (.int x0 :: st) N I L P := st_go b31 dX2_mayBeTwins_17 (by decide) rfl
theorem s31_18 (h : a < N) (h1 : k < sm_al a) : sm_at C X 31 18 ls (.int (nI k) :: .ref a :: st) N I L P = sm_at C X 31 19 ls (.int (I a k) :: st) N I L P := st_iald b31 dX2_mayBeTwins_18 h h1
theorem s31_19 : sm_at C X 31 19 [l0, some (.int x0), l2] st N I L P = sm_at C X 31 20 [l0, some (.int x0), l2] (.int x0 :: st) N I L P := st_go b31 dX2_mayBeTwins_19 (by decide) rfl
theorem s31_20 : sm_at C X 31 20 ls [w1, w0] N I L P = sm_af C X 31 23 ls [] (C 140 [w0, w1] N I L P) := st_stat b31 dX2_mayBeTwins_20 (n := 2) (rest := []) rfl rfl rfl rfl rfl rfl
theorem s31_23 : sm_at C X 31 23 ls (.int x0 :: st) N I L P = if x0 = 0 then sm_at C X 31 30 ls st N I L P else sm_at C X 31 26 ls st N I L P := st_br b31 dX2_mayBeTwins_23 (by decide) rfl
theorem s31_26 : sm_at C X 31 26 ls st N I L P = sm_at C X 31 27 ls (.int (nI 1) :: st) N I L P := st_go b31 dX2_mayBeTwins_26 (by decide) rfl
theorem s31_27 : sm_at C X 31 27 ls st N I L P = sm_at C X 31 31 ls st N I L P := st_go b31 dX2_mayBeTwins_27 (by decide) rfl
theorem s31_30 : sm_at C X 31 30 ls st N I L P = sm_at C X 31 31 ls (.int (nI 0) :: st) N I L P := st_go b31 dX2_mayBeTwins_30 (by decide) rfl
theorem s31_31 (h : x0 = 0 ∨ x0 = 1) : sm_at C X 31 31 ls [.int x0] N I L P = some (some (.int x0), N, I, L, P) := st_zret b31 dX2_mayBeTwins_31 rfl h
theorem b32 : sm_b 32 = cX2_firstOf := rfl
theorem s32_0 : sm_at C X 32 0 ls st N I L P = sm_at C X 32 1 ls (.int (nI 0) :: st) N I L P := st_go b32 dX2_firstOf_0 (by decide) rfl
theorem s32_1 : sm_at C X 32 1 [l0, l1] (.int x0 :: st) N I L P = sm_at C X 32 2 [sm_cl l0, some (.int x0)] st N I L P := st_go b32 dX2_firstOf_1 (by decide) rfl
theorem s32_2 : sm_at C X 32 2 [l0, some (.int x0)] st N I L P = sm_at C X 32 3 [l0, some (.int x0)] (.int x0 :: st) N I L P := st_go b32 dX2_firstOf_2 (by decide) rfl
theorem s32_3 : sm_at C X 32 3 ls st N I L P = sm_at C X 32 5 ls (.int (nI 7) :: st) N I L P := st_go b32 dX2_firstOf_3 (by decide) rfl
theorem s32_5 : sm_at C X 32 5 ls (.int x0 :: .int x1 :: st) N I L P = if x0 ≤ x1 then sm_at C X 32 24 ls st N I L P else sm_at C X 32 8 ls st N I L P := st_br b32 dX2_firstOf_5 (by decide) rfl
theorem s32_8 : sm_at C X 32 8 [some (.int x0), l1] st N I L P = sm_at C X 32 9 [some (.int x0), l1] (.int x0 :: st) N I L P := st_go b32 dX2_firstOf_8 (by decide) rfl
theorem s32_9 : sm_at C X 32 9 [l0, some (.int x0)] st N I L P = sm_at C X 32 10 [l0, some (.int x0)] (.int x0 :: st) N I L P := st_go b32 dX2_firstOf_9 (by decide) rfl
theorem s32_10 : sm_at C X 32 10 ls [w1, w0] N I L P = sm_af C X 32 13 ls [] (C 140 [w0, w1] N I L P) := st_stat b32 dX2_firstOf_10 (n := 2) (rest := []) rfl rfl rfl rfl rfl rfl
theorem s32_13 : sm_at C X 32 13 ls (.int x0 :: st) N I L P = if x0 = 0 then sm_at C X 32 18 ls st N I L P else sm_at C X 32 16 ls st N I L P := st_br b32 dX2_firstOf_13 (by decide) rfl
theorem s32_16 : sm_at C X 32 16 [l0, some (.int x0)] st N I L P = sm_at C X 32 17 [l0, some (.int x0)] (.int x0 :: st) N I L P := st_go b32 dX2_firstOf_16 (by decide) rfl
theorem s32_17 : sm_at C X 32 17 ls [.int x0] N I L P = some (some (.int x0), N, I, L, P) := st_iret b32 dX2_firstOf_17 rfl
theorem s32_18 : sm_at C X 32 18 [l0, some (.int x0)] st N I L P = sm_at C X 32 21 [sm_cl l0, some (.int (x0 + (nI 1)))] st N I L P := st_go b32 dX2_firstOf_18 (by decide) rfl
theorem s32_21 : sm_at C X 32 21 ls st N I L P = sm_at C X 32 2 ls st N I L P := st_go b32 dX2_firstOf_21 (by decide) rfl
theorem s32_24 : sm_at C X 32 24 ls st N I L P = sm_at C X 32 26 ls (.int (nI 7) :: st) N I L P := st_go b32 dX2_firstOf_24 (by decide) rfl
theorem s32_26 : sm_at C X 32 26 ls [.int x0] N I L P = some (some (.int x0), N, I, L, P) := st_iret b32 dX2_firstOf_26 rfl
end STX2
