section STX8
variable {C : sm_Cf} {X : sm_Xs} {ls : List (Option Value)} {st : List Value} {N : Nat} {I : sm_Im} {L : sm_Lm} {P : sm_Pm} {x0 x1 x2 : Int32} {z0 z1 : Int64} {a a2 k n : Nat} {f : Nat → Int32} {w0 w1 w2 w3 w4 w5 w6 v0 v1 v2 v3 v4 : Value} {l0 l1 l2 l3 l4 l5 l6 l7 l8 l9 l10 l11 l12 l13 l14 l15 l16 : Option Value}
theorem b73 : sm_b 73 = cX8_init := rfl
theorem s73_0 : sm_at C X 73 0 [some (.ref a)] st N I L P = sm_at C X 73 1 [some (.ref a)] (.ref a :: st) N I L P := st_go b73 dX8_init_0 (by decide) rfl
theorem s73_1 : sm_at C X 73 1 ls (.ref a :: []) N I L P = sm_at C X 73 4 ls [] N I L P := st_go b73 dX8_init_1 (by decide) rfl
theorem s73_4 : sm_at C X 73 4 [some (.ref a)] st N I L P = sm_at C X 73 5 [some (.ref a)] (.ref a :: st) N I L P := st_go b73 dX8_init_4 (by decide) rfl
theorem s73_5 : sm_at C X 73 5 ls st N I L P = sm_at C X 73 7 ls (.int (nI 12) :: st) N I L P := st_go b73 dX8_init_5 (by decide) rfl
theorem s73_7 (h : N < 81) (h1 : sm_lay N = .inr (.inl k)) (h2 : k < 1000) : sm_at C X 73 7 ls (.int (nI k) :: st) N I L P = sm_at C X 73 9 ls (.ref N :: st) (N + 1) (sm_z I N 0) L P := st_newa b73 dX8_init_7 h h1 h2
theorem s73_9 (h : a < N) (h1 : sm_lay a = .inl 8) : sm_at C X 73 9 ls (.ref a2 :: .ref a :: st) N I L P = sm_at C X 73 12 ls st N I L (sm_up P a 0 (some a2)) := st_pfR b73 dX8_init_9 rfl rfl (Or.inr ⟨rfl, rfl⟩) h h1
theorem s73_12 : sm_at C X 73 12 [some (.ref a)] st N I L P = sm_at C X 73 13 [some (.ref a)] (.ref a :: st) N I L P := st_go b73 dX8_init_12 (by decide) rfl
theorem s73_13 : sm_at C X 73 13 ls st N I L P = sm_at C X 73 15 ls (.int (nI 12) :: st) N I L P := st_go b73 dX8_init_13 (by decide) rfl
theorem s73_15 (h : N < 81) (h1 : sm_lay N = .inr (.inl k)) (h2 : k < 1000) : sm_at C X 73 15 ls (.int (nI k) :: st) N I L P = sm_at C X 73 17 ls (.ref N :: st) (N + 1) (sm_z I N 0) L P := st_newa b73 dX8_init_15 h h1 h2
theorem s73_17 (h : a < N) (h1 : sm_lay a = .inl 8) : sm_at C X 73 17 ls (.ref a2 :: .ref a :: st) N I L P = sm_at C X 73 20 ls st N I L (sm_up P a 1 (some a2)) := st_pfR b73 dX8_init_17 rfl rfl (Or.inr ⟨rfl, rfl⟩) h h1
theorem s73_20 : sm_at C X 73 20 [some (.ref a)] st N I L P = sm_at C X 73 21 [some (.ref a)] (.ref a :: st) N I L P := st_go b73 dX8_init_20 (by decide) rfl
theorem s73_21 : sm_at C X 73 21 ls st N I L P = sm_at C X 73 23 ls (.int (nI 110) :: st) N I L P := st_go b73 dX8_init_21 (by decide) rfl
theorem s73_23 (h : N < 81) (h1 : sm_lay N = .inr (.inl k)) (h2 : k < 1000) : sm_at C X 73 23 ls (.int (nI k) :: st) N I L P = sm_at C X 73 25 ls (.ref N :: st) (N + 1) (sm_z I N 0) L P := st_newa b73 dX8_init_23 h h1 h2
theorem s73_25 (h : a < N) (h1 : sm_lay a = .inl 8) : sm_at C X 73 25 ls (.ref a2 :: .ref a :: st) N I L P = sm_at C X 73 28 ls st N I L (sm_up P a 2 (some a2)) := st_pfR b73 dX8_init_25 rfl rfl (Or.inr ⟨rfl, rfl⟩) h h1
theorem s73_28 : sm_at C X 73 28 ls [] N I L P = some (none, N, I, L, P) := st_ret b73 dX8_init_28 (by decide) rfl
theorem b74 : sm_b 74 = cX8_size := rfl
theorem s74_0 : sm_at C X 74 0 [some (.ref a)] st N I L P = sm_at C X 74 1 [some (.ref a)] (.ref a :: st) N I L P := st_go b74 dX8_size_0 (by decide) rfl
theorem s74_1 (h : a < N) (h1 : sm_lay a = .inl 8) : sm_at C X 74 1 ls (.ref a :: st) N I L P = sm_at C X 74 4 ls (.int (I a 3) :: st) N I L P := st_gfI b74 dX8_size_1 rfl rfl h h1
theorem s74_4 : sm_at C X 74 4 ls [.int x0] N I L P = some (some (.int x0), N, I, L, P) := st_iret b74 dX8_size_4 rfl
theorem b75 : sm_b 75 = cX8_clear := rfl
theorem s75_0 : sm_at C X 75 0 [some (.ref a)] st N I L P = sm_at C X 75 1 [some (.ref a)] (.ref a :: st) N I L P := st_go b75 dX8_clear_0 (by decide) rfl
theorem s75_1 : sm_at C X 75 1 ls st N I L P = sm_at C X 75 2 ls (.int (nI 0) :: st) N I L P := st_go b75 dX8_clear_1 (by decide) rfl
theorem s75_2 (h : a < N) (h1 : sm_lay a = .inl 8) : sm_at C X 75 2 ls (.int x0 :: .ref a :: st) N I L P = sm_at C X 75 5 ls st N (sm_up I a 3 x0) L P := st_pfI b75 dX8_clear_2 rfl rfl rfl h h1
theorem s75_5 : sm_at C X 75 5 ls [] N I L P = some (none, N, I, L, P) := st_ret b75 dX8_clear_5 (by decide) rfl
theorem b76 : sm_b 76 = cX8_add := rfl
theorem s76_0 : sm_at C X 76 0 [some (.ref a), l1, l2] st N I L P = sm_at C X 76 1 [some (.ref a), l1, l2] (.ref a :: st) N I L P := st_go b76 dX8_add_0 (by decide) rfl
theorem s76_1 (h : a < N) (h1 : sm_lay a = .inl 8) : sm_at C X 76 1 ls (.ref a :: st) N I L P = sm_at C X 76 4 ls (.int (I a 3) :: st) N I L P := st_gfI b76 dX8_add_1 rfl rfl h h1
theorem s76_4 : sm_at C X 76 4 ls st N I L P = sm_at C X 76 6 ls (.int (nI 12) :: st) N I L P := st_go b76 dX8_add_4 (by decide) rfl
theorem s76_6 : sm_at C X 76 6 ls (.int x0 :: .int x1 :: st) N I L P = if x1 < x0 then sm_at C X 76 12 ls st N I L P else sm_at C X 76 9 ls st N I L P := st_br b76 dX8_add_6 (by decide) rfl
theorem s76_9 : sm_at C X 76 9 ls st N I L P = sm_at C X 76 11 ls (.int (-104) :: st) N I L P := st_go b76 dX8_add_9 (by decide) rfl
theorem s76_11 : sm_at C X 76 11 ls [.int x0] N I L P = some (some (.int x0), N, I, L, P) := st_iret b76 dX8_add_11 rfl
theorem s76_12 : sm_at C X 76 12 [some (.ref a), l1, l2] st N I L P = sm_at C X 76 13 [some (.ref a), l1, l2] (.ref a :: st) N I L P := st_go b76 dX8_add_12 (by decide) rfl
theorem s76_13 (h : a < N) (h1 : sm_lay a = .inl 8) : sm_at C X 76 13 ls (.ref a :: st) N I L P = sm_at C X 76 16 ls (va_rf (P a 0) :: st) N I L P := st_gfR b76 dX8_add_13 rfl rfl h h1
theorem s76_16 : sm_at C X 76 16 [some (.ref a), l1, l2] st N I L P = sm_at C X 76 17 [some (.ref a), l1, l2] (.ref a :: st) N I L P := st_go b76 dX8_add_16 (by decide) rfl
theorem s76_17 (h : a < N) (h1 : sm_lay a = .inl 8) : sm_at C X 76 17 ls (.ref a :: st) N I L P = sm_at C X 76 20 ls (.int (I a 3) :: st) N I L P := st_gfI b76 dX8_add_17 rfl rfl h h1
theorem s76_20 : sm_at C X 76 20 [l0, some (.int x0), l2] st N I L P = sm_at C X 76 21 [l0, some (.int x0), l2] (.int x0 :: st) N I L P := st_go b76 dX8_add_20 (by decide) rfl
theorem s76_21 (h : a < N) (h1 : k < sm_al a) : sm_at C X 76 21 ls (.int x0 :: .int (nI k) :: .ref a :: st) N I L P = sm_at C X 76 22 ls st N (sm_up I a k x0) L P := st_iast b76 dX8_add_21 h h1
theorem s76_22 : sm_at C X 76 22 [some (.ref a), l1, l2] st N I L P = sm_at C X 76 23 [some (.ref a), l1, l2] (.ref a :: st) N I L P := st_go b76 dX8_add_22 (by decide) rfl
theorem s76_23 (h : a < N) (h1 : sm_lay a = .inl 8) : sm_at C X 76 23 ls (.ref a :: st) N I L P = sm_at C X 76 26 ls (va_rf (P a 1) :: st) N I L P := st_gfR b76 dX8_add_23 rfl rfl h h1
theorem s76_26 : sm_at C X 76 26 [some (.ref a), l1, l2] st N I L P = sm_at C X 76 27 [some (.ref a), l1, l2] (.ref a :: st) N I L P := st_go b76 dX8_add_26 (by decide) rfl
theorem s76_27 (h : a < N) (h1 : sm_lay a = .inl 8) : sm_at C X 76 27 ls (.ref a :: st) N I L P = sm_at C X 76 30 ls (.int (I a 3) :: st) N I L P := st_gfI b76 dX8_add_27 rfl rfl h h1
theorem s76_30 : sm_at C X 76 30 [l0, l1, some (.int x0)] st N I L P = sm_at C X 76 31 [l0, l1, some (.int x0)] (.int x0 :: st) N I L P := st_go b76 dX8_add_30 (by decide) rfl
theorem s76_31 (h : a < N) (h1 : k < sm_al a) : sm_at C X 76 31 ls (.int x0 :: .int (nI k) :: .ref a :: st) N I L P = sm_at C X 76 32 ls st N (sm_up I a k x0) L P := st_iast b76 dX8_add_31 h h1
theorem s76_32 : sm_at C X 76 32 [some (.ref a), l1, l2] st N I L P = sm_at C X 76 33 [some (.ref a), l1, l2] (.ref a :: st) N I L P := st_go b76 dX8_add_32 (by decide) rfl
theorem s76_33 : sm_at C X 76 33 ls (.ref a :: st) N I L P = sm_at C X 76 34 ls (.ref a :: .ref a :: st) N I L P := st_go b76 dX8_add_33 (by decide) rfl
theorem s76_34 (h : a < N) (h1 : sm_lay a = .inl 8) : sm_at C X 76 34 ls (.ref a :: st) N I L P = sm_at C X 76 37 ls (.int (I a 3) :: st) N I L P := st_gfI b76 dX8_add_34 rfl rfl h h1
theorem s76_37 : sm_at C X 76 37 ls st N I L P = sm_at C X 76 38 ls (.int (nI 1) :: st) N I L P := st_go b76 dX8_add_37 (by decide) rfl
theorem s76_38 : sm_at C X 76 38 ls (.int x0 :: .int x1 :: st) N I L P = sm_at C X 76 39 ls (.int (x1 + x0) :: st) N I L P := st_go b76 dX8_add_38 (by decide) rfl
theorem s76_39 (h : a < N) (h1 : sm_lay a = .inl 8) : sm_at C X 76 39 ls (.int x0 :: .ref a :: st) N I L P = sm_at C X 76 42 ls st N (sm_up I a 3 x0) L P := st_pfI b76 dX8_add_39 rfl rfl rfl h h1
theorem s76_42 : sm_at C X 76 42 [some (.ref a), l1, l2] st N I L P = sm_at C X 76 43 [some (.ref a), l1, l2] (.ref a :: st) N I L P := st_go b76 dX8_add_42 (by decide) rfl
theorem s76_43 (h : a < N) (h1 : sm_lay a = .inl 8) : sm_at C X 76 43 ls (.ref a :: st) N I L P = sm_at C X 76 46 ls (.int (I a 3) :: st) N I L P := st_gfI b76 dX8_add_43 rfl rfl h h1
theorem s76_46 : sm_at C X 76 46 ls [.int x0] N I L P = some (some (.int x0), N, I, L, P) := st_iret b76 dX8_add_46 rfl
theorem b77 : sm_b 77 = cX8_copyFrom := rfl
theorem s77_0 : sm_at C X 77 0 [l0, some (.ref a)] st N I L P = sm_at C X 77 1 [l0, some (.ref a)] (.ref a :: st) N I L P := st_go b77 dX8_copyFrom_0 (by decide) rfl
theorem s77_0n : sm_at C X 77 0 [l0, some .null] st N I L P = sm_at C X 77 1 [l0, some .null] (.null :: st) N I L P := st_go b77 dX8_copyFrom_0 (by decide) rfl
theorem s77_1 (h : a < N) (h1 : sm_lay a = .inl 8) : sm_at C X 77 1 ls (.ref a :: st) N I L P = sm_at C X 77 4 ls (va_rf (P a 0) :: st) N I L P := st_gfR b77 dX8_copyFrom_1 rfl rfl h h1
theorem s77_4 : sm_at C X 77 4 ls st N I L P = sm_at C X 77 5 ls (.int (nI 0) :: st) N I L P := st_go b77 dX8_copyFrom_4 (by decide) rfl
theorem s77_5 : sm_at C X 77 5 [some (.ref a), l1] st N I L P = sm_at C X 77 6 [some (.ref a), l1] (.ref a :: st) N I L P := st_go b77 dX8_copyFrom_5 (by decide) rfl
theorem s77_6 (h : a < N) (h1 : sm_lay a = .inl 8) : sm_at C X 77 6 ls (.ref a :: st) N I L P = sm_at C X 77 9 ls (va_rf (P a 0) :: st) N I L P := st_gfR b77 dX8_copyFrom_6 rfl rfl h h1
theorem s77_9 : sm_at C X 77 9 ls st N I L P = sm_at C X 77 10 ls (.int (nI 0) :: st) N I L P := st_go b77 dX8_copyFrom_9 (by decide) rfl
theorem s77_10 : sm_at C X 77 10 ls st N I L P = sm_at C X 77 12 ls (.int (nI 12) :: st) N I L P := st_go b77 dX8_copyFrom_10 (by decide) rfl
theorem s77_12 (h : a < N) (h1 : a2 < N) (h2 : k ≤ sm_al a) (h3 : k ≤ sm_al a2) (h4 : 0 < k) : sm_at C X 77 12 ls [.int (nI k), .int (nI 0), .ref a, .int (nI 0), .ref a2] N I L P = sm_at C X 77 15 ls [] N (sm_row I a (va_cpy (I a2) (I a) 0 0 k)) L P := st_copy b77 dX8_copyFrom_12 rfl rfl h h1 h2 h3 h4
theorem s77_15 : sm_at C X 77 15 [l0, some (.ref a)] st N I L P = sm_at C X 77 16 [l0, some (.ref a)] (.ref a :: st) N I L P := st_go b77 dX8_copyFrom_15 (by decide) rfl
theorem s77_15n : sm_at C X 77 15 [l0, some .null] st N I L P = sm_at C X 77 16 [l0, some .null] (.null :: st) N I L P := st_go b77 dX8_copyFrom_15 (by decide) rfl
theorem s77_16 (h : a < N) (h1 : sm_lay a = .inl 8) : sm_at C X 77 16 ls (.ref a :: st) N I L P = sm_at C X 77 19 ls (va_rf (P a 1) :: st) N I L P := st_gfR b77 dX8_copyFrom_16 rfl rfl h h1
theorem s77_19 : sm_at C X 77 19 ls st N I L P = sm_at C X 77 20 ls (.int (nI 0) :: st) N I L P := st_go b77 dX8_copyFrom_19 (by decide) rfl
theorem s77_20 : sm_at C X 77 20 [some (.ref a), l1] st N I L P = sm_at C X 77 21 [some (.ref a), l1] (.ref a :: st) N I L P := st_go b77 dX8_copyFrom_20 (by decide) rfl
theorem s77_21 (h : a < N) (h1 : sm_lay a = .inl 8) : sm_at C X 77 21 ls (.ref a :: st) N I L P = sm_at C X 77 24 ls (va_rf (P a 1) :: st) N I L P := st_gfR b77 dX8_copyFrom_21 rfl rfl h h1
theorem s77_24 : sm_at C X 77 24 ls st N I L P = sm_at C X 77 25 ls (.int (nI 0) :: st) N I L P := st_go b77 dX8_copyFrom_24 (by decide) rfl
theorem s77_25 : sm_at C X 77 25 ls st N I L P = sm_at C X 77 27 ls (.int (nI 12) :: st) N I L P := st_go b77 dX8_copyFrom_25 (by decide) rfl
theorem s77_27 (h : a < N) (h1 : a2 < N) (h2 : k ≤ sm_al a) (h3 : k ≤ sm_al a2) (h4 : 0 < k) : sm_at C X 77 27 ls [.int (nI k), .int (nI 0), .ref a, .int (nI 0), .ref a2] N I L P = sm_at C X 77 30 ls [] N (sm_row I a (va_cpy (I a2) (I a) 0 0 k)) L P := st_copy b77 dX8_copyFrom_27 rfl rfl h h1 h2 h3 h4
theorem s77_30 : sm_at C X 77 30 [some (.ref a), l1] st N I L P = sm_at C X 77 31 [some (.ref a), l1] (.ref a :: st) N I L P := st_go b77 dX8_copyFrom_30 (by decide) rfl
theorem s77_31 : sm_at C X 77 31 [l0, some (.ref a)] st N I L P = sm_at C X 77 32 [l0, some (.ref a)] (.ref a :: st) N I L P := st_go b77 dX8_copyFrom_31 (by decide) rfl
theorem s77_31n : sm_at C X 77 31 [l0, some .null] st N I L P = sm_at C X 77 32 [l0, some .null] (.null :: st) N I L P := st_go b77 dX8_copyFrom_31 (by decide) rfl
theorem s77_32 (h : a < N) (h1 : sm_lay a = .inl 8) : sm_at C X 77 32 ls (.ref a :: st) N I L P = sm_at C X 77 35 ls (.int (I a 3) :: st) N I L P := st_gfI b77 dX8_copyFrom_32 rfl rfl h h1
theorem s77_35 (h : a < N) (h1 : sm_lay a = .inl 8) : sm_at C X 77 35 ls (.int x0 :: .ref a :: st) N I L P = sm_at C X 77 38 ls st N (sm_up I a 3 x0) L P := st_pfI b77 dX8_copyFrom_35 rfl rfl rfl h h1
theorem s77_38 : sm_at C X 77 38 ls [] N I L P = some (none, N, I, L, P) := st_ret b77 dX8_copyFrom_38 (by decide) rfl
theorem b78 : sm_b 78 = cX8_ofPerson := rfl
theorem s78_0 : sm_at C X 78 0 ls st N I L P = sm_at C X 78 1 ls (.int (nI 0) :: st) N I L P := st_go b78 dX8_ofPerson_0 (by decide) rfl
theorem s78_1 : sm_at C X 78 1 [l0, l1, l2, l3] (.int x0 :: st) N I L P = sm_at C X 78 2 [l0, sm_cl l1, some (.int x0), l3] st N I L P := st_go b78 dX8_ofPerson_1 (by decide) rfl
theorem s78_2 : sm_at C X 78 2 ls st N I L P = sm_at C X 78 3 ls (.int (nI 0) :: st) N I L P := st_go b78 dX8_ofPerson_2 (by decide) rfl
theorem s78_3 : sm_at C X 78 3 [l0, l1, l2, l3] (.int x0 :: st) N I L P = sm_at C X 78 4 [l0, l1, sm_cl l2, some (.int x0)] st N I L P := st_go b78 dX8_ofPerson_3 (by decide) rfl
theorem s78_4 : sm_at C X 78 4 [l0, l1, l2, some (.int x0)] st N I L P = sm_at C X 78 5 [l0, l1, l2, some (.int x0)] (.int x0 :: st) N I L P := st_go b78 dX8_ofPerson_4 (by decide) rfl
theorem s78_5 : sm_at C X 78 5 [some (.ref a), l1, l2, l3] st N I L P = sm_at C X 78 6 [some (.ref a), l1, l2, l3] (.ref a :: st) N I L P := st_go b78 dX8_ofPerson_5 (by decide) rfl
theorem s78_6 (h : a < N) (h1 : sm_lay a = .inl 8) : sm_at C X 78 6 ls (.ref a :: st) N I L P = sm_at C X 78 9 ls (.int (I a 3) :: st) N I L P := st_gfI b78 dX8_ofPerson_6 rfl rfl h h1
theorem s78_9 : sm_at C X 78 9 ls (.int x0 :: .int x1 :: st) N I L P = if x0 ≤ x1 then sm_at C X 78 37 ls st N I L P else sm_at C X 78 12 ls st N I L P := st_br b78 dX8_ofPerson_9 (by decide) rfl
theorem s78_12 : sm_at C X 78 12 [l0, l1, l2, some (.int x0)] st N I L P = sm_at C X 78 13 [l0, l1, l2, some (.int x0)] (.int x0 :: st) N I L P := st_go b78 dX8_ofPerson_12 (by decide) rfl
theorem s78_13 : sm_at C X 78 13 ls st N I L P = sm_at C X 78 15 ls (.int (nI 12) :: st) N I L P := st_go b78 dX8_ofPerson_13 (by decide) rfl
theorem s78_15 : sm_at C X 78 15 ls (.int x0 :: .int x1 :: st) N I L P = if x0 ≤ x1 then sm_at C X 78 37 ls st N I L P else sm_at C X 78 18 ls st N I L P := st_br b78 dX8_ofPerson_15 (by decide) rfl
theorem s78_18 : sm_at C X 78 18 [some (.ref a), l1, l2, l3] st N I L P = sm_at C X 78 19 [some (.ref a), l1, l2, l3] (.ref a :: st) N I L P := st_go b78 dX8_ofPerson_18 (by decide) rfl
theorem s78_19 (h : a < N) (h1 : sm_lay a = .inl 8) : sm_at C X 78 19 ls (.ref a :: st) N I L P = sm_at C X 78 22 ls (va_rf (P a 0) :: st) N I L P := st_gfR b78 dX8_ofPerson_19 rfl rfl h h1
theorem s78_22 : sm_at C X 78 22 [l0, l1, l2, some (.int x0)] st N I L P = sm_at C X 78 23 [l0, l1, l2, some (.int x0)] (.int x0 :: st) N I L P := st_go b78 dX8_ofPerson_22 (by decide) rfl
theorem s78_23 (h : a < N) (h1 : k < sm_al a) : sm_at C X 78 23 ls (.int (nI k) :: .ref a :: st) N I L P = sm_at C X 78 24 ls (.int (I a k) :: st) N I L P := st_iald b78 dX8_ofPerson_23 h h1
theorem s78_24 : sm_at C X 78 24 [l0, some (.int x0), l2, l3] st N I L P = sm_at C X 78 25 [l0, some (.int x0), l2, l3] (.int x0 :: st) N I L P := st_go b78 dX8_ofPerson_24 (by decide) rfl
theorem s78_25 : sm_at C X 78 25 ls (.int x0 :: .int x1 :: st) N I L P = if ¬ x1 = x0 then sm_at C X 78 31 ls st N I L P else sm_at C X 78 28 ls st N I L P := st_br b78 dX8_ofPerson_25 (by decide) rfl
theorem s78_28 : sm_at C X 78 28 [l0, l1, some (.int x0), l3] st N I L P = sm_at C X 78 31 [l0, sm_cl l1, some (.int (x0 + (nI 1))), l3] st N I L P := st_go b78 dX8_ofPerson_28 (by decide) rfl
theorem s78_31 : sm_at C X 78 31 [l0, l1, l2, some (.int x0)] st N I L P = sm_at C X 78 34 [l0, l1, sm_cl l2, some (.int (x0 + (nI 1)))] st N I L P := st_go b78 dX8_ofPerson_31 (by decide) rfl
theorem s78_34 : sm_at C X 78 34 ls st N I L P = sm_at C X 78 4 ls st N I L P := st_go b78 dX8_ofPerson_34 (by decide) rfl
theorem s78_37 : sm_at C X 78 37 [l0, l1, some (.int x0), l3] st N I L P = sm_at C X 78 38 [l0, l1, some (.int x0), l3] (.int x0 :: st) N I L P := st_go b78 dX8_ofPerson_37 (by decide) rfl
theorem s78_38 : sm_at C X 78 38 ls [.int x0] N I L P = some (some (.int x0), N, I, L, P) := st_iret b78 dX8_ofPerson_38 rfl
theorem b79 : sm_b 79 = cX8_timesFelt := rfl
theorem s79_0 : sm_at C X 79 0 ls st N I L P = sm_at C X 79 1 ls (.int (nI 0) :: st) N I L P := st_go b79 dX8_timesFelt_0 (by decide) rfl
theorem s79_1 : sm_at C X 79 1 [l0, l1, l2, l3, l4, l5, l6, l7] (.int x0 :: st) N I L P = sm_at C X 79 3 [l0, l1, l2, l3, sm_cl l4, some (.int x0), l6, l7] st N I L P := st_go b79 dX8_timesFelt_1 (by decide) rfl
theorem s79_3 : sm_at C X 79 3 ls st N I L P = sm_at C X 79 4 ls (.int (nI 0) :: st) N I L P := st_go b79 dX8_timesFelt_3 (by decide) rfl
theorem s79_4 : sm_at C X 79 4 [l0, l1, l2, l3, l4, l5, l6, l7] (.int x0 :: st) N I L P = sm_at C X 79 6 [l0, l1, l2, l3, l4, sm_cl l5, some (.int x0), l7] st N I L P := st_go b79 dX8_timesFelt_4 (by decide) rfl
theorem s79_6 : sm_at C X 79 6 [l0, l1, l2, l3, l4, l5, some (.int x0), l7] st N I L P = sm_at C X 79 8 [l0, l1, l2, l3, l4, l5, some (.int x0), l7] (.int x0 :: st) N I L P := st_go b79 dX8_timesFelt_6 (by decide) rfl
theorem s79_8 : sm_at C X 79 8 [some (.ref a), l1, l2, l3, l4, l5, l6, l7] st N I L P = sm_at C X 79 9 [some (.ref a), l1, l2, l3, l4, l5, l6, l7] (.ref a :: st) N I L P := st_go b79 dX8_timesFelt_8 (by decide) rfl
theorem s79_9 (h : a < N) (h1 : sm_lay a = .inl 8) : sm_at C X 79 9 ls (.ref a :: st) N I L P = sm_at C X 79 12 ls (.int (I a 3) :: st) N I L P := st_gfI b79 dX8_timesFelt_9 rfl rfl h h1
theorem s79_12 : sm_at C X 79 12 ls (.int x0 :: .int x1 :: st) N I L P = if x0 ≤ x1 then sm_at C X 79 70 ls st N I L P else sm_at C X 79 15 ls st N I L P := st_br b79 dX8_timesFelt_12 (by decide) rfl
theorem s79_15 : sm_at C X 79 15 [l0, l1, l2, l3, l4, l5, some (.int x0), l7] st N I L P = sm_at C X 79 17 [l0, l1, l2, l3, l4, l5, some (.int x0), l7] (.int x0 :: st) N I L P := st_go b79 dX8_timesFelt_15 (by decide) rfl
theorem s79_17 : sm_at C X 79 17 ls st N I L P = sm_at C X 79 19 ls (.int (nI 12) :: st) N I L P := st_go b79 dX8_timesFelt_17 (by decide) rfl
theorem s79_19 : sm_at C X 79 19 ls (.int x0 :: .int x1 :: st) N I L P = if x0 ≤ x1 then sm_at C X 79 70 ls st N I L P else sm_at C X 79 22 ls st N I L P := st_br b79 dX8_timesFelt_19 (by decide) rfl
theorem s79_22 : sm_at C X 79 22 [l0, some (.ref a), l2, l3, l4, l5, l6, l7] st N I L P = sm_at C X 79 23 [l0, some (.ref a), l2, l3, l4, l5, l6, l7] (.ref a :: st) N I L P := st_go b79 dX8_timesFelt_22 (by decide) rfl
theorem s79_22n : sm_at C X 79 22 [l0, some .null, l2, l3, l4, l5, l6, l7] st N I L P = sm_at C X 79 23 [l0, some .null, l2, l3, l4, l5, l6, l7] (.null :: st) N I L P := st_go b79 dX8_timesFelt_22 (by decide) rfl
theorem s79_23 : sm_at C X 79 23 [some (.ref a), l1, l2, l3, l4, l5, l6, l7] st N I L P = sm_at C X 79 24 [some (.ref a), l1, l2, l3, l4, l5, l6, l7] (.ref a :: st) N I L P := st_go b79 dX8_timesFelt_23 (by decide) rfl
theorem s79_24 (h : a < N) (h1 : sm_lay a = .inl 8) : sm_at C X 79 24 ls (.ref a :: st) N I L P = sm_at C X 79 27 ls (va_rf (P a 0) :: st) N I L P := st_gfR b79 dX8_timesFelt_24 rfl rfl h h1
theorem s79_27 : sm_at C X 79 27 [l0, l1, l2, l3, l4, l5, some (.int x0), l7] st N I L P = sm_at C X 79 29 [l0, l1, l2, l3, l4, l5, some (.int x0), l7] (.int x0 :: st) N I L P := st_go b79 dX8_timesFelt_27 (by decide) rfl
theorem s79_29 (h : a < N) (h1 : k < sm_al a) : sm_at C X 79 29 ls (.int (nI k) :: .ref a :: st) N I L P = sm_at C X 79 30 ls (.int (I a k) :: st) N I L P := st_iald b79 dX8_timesFelt_29 h h1
theorem s79_30 : sm_at C X 79 30 [l0, l1, some (.int x0), l3, l4, l5, l6, l7] st N I L P = sm_at C X 79 31 [l0, l1, some (.int x0), l3, l4, l5, l6, l7] (.int x0 :: st) N I L P := st_go b79 dX8_timesFelt_30 (by decide) rfl
theorem s79_31 (h : a < N) (h1 : sm_lay a = .inl 6) : sm_at C X 79 31 ls [w2, w1, .ref a] N I L P = sm_af C X 79 34 ls [] (C 63 [.ref a, w1, w2] N I L P) := st_virt b79 dX8_timesFelt_31 (n := 3) (rest := []) rfl rfl rfl rfl rfl rfl rfl h h1
theorem s79_34 : sm_at C X 79 34 [l0, l1, l2, l3, l4, l5, l6, l7] (.int x0 :: st) N I L P = sm_at C X 79 36 [l0, l1, l2, l3, l4, l5, sm_cl l6, some (.int x0)] st N I L P := st_go b79 dX8_timesFelt_34 (by decide) rfl
theorem s79_36 : sm_at C X 79 36 [l0, l1, l2, l3, l4, l5, l6, some (.int x0)] st N I L P = sm_at C X 79 38 [l0, l1, l2, l3, l4, l5, l6, some (.int x0)] (.int x0 :: st) N I L P := st_go b79 dX8_timesFelt_36 (by decide) rfl
theorem s79_38 : sm_at C X 79 38 ls st N I L P = sm_at C X 79 39 ls (.int (-1) :: st) N I L P := st_go b79 dX8_timesFelt_38 (by decide) rfl
theorem s79_39 : sm_at C X 79 39 ls (.int x0 :: .int x1 :: st) N I L P = if x1 = x0 then sm_at C X 79 64 ls st N I L P else sm_at C X 79 42 ls st N I L P := st_br b79 dX8_timesFelt_39 (by decide) rfl
theorem s79_42 : sm_at C X 79 42 [some (.ref a), l1, l2, l3, l4, l5, l6, l7] st N I L P = sm_at C X 79 43 [some (.ref a), l1, l2, l3, l4, l5, l6, l7] (.ref a :: st) N I L P := st_go b79 dX8_timesFelt_42 (by decide) rfl
theorem s79_43 (h : a < N) (h1 : sm_lay a = .inl 8) : sm_at C X 79 43 ls (.ref a :: st) N I L P = sm_at C X 79 46 ls (va_rf (P a 1) :: st) N I L P := st_gfR b79 dX8_timesFelt_43 rfl rfl h h1
theorem s79_46 : sm_at C X 79 46 [l0, l1, l2, l3, l4, l5, some (.int x0), l7] st N I L P = sm_at C X 79 48 [l0, l1, l2, l3, l4, l5, some (.int x0), l7] (.int x0 :: st) N I L P := st_go b79 dX8_timesFelt_46 (by decide) rfl
theorem s79_48 (h : a < N) (h1 : k < sm_al a) : sm_at C X 79 48 ls (.int (nI k) :: .ref a :: st) N I L P = sm_at C X 79 49 ls (.int (I a k) :: st) N I L P := st_iald b79 dX8_timesFelt_48 h h1
theorem s79_49 : sm_at C X 79 49 [l0, l1, l2, l3, l4, l5, l6, some (.int x0)] st N I L P = sm_at C X 79 51 [l0, l1, l2, l3, l4, l5, l6, some (.int x0)] (.int x0 :: st) N I L P := st_go b79 dX8_timesFelt_49 (by decide) rfl
theorem s79_51 : sm_at C X 79 51 ls (.int x0 :: .int x1 :: st) N I L P = sm_at C X 79 52 ls (.int (x1 + x0) :: st) N I L P := st_go b79 dX8_timesFelt_51 (by decide) rfl
theorem s79_52 : sm_at C X 79 52 [l0, l1, l2, some (.int x0), l4, l5, l6, l7] st N I L P = sm_at C X 79 53 [l0, l1, l2, some (.int x0), l4, l5, l6, l7] (.int x0 :: st) N I L P := st_go b79 dX8_timesFelt_52 (by decide) rfl
theorem s79_53 : sm_at C X 79 53 [l0, l1, l2, l3, some (.int x0), l5, l6, l7] st N I L P = sm_at C X 79 55 [l0, l1, l2, l3, some (.int x0), l5, l6, l7] (.int x0 :: st) N I L P := st_go b79 dX8_timesFelt_53 (by decide) rfl
theorem s79_55 : sm_at C X 79 55 ls [w2, w1, w0] N I L P = sm_af C X 79 58 ls [] (C 132 [w0, w1, w2] N I L P) := st_stat b79 dX8_timesFelt_55 (n := 3) (rest := []) rfl rfl rfl rfl rfl rfl
theorem s79_58 : sm_at C X 79 58 ls (.int x0 :: st) N I L P = if x0 = 0 then sm_at C X 79 64 ls st N I L P else sm_at C X 79 61 ls st N I L P := st_br b79 dX8_timesFelt_58 (by decide) rfl
theorem s79_61 : sm_at C X 79 61 [l0, l1, l2, l3, l4, some (.int x0), l6, l7] st N I L P = sm_at C X 79 64 [l0, l1, l2, l3, sm_cl l4, some (.int (x0 + (nI 1))), l6, l7] st N I L P := st_go b79 dX8_timesFelt_61 (by decide) rfl
theorem s79_64 : sm_at C X 79 64 [l0, l1, l2, l3, l4, l5, some (.int x0), l7] st N I L P = sm_at C X 79 67 [l0, l1, l2, l3, l4, sm_cl l5, some (.int (x0 + (nI 1))), l7] st N I L P := st_go b79 dX8_timesFelt_64 (by decide) rfl
theorem s79_67 : sm_at C X 79 67 ls st N I L P = sm_at C X 79 6 ls st N I L P := st_go b79 dX8_timesFelt_67 (by decide) rfl
theorem s79_70 : sm_at C X 79 70 [l0, l1, l2, l3, l4, some (.int x0), l6, l7] st N I L P = sm_at C X 79 72 [l0, l1, l2, l3, l4, some (.int x0), l6, l7] (.int x0 :: st) N I L P := st_go b79 dX8_timesFelt_70 (by decide) rfl
theorem s79_72 : sm_at C X 79 72 ls [.int x0] N I L P = some (some (.int x0), N, I, L, P) := st_iret b79 dX8_timesFelt_72 rfl
theorem b80 : sm_b 80 = cX8_firstOver := rfl
theorem s80_0 : sm_at C X 80 0 [some (.ref a), l1, l2] st N I L P = sm_at C X 80 1 [some (.ref a), l1, l2] (.ref a :: st) N I L P := st_go b80 dX8_firstOver_0 (by decide) rfl
theorem s80_1 (h : a < N) (h1 : sm_lay a = .inl 8) : sm_at C X 80 1 ls (.ref a :: st) N I L P = sm_at C X 80 4 ls (va_rf (P a 2) :: st) N I L P := st_gfR b80 dX8_firstOver_1 rfl rfl h h1
theorem s80_4 : sm_at C X 80 4 ls st N I L P = sm_at C X 80 5 ls (.int (nI 0) :: st) N I L P := st_go b80 dX8_firstOver_4 (by decide) rfl
theorem s80_5 : sm_at C X 80 5 ls [w1, w0] N I L P = sm_af C X 80 8 ls [] (C 215 [w0, w1] N I L P) := st_stat b80 dX8_firstOver_5 (n := 2) (rest := []) rfl rfl rfl rfl rfl rfl
theorem s80_8 : sm_at C X 80 8 ls st N I L P = sm_at C X 80 9 ls (.int (nI 0) :: st) N I L P := st_go b80 dX8_firstOver_8 (by decide) rfl
theorem s80_9 : sm_at C X 80 9 [l0, l1, l2] (.int x0 :: st) N I L P = sm_at C X 80 10 [l0, sm_cl l1, some (.int x0)] st N I L P := st_go b80 dX8_firstOver_9 (by decide) rfl
theorem s80_10 : sm_at C X 80 10 [l0, l1, some (.int x0)] st N I L P = sm_at C X 80 11 [l0, l1, some (.int x0)] (.int x0 :: st) N I L P := st_go b80 dX8_firstOver_10 (by decide) rfl
theorem s80_11 : sm_at C X 80 11 [some (.ref a), l1, l2] st N I L P = sm_at C X 80 12 [some (.ref a), l1, l2] (.ref a :: st) N I L P := st_go b80 dX8_firstOver_11 (by decide) rfl
theorem s80_12 (h : a < N) (h1 : sm_lay a = .inl 8) : sm_at C X 80 12 ls (.ref a :: st) N I L P = sm_at C X 80 15 ls (.int (I a 3) :: st) N I L P := st_gfI b80 dX8_firstOver_12 rfl rfl h h1
theorem s80_15 : sm_at C X 80 15 ls (.int x0 :: .int x1 :: st) N I L P = if x0 ≤ x1 then sm_at C X 80 52 ls st N I L P else sm_at C X 80 18 ls st N I L P := st_br b80 dX8_firstOver_15 (by decide) rfl
theorem s80_18 : sm_at C X 80 18 [l0, l1, some (.int x0)] st N I L P = sm_at C X 80 19 [l0, l1, some (.int x0)] (.int x0 :: st) N I L P := st_go b80 dX8_firstOver_18 (by decide) rfl
theorem s80_19 : sm_at C X 80 19 ls st N I L P = sm_at C X 80 21 ls (.int (nI 12) :: st) N I L P := st_go b80 dX8_firstOver_19 (by decide) rfl
theorem s80_21 : sm_at C X 80 21 ls (.int x0 :: .int x1 :: st) N I L P = if x0 ≤ x1 then sm_at C X 80 52 ls st N I L P else sm_at C X 80 24 ls st N I L P := st_br b80 dX8_firstOver_21 (by decide) rfl
theorem s80_24 : sm_at C X 80 24 [some (.ref a), l1, l2] st N I L P = sm_at C X 80 25 [some (.ref a), l1, l2] (.ref a :: st) N I L P := st_go b80 dX8_firstOver_24 (by decide) rfl
theorem s80_25 : sm_at C X 80 25 [l0, some (.ref a), l2] st N I L P = sm_at C X 80 26 [l0, some (.ref a), l2] (.ref a :: st) N I L P := st_go b80 dX8_firstOver_25 (by decide) rfl
theorem s80_25n : sm_at C X 80 25 [l0, some .null, l2] st N I L P = sm_at C X 80 26 [l0, some .null, l2] (.null :: st) N I L P := st_go b80 dX8_firstOver_25 (by decide) rfl
theorem s80_26 : sm_at C X 80 26 [some (.ref a), l1, l2] st N I L P = sm_at C X 80 27 [some (.ref a), l1, l2] (.ref a :: st) N I L P := st_go b80 dX8_firstOver_26 (by decide) rfl
theorem s80_27 (h : a < N) (h1 : sm_lay a = .inl 8) : sm_at C X 80 27 ls (.ref a :: st) N I L P = sm_at C X 80 30 ls (va_rf (P a 0) :: st) N I L P := st_gfR b80 dX8_firstOver_27 rfl rfl h h1
theorem s80_30 : sm_at C X 80 30 [l0, l1, some (.int x0)] st N I L P = sm_at C X 80 31 [l0, l1, some (.int x0)] (.int x0 :: st) N I L P := st_go b80 dX8_firstOver_30 (by decide) rfl
theorem s80_31 (h : a < N) (h1 : k < sm_al a) : sm_at C X 80 31 ls (.int (nI k) :: .ref a :: st) N I L P = sm_at C X 80 32 ls (.int (I a k) :: st) N I L P := st_iald b80 dX8_firstOver_31 h h1
theorem s80_32 : sm_at C X 80 32 [some (.ref a), l1, l2] st N I L P = sm_at C X 80 33 [some (.ref a), l1, l2] (.ref a :: st) N I L P := st_go b80 dX8_firstOver_32 (by decide) rfl
theorem s80_33 (h : a < N) (h1 : sm_lay a = .inl 8) : sm_at C X 80 33 ls (.ref a :: st) N I L P = sm_at C X 80 36 ls (va_rf (P a 1) :: st) N I L P := st_gfR b80 dX8_firstOver_33 rfl rfl h h1
theorem s80_36 : sm_at C X 80 36 [l0, l1, some (.int x0)] st N I L P = sm_at C X 80 37 [l0, l1, some (.int x0)] (.int x0 :: st) N I L P := st_go b80 dX8_firstOver_36 (by decide) rfl
theorem s80_37 (h : a < N) (h1 : k < sm_al a) : sm_at C X 80 37 ls (.int (nI k) :: .ref a :: st) N I L P = sm_at C X 80 38 ls (.int (I a k) :: st) N I L P := st_iald b80 dX8_firstOver_37 h h1
theorem s80_38 (h : a < N) (h1 : sm_lay a = .inl 8) : sm_at C X 80 38 ls [w3, w2, w1, .ref a] N I L P = sm_af C X 80 41 ls [] (C 81 [.ref a, w1, w2, w3] N I L P) := st_virt b80 dX8_firstOver_38 (n := 4) (rest := []) rfl rfl rfl rfl rfl rfl rfl h h1
theorem s80_41 : sm_at C X 80 41 ls (.int x0 :: st) N I L P = if x0 = 0 then sm_at C X 80 46 ls st N I L P else sm_at C X 80 44 ls st N I L P := st_br b80 dX8_firstOver_41 (by decide) rfl
theorem s80_44 : sm_at C X 80 44 [l0, l1, some (.int x0)] st N I L P = sm_at C X 80 45 [l0, l1, some (.int x0)] (.int x0 :: st) N I L P := st_go b80 dX8_firstOver_44 (by decide) rfl
theorem s80_45 : sm_at C X 80 45 ls [.int x0] N I L P = some (some (.int x0), N, I, L, P) := st_iret b80 dX8_firstOver_45 rfl
theorem s80_46 : sm_at C X 80 46 [l0, l1, some (.int x0)] st N I L P = sm_at C X 80 49 [l0, sm_cl l1, some (.int (x0 + (nI 1)))] st N I L P := st_go b80 dX8_firstOver_46 (by decide) rfl
theorem s80_49 : sm_at C X 80 49 ls st N I L P = sm_at C X 80 10 ls st N I L P := st_go b80 dX8_firstOver_49 (by decide) rfl
theorem s80_52 : sm_at C X 80 52 ls st N I L P = sm_at C X 80 53 ls (.int (-1) :: st) N I L P := st_go b80 dX8_firstOver_52 (by decide) rfl
theorem s80_53 : sm_at C X 80 53 ls [.int x0] N I L P = some (some (.int x0), N, I, L, P) := st_iret b80 dX8_firstOver_53 rfl
theorem b81 : sm_b 81 = cX8_isOverBehind := rfl
theorem s81_0 : sm_at C X 81 0 ls st N I L P = sm_at C X 81 1 ls (.int (nI 0) :: st) N I L P := st_go b81 dX8_isOverBehind_0 (by decide) rfl
theorem s81_1 : sm_at C X 81 1 [l0, l1, l2, l3, l4, l5, l6] (.int x0 :: st) N I L P = sm_at C X 81 3 [l0, l1, l2, sm_cl l3, some (.int x0), l5, l6] st N I L P := st_go b81 dX8_isOverBehind_1 (by decide) rfl
theorem s81_3 : sm_at C X 81 3 ls st N I L P = sm_at C X 81 4 ls (.int (nI 0) :: st) N I L P := st_go b81 dX8_isOverBehind_3 (by decide) rfl
theorem s81_4 : sm_at C X 81 4 [l0, l1, l2, l3, l4, l5, l6] (.int x0 :: st) N I L P = sm_at C X 81 6 [l0, l1, l2, l3, sm_cl l4, some (.int x0), l6] st N I L P := st_go b81 dX8_isOverBehind_4 (by decide) rfl
theorem s81_6 : sm_at C X 81 6 [l0, l1, l2, l3, l4, some (.int x0), l6] st N I L P = sm_at C X 81 8 [l0, l1, l2, l3, l4, some (.int x0), l6] (.int x0 :: st) N I L P := st_go b81 dX8_isOverBehind_6 (by decide) rfl
theorem s81_8 : sm_at C X 81 8 ls st N I L P = sm_at C X 81 10 ls (.int (nI 10) :: st) N I L P := st_go b81 dX8_isOverBehind_8 (by decide) rfl
theorem s81_10 : sm_at C X 81 10 ls (.int x0 :: .int x1 :: st) N I L P = if x0 ≤ x1 then sm_at C X 81 69 ls st N I L P else sm_at C X 81 13 ls st N I L P := st_br b81 dX8_isOverBehind_10 (by decide) rfl
theorem s81_13 : sm_at C X 81 13 [l0, l1, l2, l3, l4, some (.int x0), l6] st N I L P = sm_at C X 81 15 [l0, l1, l2, l3, l4, some (.int x0), l6] (.int x0 :: st) N I L P := st_go b81 dX8_isOverBehind_13 (by decide) rfl
theorem s81_15 : sm_at C X 81 15 [l0, l1, some (.int x0), l3, l4, l5, l6] st N I L P = sm_at C X 81 16 [l0, l1, some (.int x0), l3, l4, l5, l6] (.int x0 :: st) N I L P := st_go b81 dX8_isOverBehind_15 (by decide) rfl
theorem s81_16 : sm_at C X 81 16 ls (.int x0 :: .int x1 :: st) N I L P = if ¬ x1 = x0 then sm_at C X 81 23 ls st N I L P else sm_at C X 81 19 ls st N I L P := st_br b81 dX8_isOverBehind_16 (by decide) rfl
theorem s81_19 : sm_at C X 81 19 ls st N I L P = sm_at C X 81 20 ls (.int (nI 0) :: st) N I L P := st_go b81 dX8_isOverBehind_19 (by decide) rfl
theorem s81_20 : sm_at C X 81 20 ls st N I L P = sm_at C X 81 30 ls st N I L P := st_go b81 dX8_isOverBehind_20 (by decide) rfl
theorem s81_23 : sm_at C X 81 23 [l0, some (.ref a), l2, l3, l4, l5, l6] st N I L P = sm_at C X 81 24 [l0, some (.ref a), l2, l3, l4, l5, l6] (.ref a :: st) N I L P := st_go b81 dX8_isOverBehind_23 (by decide) rfl
theorem s81_23n : sm_at C X 81 23 [l0, some .null, l2, l3, l4, l5, l6] st N I L P = sm_at C X 81 24 [l0, some .null, l2, l3, l4, l5, l6] (.null :: st) N I L P := st_go b81 dX8_isOverBehind_23 (by decide) rfl
theorem s81_24 : sm_at C X 81 24 [l0, l1, some (.int x0), l3, l4, l5, l6] st N I L P = sm_at C X 81 25 [l0, l1, some (.int x0), l3, l4, l5, l6] (.int x0 :: st) N I L P := st_go b81 dX8_isOverBehind_24 (by decide) rfl
theorem s81_25 : sm_at C X 81 25 [l0, l1, l2, l3, l4, some (.int x0), l6] st N I L P = sm_at C X 81 27 [l0, l1, l2, l3, l4, some (.int x0), l6] (.int x0 :: st) N I L P := st_go b81 dX8_isOverBehind_25 (by decide) rfl
theorem s81_27 (h : a < N) (h1 : sm_lay a = .inl 6) : sm_at C X 81 27 ls [w2, w1, .ref a] N I L P = sm_af C X 81 30 ls [] (C 63 [.ref a, w1, w2] N I L P) := st_virt b81 dX8_isOverBehind_27 (n := 3) (rest := []) rfl rfl rfl rfl rfl rfl rfl h h1
theorem s81_30 : sm_at C X 81 30 [l0, l1, l2, l3, l4, l5, l6] (.int x0 :: st) N I L P = sm_at C X 81 32 [l0, l1, l2, l3, l4, sm_cl l5, some (.int x0)] st N I L P := st_go b81 dX8_isOverBehind_30 (by decide) rfl
theorem s81_32 : sm_at C X 81 32 [l0, l1, l2, l3, l4, l5, some (.int x0)] st N I L P = sm_at C X 81 34 [l0, l1, l2, l3, l4, l5, some (.int x0)] (.int x0 :: st) N I L P := st_go b81 dX8_isOverBehind_32 (by decide) rfl
theorem s81_34 : sm_at C X 81 34 ls st N I L P = sm_at C X 81 35 ls (.int (-1) :: st) N I L P := st_go b81 dX8_isOverBehind_34 (by decide) rfl
theorem s81_35 : sm_at C X 81 35 ls (.int x0 :: .int x1 :: st) N I L P = if x1 = x0 then sm_at C X 81 63 ls st N I L P else sm_at C X 81 38 ls st N I L P := st_br b81 dX8_isOverBehind_35 (by decide) rfl
theorem s81_38 : sm_at C X 81 38 [l0, l1, l2, l3, some (.int x0), l5, l6] st N I L P = sm_at C X 81 40 [l0, l1, l2, l3, some (.int x0), l5, l6] (.int x0 :: st) N I L P := st_go b81 dX8_isOverBehind_38 (by decide) rfl
theorem s81_40 : sm_at C X 81 40 [some (.ref a), l1, l2, l3, l4, l5, l6] st N I L P = sm_at C X 81 41 [some (.ref a), l1, l2, l3, l4, l5, l6] (.ref a :: st) N I L P := st_go b81 dX8_isOverBehind_40 (by decide) rfl
theorem s81_41 : sm_at C X 81 41 [l0, l1, l2, l3, l4, some (.int x0), l6] st N I L P = sm_at C X 81 43 [l0, l1, l2, l3, l4, some (.int x0), l6] (.int x0 :: st) N I L P := st_go b81 dX8_isOverBehind_41 (by decide) rfl
theorem s81_43 : sm_at C X 81 43 [l0, l1, l2, some (.int x0), l4, l5, l6] st N I L P = sm_at C X 81 44 [l0, l1, l2, some (.int x0), l4, l5, l6] (.int x0 :: st) N I L P := st_go b81 dX8_isOverBehind_43 (by decide) rfl
theorem s81_44 : sm_at C X 81 44 [l0, l1, l2, l3, l4, l5, some (.int x0)] st N I L P = sm_at C X 81 46 [l0, l1, l2, l3, l4, l5, some (.int x0)] (.int x0 :: st) N I L P := st_go b81 dX8_isOverBehind_44 (by decide) rfl
theorem s81_46 : sm_at C X 81 46 ls (.int x0 :: .int x1 :: st) N I L P = sm_at C X 81 47 ls (.int (x1 + x0) :: st) N I L P := st_go b81 dX8_isOverBehind_46 (by decide) rfl
theorem s81_47 (h : a < N) (h1 : sm_lay a = .inl 8) : sm_at C X 81 47 ls [w2, w1, .ref a, v0] N I L P = sm_af C X 81 50 ls [v0] (C 82 [.ref a, w1, w2] N I L P) := st_virt b81 dX8_isOverBehind_47 (n := 3) (rest := [v0]) rfl rfl rfl rfl rfl rfl rfl h h1
theorem s81_50 : sm_at C X 81 50 ls st N I L P = sm_at C X 81 52 ls (.int (nI 9) :: st) N I L P := st_go b81 dX8_isOverBehind_50 (by decide) rfl
theorem s81_52 : sm_at C X 81 52 ls (.int x0 :: .int x1 :: st) N I L P = if x1 ≤ x0 then sm_at C X 81 59 ls st N I L P else sm_at C X 81 55 ls st N I L P := st_br b81 dX8_isOverBehind_52 (by decide) rfl
theorem s81_55 : sm_at C X 81 55 ls st N I L P = sm_at C X 81 56 ls (.int (nI 1) :: st) N I L P := st_go b81 dX8_isOverBehind_55 (by decide) rfl
theorem s81_56 : sm_at C X 81 56 ls st N I L P = sm_at C X 81 60 ls st N I L P := st_go b81 dX8_isOverBehind_56 (by decide) rfl
theorem s81_59 : sm_at C X 81 59 ls st N I L P = sm_at C X 81 60 ls (.int (nI 0) :: st) N I L P := st_go b81 dX8_isOverBehind_59 (by decide) rfl
theorem s81_60 : sm_at C X 81 60 ls (.int x0 :: .int x1 :: st) N I L P = sm_at C X 81 61 ls (.int (x1 ||| x0) :: st) N I L P := st_go b81 dX8_isOverBehind_60 (by decide) rfl
theorem s81_61 : sm_at C X 81 61 [l0, l1, l2, l3, l4, l5, l6] (.int x0 :: st) N I L P = sm_at C X 81 63 [l0, l1, l2, sm_cl l3, some (.int x0), l5, l6] st N I L P := st_go b81 dX8_isOverBehind_61 (by decide) rfl
theorem s81_63 : sm_at C X 81 63 [l0, l1, l2, l3, l4, some (.int x0), l6] st N I L P = sm_at C X 81 66 [l0, l1, l2, l3, sm_cl l4, some (.int (x0 + (nI 1))), l6] st N I L P := st_go b81 dX8_isOverBehind_63 (by decide) rfl
theorem s81_66 : sm_at C X 81 66 ls st N I L P = sm_at C X 81 6 ls st N I L P := st_go b81 dX8_isOverBehind_66 (by decide) rfl
theorem s81_69 : sm_at C X 81 69 [l0, l1, l2, l3, some (.int x0), l5, l6] st N I L P = sm_at C X 81 71 [l0, l1, l2, l3, some (.int x0), l5, l6] (.int x0 :: st) N I L P := st_go b81 dX8_isOverBehind_69 (by decide) rfl
theorem s81_71 (h : x0 = 0 ∨ x0 = 1) : sm_at C X 81 71 ls [.int x0] N I L P = some (some (.int x0), N, I, L, P) := st_zret b81 dX8_isOverBehind_71 rfl h
theorem b82 : sm_b 82 = cX8_talliedFor := rfl
theorem s82_0 : sm_at C X 82 0 [l0, some (.int x0), l2, l3] st N I L P = sm_at C X 82 1 [l0, some (.int x0), l2, l3] (.int x0 :: st) N I L P := st_go b82 dX8_talliedFor_0 (by decide) rfl
theorem s82_1 : sm_at C X 82 1 ls st N I L P = sm_at C X 82 3 ls (.int (nI 11) :: st) N I L P := st_go b82 dX8_talliedFor_1 (by decide) rfl
theorem s82_3 : sm_at C X 82 3 ls (.int x0 :: .int x1 :: st) N I L P = sm_at C X 82 4 ls (.int (x1 * x0) :: st) N I L P := st_go b82 dX8_talliedFor_3 (by decide) rfl
theorem s82_4 : sm_at C X 82 4 [l0, l1, some (.int x0), l3] st N I L P = sm_at C X 82 5 [l0, l1, some (.int x0), l3] (.int x0 :: st) N I L P := st_go b82 dX8_talliedFor_4 (by decide) rfl
theorem s82_5 : sm_at C X 82 5 ls st N I L P = sm_at C X 82 7 ls (.int (nI 100) :: st) N I L P := st_go b82 dX8_talliedFor_5 (by decide) rfl
theorem s82_7 (h : ¬ x0 = 0) : sm_at C X 82 7 ls (.int x0 :: .int x1 :: st) N I L P = sm_at C X 82 8 ls (.int (x1 / x0) :: st) N I L P := st_idiv b82 dX8_talliedFor_7 h
theorem s82_8 : sm_at C X 82 8 ls (.int x0 :: .int x1 :: st) N I L P = sm_at C X 82 9 ls (.int (x1 + x0) :: st) N I L P := st_go b82 dX8_talliedFor_8 (by decide) rfl
theorem s82_9 : sm_at C X 82 9 [l0, l1, l2, l3] (.int x0 :: st) N I L P = sm_at C X 82 10 [l0, l1, sm_cl l2, some (.int x0)] st N I L P := st_go b82 dX8_talliedFor_9 (by decide) rfl
theorem s82_10 : sm_at C X 82 10 [l0, l1, l2, some (.int x0)] st N I L P = sm_at C X 82 11 [l0, l1, l2, some (.int x0)] (.int x0 :: st) N I L P := st_go b82 dX8_talliedFor_10 (by decide) rfl
theorem s82_11 : sm_at C X 82 11 ls (.int x0 :: st) N I L P = if x0 < 0 then sm_at C X 82 23 ls st N I L P else sm_at C X 82 14 ls st N I L P := st_br b82 dX8_talliedFor_11 (by decide) rfl
theorem s82_14 : sm_at C X 82 14 [l0, l1, l2, some (.int x0)] st N I L P = sm_at C X 82 15 [l0, l1, l2, some (.int x0)] (.int x0 :: st) N I L P := st_go b82 dX8_talliedFor_14 (by decide) rfl
theorem s82_15 : sm_at C X 82 15 [some (.ref a), l1, l2, l3] st N I L P = sm_at C X 82 16 [some (.ref a), l1, l2, l3] (.ref a :: st) N I L P := st_go b82 dX8_talliedFor_15 (by decide) rfl
theorem s82_16 (h : a < N) (h1 : sm_lay a = .inl 8) : sm_at C X 82 16 ls (.ref a :: st) N I L P = sm_at C X 82 19 ls (va_rf (P a 2) :: st) N I L P := st_gfR b82 dX8_talliedFor_16 rfl rfl h h1
theorem s82_19 (h : a < N) (h1 : sm_lay a = .inr (.inl k)) : sm_at C X 82 19 ls (.ref a :: st) N I L P = sm_at C X 82 20 ls (.int (nI k) :: st) N I L P := st_alen b82 dX8_talliedFor_19 h h1
theorem s82_20 : sm_at C X 82 20 ls (.int x0 :: .int x1 :: st) N I L P = if x1 < x0 then sm_at C X 82 25 ls st N I L P else sm_at C X 82 23 ls st N I L P := st_br b82 dX8_talliedFor_20 (by decide) rfl
theorem s82_23 : sm_at C X 82 23 ls st N I L P = sm_at C X 82 24 ls (.int (nI 0) :: st) N I L P := st_go b82 dX8_talliedFor_23 (by decide) rfl
theorem s82_24 : sm_at C X 82 24 ls [.int x0] N I L P = some (some (.int x0), N, I, L, P) := st_iret b82 dX8_talliedFor_24 rfl
theorem s82_25 : sm_at C X 82 25 [some (.ref a), l1, l2, l3] st N I L P = sm_at C X 82 26 [some (.ref a), l1, l2, l3] (.ref a :: st) N I L P := st_go b82 dX8_talliedFor_25 (by decide) rfl
theorem s82_26 (h : a < N) (h1 : sm_lay a = .inl 8) : sm_at C X 82 26 ls (.ref a :: st) N I L P = sm_at C X 82 29 ls (va_rf (P a 2) :: st) N I L P := st_gfR b82 dX8_talliedFor_26 rfl rfl h h1
theorem s82_29 : sm_at C X 82 29 [l0, l1, l2, some (.int x0)] st N I L P = sm_at C X 82 30 [l0, l1, l2, some (.int x0)] (.int x0 :: st) N I L P := st_go b82 dX8_talliedFor_29 (by decide) rfl
theorem s82_30 : sm_at C X 82 30 ls (.int x0 :: .ref a :: st) N I L P = sm_at C X 82 31 ls (.int x0 :: .ref a :: .int x0 :: .ref a :: st) N I L P := st_go b82 dX8_talliedFor_30 (by decide) rfl
theorem s82_31 (h : a < N) (h1 : k < sm_al a) : sm_at C X 82 31 ls (.int (nI k) :: .ref a :: st) N I L P = sm_at C X 82 32 ls (.int (I a k) :: st) N I L P := st_iald b82 dX8_talliedFor_31 h h1
theorem s82_32 : sm_at C X 82 32 ls st N I L P = sm_at C X 82 33 ls (.int (nI 1) :: st) N I L P := st_go b82 dX8_talliedFor_32 (by decide) rfl
theorem s82_33 : sm_at C X 82 33 ls (.int x0 :: .int x1 :: st) N I L P = sm_at C X 82 34 ls (.int (x1 + x0) :: st) N I L P := st_go b82 dX8_talliedFor_33 (by decide) rfl
theorem s82_34 (h : a < N) (h1 : k < sm_al a) : sm_at C X 82 34 ls (.int x0 :: .int (nI k) :: .ref a :: st) N I L P = sm_at C X 82 35 ls st N (sm_up I a k x0) L P := st_iast b82 dX8_talliedFor_34 h h1
theorem s82_35 : sm_at C X 82 35 [some (.ref a), l1, l2, l3] st N I L P = sm_at C X 82 36 [some (.ref a), l1, l2, l3] (.ref a :: st) N I L P := st_go b82 dX8_talliedFor_35 (by decide) rfl
theorem s82_36 (h : a < N) (h1 : sm_lay a = .inl 8) : sm_at C X 82 36 ls (.ref a :: st) N I L P = sm_at C X 82 39 ls (va_rf (P a 2) :: st) N I L P := st_gfR b82 dX8_talliedFor_36 rfl rfl h h1
theorem s82_39 : sm_at C X 82 39 [l0, l1, l2, some (.int x0)] st N I L P = sm_at C X 82 40 [l0, l1, l2, some (.int x0)] (.int x0 :: st) N I L P := st_go b82 dX8_talliedFor_39 (by decide) rfl
theorem s82_40 (h : a < N) (h1 : k < sm_al a) : sm_at C X 82 40 ls (.int (nI k) :: .ref a :: st) N I L P = sm_at C X 82 41 ls (.int (I a k) :: st) N I L P := st_iald b82 dX8_talliedFor_40 h h1
theorem s82_41 : sm_at C X 82 41 ls [.int x0] N I L P = some (some (.int x0), N, I, L, P) := st_iret b82 dX8_talliedFor_41 rfl
end STX8
