section STX3
variable {C : sm_Cf} {X : sm_Xs} {ls : List (Option Value)} {st : List Value} {N : Nat} {I : sm_Im} {L : sm_Lm} {P : sm_Pm} {x0 x1 x2 : Int32} {z0 z1 : Int64} {a a2 k n : Nat} {f : Nat → Int32} {w0 w1 w2 w3 w4 w5 w6 v0 v1 v2 v3 v4 : Value} {l0 l1 l2 l3 l4 l5 l6 l7 l8 l9 l10 l11 l12 l13 l14 l15 l16 : Option Value}
theorem b33 : sm_b 33 = cX3_init := rfl
theorem s33_0 : sm_at C X 33 0 [some (.ref a)] st N I L P = sm_at C X 33 1 [some (.ref a)] (.ref a :: st) N I L P := st_go b33 dX3_init_0 (by decide) rfl
theorem s33_1 : sm_at C X 33 1 ls (.ref a :: []) N I L P = sm_at C X 33 4 ls [] N I L P := st_go b33 dX3_init_1 (by decide) rfl
theorem s33_4 : sm_at C X 33 4 [some (.ref a)] st N I L P = sm_at C X 33 5 [some (.ref a)] (.ref a :: st) N I L P := st_go b33 dX3_init_4 (by decide) rfl
theorem s33_5 (h : N < 81) (h1 : sm_lay N = .inl 8) : sm_at C X 33 5 ls st N I L P = sm_at C X 33 8 ls (.ref N :: st) (N + 1) (sm_z I N 0) (sm_z L N 0) (sm_z P N none) := st_new b33 dX3_init_5 rfl h h1
theorem s33_8 : sm_at C X 33 8 ls (.ref a :: st) N I L P = sm_at C X 33 9 ls (.ref a :: .ref a :: st) N I L P := st_go b33 dX3_init_8 (by decide) rfl
theorem s33_9 (h : a < N) (h1 : sm_lay a = .inl 8) : sm_at C X 33 9 ls [.ref a, v1, v0] N I L P = sm_af C X 33 12 ls [v1, v0] (C 73 [.ref a] N I L P) := st_spec b33 dX3_init_9 (n := 1) (rest := [v1, v0]) rfl rfl rfl rfl rfl rfl rfl h h1
theorem s33_12 (h : a < N) (h1 : sm_lay a = .inl 3) : sm_at C X 33 12 ls (.ref a2 :: .ref a :: st) N I L P = sm_at C X 33 15 ls st N I L (sm_up P a 0 (some a2)) := st_pfR b33 dX3_init_12 rfl rfl (Or.inr ⟨rfl, rfl⟩) h h1
theorem s33_15 : sm_at C X 33 15 [some (.ref a)] st N I L P = sm_at C X 33 16 [some (.ref a)] (.ref a :: st) N I L P := st_go b33 dX3_init_15 (by decide) rfl
theorem s33_16 : sm_at C X 33 16 ls st N I L P = sm_at C X 33 18 ls (.int (nI 10) :: st) N I L P := st_go b33 dX3_init_16 (by decide) rfl
theorem s33_18 (h : N < 81) (h1 : sm_lay N = .inr (.inl k)) (h2 : k < 1000) : sm_at C X 33 18 ls (.int (nI k) :: st) N I L P = sm_at C X 33 20 ls (.ref N :: st) (N + 1) (sm_z I N 0) L P := st_newa b33 dX3_init_18 h h1 h2
theorem s33_20 (h : a < N) (h1 : sm_lay a = .inl 3) : sm_at C X 33 20 ls (.ref a2 :: .ref a :: st) N I L P = sm_at C X 33 23 ls st N I L (sm_up P a 1 (some a2)) := st_pfR b33 dX3_init_20 rfl rfl (Or.inr ⟨rfl, rfl⟩) h h1
theorem s33_23 : sm_at C X 33 23 [some (.ref a)] st N I L P = sm_at C X 33 24 [some (.ref a)] (.ref a :: st) N I L P := st_go b33 dX3_init_23 (by decide) rfl
theorem s33_24 (h : N < 81) (h1 : sm_lay N = .inl 1) : sm_at C X 33 24 ls st N I L P = sm_at C X 33 27 ls (.ref N :: st) (N + 1) (sm_z I N 0) (sm_z L N 0) (sm_z P N none) := st_new b33 dX3_init_24 rfl h h1
theorem s33_27 : sm_at C X 33 27 ls (.ref a :: st) N I L P = sm_at C X 33 28 ls (.ref a :: .ref a :: st) N I L P := st_go b33 dX3_init_27 (by decide) rfl
theorem s33_28 (h : a < N) (h1 : sm_lay a = .inl 1) : sm_at C X 33 28 ls [.ref a, v1, v0] N I L P = sm_af C X 33 31 ls [v1, v0] (C 15 [.ref a] N I L P) := st_spec b33 dX3_init_28 (n := 1) (rest := [v1, v0]) rfl rfl rfl rfl rfl rfl rfl h h1
theorem s33_31 (h : a < N) (h1 : sm_lay a = .inl 3) : sm_at C X 33 31 ls (.ref a2 :: .ref a :: st) N I L P = sm_at C X 33 34 ls st N I L (sm_up P a 2 (some a2)) := st_pfR b33 dX3_init_31 rfl rfl (Or.inr ⟨rfl, rfl⟩) h h1
theorem s33_34 : sm_at C X 33 34 [some (.ref a)] st N I L P = sm_at C X 33 35 [some (.ref a)] (.ref a :: st) N I L P := st_go b33 dX3_init_34 (by decide) rfl
theorem s33_35 (h : N < 81) (h1 : sm_lay N = .inl 2) : sm_at C X 33 35 ls st N I L P = sm_at C X 33 38 ls (.ref N :: st) (N + 1) (sm_z I N 0) (sm_z L N 0) (sm_z P N none) := st_new b33 dX3_init_35 rfl h h1
theorem s33_38 : sm_at C X 33 38 ls (.ref a :: st) N I L P = sm_at C X 33 39 ls (.ref a :: .ref a :: st) N I L P := st_go b33 dX3_init_38 (by decide) rfl
theorem s33_39 (h : a < N) (h1 : sm_lay a = .inl 2) : sm_at C X 33 39 ls [.ref a, v1, v0] N I L P = sm_af C X 33 42 ls [v1, v0] (C 22 [.ref a] N I L P) := st_spec b33 dX3_init_39 (n := 1) (rest := [v1, v0]) rfl rfl rfl rfl rfl rfl rfl h h1
theorem s33_42 (h : a < N) (h1 : sm_lay a = .inl 3) : sm_at C X 33 42 ls (.ref a2 :: .ref a :: st) N I L P = sm_at C X 33 45 ls st N I L (sm_up P a 3 (some a2)) := st_pfR b33 dX3_init_42 rfl rfl (Or.inr ⟨rfl, rfl⟩) h h1
theorem s33_45 : sm_at C X 33 45 ls [] N I L P = some (none, N, I, L, P) := st_ret b33 dX3_init_45 (by decide) rfl
theorem b34 : sm_b 34 = cX3_isGood := rfl
theorem s34_0 : sm_at C X 34 0 [some (.ref a)] st N I L P = sm_at C X 34 1 [some (.ref a)] (.ref a :: st) N I L P := st_go b34 dX3_isGood_0 (by decide) rfl
theorem s34_1 (h : a < N) (h1 : sm_lay a = .inl 3) : sm_at C X 34 1 ls (.ref a :: st) N I L P = sm_at C X 34 4 ls (.int (I a 4) :: st) N I L P := st_gfI b34 dX3_isGood_1 rfl rfl h h1
theorem s34_4 (h : x0 = 0 ∨ x0 = 1) : sm_at C X 34 4 ls [.int x0] N I L P = some (some (.int x0), N, I, L, P) := st_zret b34 dX3_isGood_4 rfl h
theorem b35 : sm_b 35 = cX3_spoil := rfl
theorem s35_0 : sm_at C X 35 0 [some (.ref a)] st N I L P = sm_at C X 35 1 [some (.ref a)] (.ref a :: st) N I L P := st_go b35 dX3_spoil_0 (by decide) rfl
theorem s35_1 : sm_at C X 35 1 ls st N I L P = sm_at C X 35 2 ls (.int (nI 0) :: st) N I L P := st_go b35 dX3_spoil_1 (by decide) rfl
theorem s35_2 (h : a < N) (h1 : sm_lay a = .inl 3) (h2 : x0 = 0 ∨ x0 = 1) : sm_at C X 35 2 ls (.int x0 :: .ref a :: st) N I L P = sm_at C X 35 5 ls st N (sm_up I a 4 x0) L P := st_pfB b35 dX3_spoil_2 rfl rfl rfl h h1 h2
theorem s35_5 : sm_at C X 35 5 ls [] N I L P = some (none, N, I, L, P) := st_ret b35 dX3_spoil_5 (by decide) rfl
theorem b36 : sm_b 36 = cX3_keep := rfl
theorem s36_0 : sm_at C X 36 0 [some (.ref a), l1, l2, l3, l4] st N I L P = sm_at C X 36 1 [some (.ref a), l1, l2, l3, l4] (.ref a :: st) N I L P := st_go b36 dX3_keep_0 (by decide) rfl
theorem s36_1 (h : a < N) (h1 : sm_lay a = .inl 3) : sm_at C X 36 1 ls (.ref a :: st) N I L P = sm_at C X 36 4 ls (va_rf (P a 0) :: st) N I L P := st_gfR b36 dX3_keep_1 rfl rfl h h1
theorem s36_4 : sm_at C X 36 4 [l0, some (.ref a), l2, l3, l4] st N I L P = sm_at C X 36 5 [l0, some (.ref a), l2, l3, l4] (.ref a :: st) N I L P := st_go b36 dX3_keep_4 (by decide) rfl
theorem s36_4n : sm_at C X 36 4 [l0, some .null, l2, l3, l4] st N I L P = sm_at C X 36 5 [l0, some .null, l2, l3, l4] (.null :: st) N I L P := st_go b36 dX3_keep_4 (by decide) rfl
theorem s36_5 (h : a < N) (h1 : sm_lay a = .inl 8) : sm_at C X 36 5 ls [w1, .ref a] N I L P = sm_af C X 36 8 ls [] (C 77 [.ref a, w1] N I L P) := st_virt b36 dX3_keep_5 (n := 2) (rest := []) rfl rfl rfl rfl rfl rfl rfl h h1
theorem s36_8 : sm_at C X 36 8 [l0, l1, some (.ref a), l3, l4] st N I L P = sm_at C X 36 9 [l0, l1, some (.ref a), l3, l4] (.ref a :: st) N I L P := st_go b36 dX3_keep_8 (by decide) rfl
theorem s36_8n : sm_at C X 36 8 [l0, l1, some .null, l3, l4] st N I L P = sm_at C X 36 9 [l0, l1, some .null, l3, l4] (.null :: st) N I L P := st_go b36 dX3_keep_8 (by decide) rfl
theorem s36_9 : sm_at C X 36 9 ls st N I L P = sm_at C X 36 10 ls (.int (nI 0) :: st) N I L P := st_go b36 dX3_keep_9 (by decide) rfl
theorem s36_10 : sm_at C X 36 10 [some (.ref a), l1, l2, l3, l4] st N I L P = sm_at C X 36 11 [some (.ref a), l1, l2, l3, l4] (.ref a :: st) N I L P := st_go b36 dX3_keep_10 (by decide) rfl
theorem s36_11 (h : a < N) (h1 : sm_lay a = .inl 3) : sm_at C X 36 11 ls (.ref a :: st) N I L P = sm_at C X 36 14 ls (va_rf (P a 1) :: st) N I L P := st_gfR b36 dX3_keep_11 rfl rfl h h1
theorem s36_14 : sm_at C X 36 14 ls st N I L P = sm_at C X 36 15 ls (.int (nI 0) :: st) N I L P := st_go b36 dX3_keep_14 (by decide) rfl
theorem s36_15 : sm_at C X 36 15 ls st N I L P = sm_at C X 36 17 ls (.int (nI 10) :: st) N I L P := st_go b36 dX3_keep_15 (by decide) rfl
theorem s36_17 (h : a < N) (h1 : a2 < N) (h2 : k ≤ sm_al a) (h3 : k ≤ sm_al a2) (h4 : 0 < k) : sm_at C X 36 17 ls [.int (nI k), .int (nI 0), .ref a, .int (nI 0), .ref a2] N I L P = sm_at C X 36 20 ls [] N (sm_row I a (va_cpy (I a2) (I a) 0 0 k)) L P := st_copy b36 dX3_keep_17 rfl rfl h h1 h2 h3 h4
theorem s36_20 : sm_at C X 36 20 [some (.ref a), l1, l2, l3, l4] st N I L P = sm_at C X 36 21 [some (.ref a), l1, l2, l3, l4] (.ref a :: st) N I L P := st_go b36 dX3_keep_20 (by decide) rfl
theorem s36_21 (h : a < N) (h1 : sm_lay a = .inl 3) : sm_at C X 36 21 ls (.ref a :: st) N I L P = sm_at C X 36 24 ls (va_rf (P a 2) :: st) N I L P := st_gfR b36 dX3_keep_21 rfl rfl h h1
theorem s36_24 : sm_at C X 36 24 [l0, l1, l2, some (.ref a), l4] st N I L P = sm_at C X 36 25 [l0, l1, l2, some (.ref a), l4] (.ref a :: st) N I L P := st_go b36 dX3_keep_24 (by decide) rfl
theorem s36_24n : sm_at C X 36 24 [l0, l1, l2, some .null, l4] st N I L P = sm_at C X 36 25 [l0, l1, l2, some .null, l4] (.null :: st) N I L P := st_go b36 dX3_keep_24 (by decide) rfl
theorem s36_25 (h : a < N) (h1 : sm_lay a = .inl 1) : sm_at C X 36 25 ls [w1, .ref a] N I L P = sm_af C X 36 28 ls [] (C 19 [.ref a, w1] N I L P) := st_virt b36 dX3_keep_25 (n := 2) (rest := []) rfl rfl rfl rfl rfl rfl rfl h h1
theorem s36_28 : sm_at C X 36 28 [some (.ref a), l1, l2, l3, l4] st N I L P = sm_at C X 36 29 [some (.ref a), l1, l2, l3, l4] (.ref a :: st) N I L P := st_go b36 dX3_keep_28 (by decide) rfl
theorem s36_29 (h : a < N) (h1 : sm_lay a = .inl 3) : sm_at C X 36 29 ls (.ref a :: st) N I L P = sm_at C X 36 32 ls (va_rf (P a 3) :: st) N I L P := st_gfR b36 dX3_keep_29 rfl rfl h h1
theorem s36_32 : sm_at C X 36 32 [l0, l1, l2, l3, some (.ref a)] st N I L P = sm_at C X 36 34 [l0, l1, l2, l3, some (.ref a)] (.ref a :: st) N I L P := st_go b36 dX3_keep_32 (by decide) rfl
theorem s36_32n : sm_at C X 36 32 [l0, l1, l2, l3, some .null] st N I L P = sm_at C X 36 34 [l0, l1, l2, l3, some .null] (.null :: st) N I L P := st_go b36 dX3_keep_32 (by decide) rfl
theorem s36_34 (h : a < N) (h1 : sm_lay a = .inl 2) : sm_at C X 36 34 ls [w1, .ref a] N I L P = sm_af C X 36 37 ls [] (C 27 [.ref a, w1] N I L P) := st_virt b36 dX3_keep_34 (n := 2) (rest := []) rfl rfl rfl rfl rfl rfl rfl h h1
theorem s36_37 : sm_at C X 36 37 [some (.ref a), l1, l2, l3, l4] st N I L P = sm_at C X 36 38 [some (.ref a), l1, l2, l3, l4] (.ref a :: st) N I L P := st_go b36 dX3_keep_37 (by decide) rfl
theorem s36_38 : sm_at C X 36 38 ls st N I L P = sm_at C X 36 39 ls (.int (nI 1) :: st) N I L P := st_go b36 dX3_keep_38 (by decide) rfl
theorem s36_39 (h : a < N) (h1 : sm_lay a = .inl 3) (h2 : x0 = 0 ∨ x0 = 1) : sm_at C X 36 39 ls (.int x0 :: .ref a :: st) N I L P = sm_at C X 36 42 ls st N (sm_up I a 4 x0) L P := st_pfB b36 dX3_keep_39 rfl rfl rfl h h1 h2
theorem s36_42 : sm_at C X 36 42 ls [] N I L P = some (none, N, I, L, P) := st_ret b36 dX3_keep_42 (by decide) rfl
theorem b37 : sm_b 37 = cX3_giveBack := rfl
theorem s37_0 : sm_at C X 37 0 [l0, some (.ref a), l2, l3, l4] st N I L P = sm_at C X 37 1 [l0, some (.ref a), l2, l3, l4] (.ref a :: st) N I L P := st_go b37 dX3_giveBack_0 (by decide) rfl
theorem s37_0n : sm_at C X 37 0 [l0, some .null, l2, l3, l4] st N I L P = sm_at C X 37 1 [l0, some .null, l2, l3, l4] (.null :: st) N I L P := st_go b37 dX3_giveBack_0 (by decide) rfl
theorem s37_1 : sm_at C X 37 1 [some (.ref a), l1, l2, l3, l4] st N I L P = sm_at C X 37 2 [some (.ref a), l1, l2, l3, l4] (.ref a :: st) N I L P := st_go b37 dX3_giveBack_1 (by decide) rfl
theorem s37_2 (h : a < N) (h1 : sm_lay a = .inl 3) : sm_at C X 37 2 ls (.ref a :: st) N I L P = sm_at C X 37 5 ls (va_rf (P a 0) :: st) N I L P := st_gfR b37 dX3_giveBack_2 rfl rfl h h1
theorem s37_5 (h : a < N) (h1 : sm_lay a = .inl 8) : sm_at C X 37 5 ls [w1, .ref a] N I L P = sm_af C X 37 8 ls [] (C 77 [.ref a, w1] N I L P) := st_virt b37 dX3_giveBack_5 (n := 2) (rest := []) rfl rfl rfl rfl rfl rfl rfl h h1
theorem s37_8 : sm_at C X 37 8 [some (.ref a), l1, l2, l3, l4] st N I L P = sm_at C X 37 9 [some (.ref a), l1, l2, l3, l4] (.ref a :: st) N I L P := st_go b37 dX3_giveBack_8 (by decide) rfl
theorem s37_9 (h : a < N) (h1 : sm_lay a = .inl 3) : sm_at C X 37 9 ls (.ref a :: st) N I L P = sm_at C X 37 12 ls (va_rf (P a 1) :: st) N I L P := st_gfR b37 dX3_giveBack_9 rfl rfl h h1
theorem s37_12 : sm_at C X 37 12 ls st N I L P = sm_at C X 37 13 ls (.int (nI 0) :: st) N I L P := st_go b37 dX3_giveBack_12 (by decide) rfl
theorem s37_13 : sm_at C X 37 13 [l0, l1, some (.ref a), l3, l4] st N I L P = sm_at C X 37 14 [l0, l1, some (.ref a), l3, l4] (.ref a :: st) N I L P := st_go b37 dX3_giveBack_13 (by decide) rfl
theorem s37_13n : sm_at C X 37 13 [l0, l1, some .null, l3, l4] st N I L P = sm_at C X 37 14 [l0, l1, some .null, l3, l4] (.null :: st) N I L P := st_go b37 dX3_giveBack_13 (by decide) rfl
theorem s37_14 : sm_at C X 37 14 ls st N I L P = sm_at C X 37 15 ls (.int (nI 0) :: st) N I L P := st_go b37 dX3_giveBack_14 (by decide) rfl
theorem s37_15 : sm_at C X 37 15 ls st N I L P = sm_at C X 37 17 ls (.int (nI 10) :: st) N I L P := st_go b37 dX3_giveBack_15 (by decide) rfl
theorem s37_17 (h : a < N) (h1 : a2 < N) (h2 : k ≤ sm_al a) (h3 : k ≤ sm_al a2) (h4 : 0 < k) : sm_at C X 37 17 ls [.int (nI k), .int (nI 0), .ref a, .int (nI 0), .ref a2] N I L P = sm_at C X 37 20 ls [] N (sm_row I a (va_cpy (I a2) (I a) 0 0 k)) L P := st_copy b37 dX3_giveBack_17 rfl rfl h h1 h2 h3 h4
theorem s37_20 : sm_at C X 37 20 [l0, l1, l2, some (.ref a), l4] st N I L P = sm_at C X 37 21 [l0, l1, l2, some (.ref a), l4] (.ref a :: st) N I L P := st_go b37 dX3_giveBack_20 (by decide) rfl
theorem s37_20n : sm_at C X 37 20 [l0, l1, l2, some .null, l4] st N I L P = sm_at C X 37 21 [l0, l1, l2, some .null, l4] (.null :: st) N I L P := st_go b37 dX3_giveBack_20 (by decide) rfl
theorem s37_21 : sm_at C X 37 21 [some (.ref a), l1, l2, l3, l4] st N I L P = sm_at C X 37 22 [some (.ref a), l1, l2, l3, l4] (.ref a :: st) N I L P := st_go b37 dX3_giveBack_21 (by decide) rfl
theorem s37_22 (h : a < N) (h1 : sm_lay a = .inl 3) : sm_at C X 37 22 ls (.ref a :: st) N I L P = sm_at C X 37 25 ls (va_rf (P a 2) :: st) N I L P := st_gfR b37 dX3_giveBack_22 rfl rfl h h1
theorem s37_25 (h : a < N) (h1 : sm_lay a = .inl 1) : sm_at C X 37 25 ls [w1, .ref a] N I L P = sm_af C X 37 28 ls [] (C 19 [.ref a, w1] N I L P) := st_virt b37 dX3_giveBack_25 (n := 2) (rest := []) rfl rfl rfl rfl rfl rfl rfl h h1
theorem s37_28 : sm_at C X 37 28 [l0, l1, l2, l3, some (.ref a)] st N I L P = sm_at C X 37 30 [l0, l1, l2, l3, some (.ref a)] (.ref a :: st) N I L P := st_go b37 dX3_giveBack_28 (by decide) rfl
theorem s37_28n : sm_at C X 37 28 [l0, l1, l2, l3, some .null] st N I L P = sm_at C X 37 30 [l0, l1, l2, l3, some .null] (.null :: st) N I L P := st_go b37 dX3_giveBack_28 (by decide) rfl
theorem s37_30 : sm_at C X 37 30 [some (.ref a), l1, l2, l3, l4] st N I L P = sm_at C X 37 31 [some (.ref a), l1, l2, l3, l4] (.ref a :: st) N I L P := st_go b37 dX3_giveBack_30 (by decide) rfl
theorem s37_31 (h : a < N) (h1 : sm_lay a = .inl 3) : sm_at C X 37 31 ls (.ref a :: st) N I L P = sm_at C X 37 34 ls (va_rf (P a 3) :: st) N I L P := st_gfR b37 dX3_giveBack_31 rfl rfl h h1
theorem s37_34 (h : a < N) (h1 : sm_lay a = .inl 2) : sm_at C X 37 34 ls [w1, .ref a] N I L P = sm_af C X 37 37 ls [] (C 27 [.ref a, w1] N I L P) := st_virt b37 dX3_giveBack_34 (n := 2) (rest := []) rfl rfl rfl rfl rfl rfl rfl h h1
theorem s37_37 : sm_at C X 37 37 ls [] N I L P = some (none, N, I, L, P) := st_ret b37 dX3_giveBack_37 (by decide) rfl
end STX3
