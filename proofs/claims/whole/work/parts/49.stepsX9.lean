section STX9
variable {C : sm_Cf} {X : sm_Xs} {ls : List (Option Value)} {st : List Value} {N : Nat} {I : sm_Im} {L : sm_Lm} {P : sm_Pm} {x0 x1 x2 : Int32} {z0 z1 : Int64} {a a2 k n : Nat} {f : Nat → Int32} {w0 w1 w2 w3 w4 w5 w6 v0 v1 v2 v3 v4 : Value} {l0 l1 l2 l3 l4 l5 l6 l7 l8 l9 l10 l11 l12 l13 l14 l15 l16 : Option Value}
theorem b83 : sm_b 83 = cX9_init := rfl
theorem s83_0 : sm_at C X 83 0 [some (.ref a)] st N I L P = sm_at C X 83 1 [some (.ref a)] (.ref a :: st) N I L P := st_go b83 dX9_init_0 (by decide) rfl
theorem s83_1 : sm_at C X 83 1 ls (.ref a :: []) N I L P = sm_at C X 83 4 ls [] N I L P := st_go b83 dX9_init_1 (by decide) rfl
theorem s83_4 : sm_at C X 83 4 [some (.ref a)] st N I L P = sm_at C X 83 5 [some (.ref a)] (.ref a :: st) N I L P := st_go b83 dX9_init_4 (by decide) rfl
theorem s83_5 : sm_at C X 83 5 ls st N I L P = sm_at C X 83 7 ls (.int (nI 36) :: st) N I L P := st_go b83 dX9_init_5 (by decide) rfl
theorem s83_7 (h : N < 81) (h1 : sm_lay N = .inr (.inl k)) (h2 : k < 1000) : sm_at C X 83 7 ls (.int (nI k) :: st) N I L P = sm_at C X 83 9 ls (.ref N :: st) (N + 1) (sm_z I N 0) L P := st_newa b83 dX9_init_7 h h1 h2
theorem s83_9 (h : a < N) (h1 : sm_lay a = .inl 9) : sm_at C X 83 9 ls (.ref a2 :: .ref a :: st) N I L P = sm_at C X 83 12 ls st N I L (sm_up P a 0 (some a2)) := st_pfR b83 dX9_init_9 rfl rfl (Or.inr ⟨rfl, rfl⟩) h h1
theorem s83_12 : sm_at C X 83 12 ls [] N I L P = some (none, N, I, L, P) := st_ret b83 dX9_init_12 (by decide) rfl
theorem b84 : sm_b 84 = cX9_between := rfl
theorem s84_0 : sm_at C X 84 0 [l0, some (.int x0), l2] st N I L P = sm_at C X 84 1 [l0, some (.int x0), l2] (.int x0 :: st) N I L P := st_go b84 dX9_between_0 (by decide) rfl
theorem s84_1 : sm_at C X 84 1 ls [w0] N I L P = sm_af C X 84 4 ls [] (C 134 [w0] N I L P) := st_stat b84 dX9_between_1 (n := 1) (rest := []) rfl rfl rfl rfl rfl rfl
theorem s84_4 : sm_at C X 84 4 ls (.int x0 :: st) N I L P = if x0 = 0 then sm_at C X 84 28 ls st N I L P else sm_at C X 84 7 ls st N I L P := st_br b84 dX9_between_4 (by decide) rfl
theorem s84_7 : sm_at C X 84 7 [l0, l1, some (.int x0)] st N I L P = sm_at C X 84 8 [l0, l1, some (.int x0)] (.int x0 :: st) N I L P := st_go b84 dX9_between_7 (by decide) rfl
theorem s84_8 : sm_at C X 84 8 ls [w0] N I L P = sm_af C X 84 11 ls [] (C 134 [w0] N I L P) := st_stat b84 dX9_between_8 (n := 1) (rest := []) rfl rfl rfl rfl rfl rfl
theorem s84_11 : sm_at C X 84 11 ls (.int x0 :: st) N I L P = if x0 = 0 then sm_at C X 84 28 ls st N I L P else sm_at C X 84 14 ls st N I L P := st_br b84 dX9_between_11 (by decide) rfl
theorem s84_14 : sm_at C X 84 14 [some (.ref a), l1, l2] st N I L P = sm_at C X 84 15 [some (.ref a), l1, l2] (.ref a :: st) N I L P := st_go b84 dX9_between_14 (by decide) rfl
theorem s84_15 (h : a < N) (h1 : sm_lay a = .inl 9) : sm_at C X 84 15 ls (.ref a :: st) N I L P = sm_at C X 84 18 ls (va_rf (P a 0) :: st) N I L P := st_gfR b84 dX9_between_15 rfl rfl h h1
theorem s84_18 : sm_at C X 84 18 [l0, some (.int x0), l2] st N I L P = sm_at C X 84 19 [l0, some (.int x0), l2] (.int x0 :: st) N I L P := st_go b84 dX9_between_18 (by decide) rfl
theorem s84_19 : sm_at C X 84 19 ls st N I L P = sm_at C X 84 21 ls (.int (nI 6) :: st) N I L P := st_go b84 dX9_between_19 (by decide) rfl
theorem s84_21 : sm_at C X 84 21 ls (.int x0 :: .int x1 :: st) N I L P = sm_at C X 84 22 ls (.int (x1 * x0) :: st) N I L P := st_go b84 dX9_between_21 (by decide) rfl
theorem s84_22 : sm_at C X 84 22 [l0, l1, some (.int x0)] st N I L P = sm_at C X 84 23 [l0, l1, some (.int x0)] (.int x0 :: st) N I L P := st_go b84 dX9_between_22 (by decide) rfl
theorem s84_23 : sm_at C X 84 23 ls (.int x0 :: .int x1 :: st) N I L P = sm_at C X 84 24 ls (.int (x1 + x0) :: st) N I L P := st_go b84 dX9_between_23 (by decide) rfl
theorem s84_24 (h : a < N) (h1 : k < sm_al a) : sm_at C X 84 24 ls (.int (nI k) :: .ref a :: st) N I L P = sm_at C X 84 25 ls (.int (I a k) :: st) N I L P := st_iald b84 dX9_between_24 h h1
theorem s84_25 : sm_at C X 84 25 ls st N I L P = sm_at C X 84 30 ls st N I L P := st_go b84 dX9_between_25 (by decide) rfl
theorem s84_28 : sm_at C X 84 28 ls st N I L P = sm_at C X 84 30 ls (.int (nI 100000) :: st) N I L P := st_go b84 dX9_between_28 (by decide) rfl
theorem s84_30 : sm_at C X 84 30 ls [.int x0] N I L P = some (some (.int x0), N, I, L, P) := st_iret b84 dX9_between_30 rfl
theorem b85 : sm_b 85 = cX9_clear := rfl
theorem s85_0 : sm_at C X 85 0 [some (.ref a), l1] st N I L P = sm_at C X 85 1 [some (.ref a), l1] (.ref a :: st) N I L P := st_go b85 dX9_clear_0 (by decide) rfl
theorem s85_1 (h : a < N) (h1 : sm_lay a = .inl 9) : sm_at C X 85 1 ls (.ref a :: st) N I L P = sm_at C X 85 4 ls (va_rf (P a 0) :: st) N I L P := st_gfR b85 dX9_clear_1 rfl rfl h h1
theorem s85_4 : sm_at C X 85 4 ls st N I L P = sm_at C X 85 6 ls (.int (nI 100000) :: st) N I L P := st_go b85 dX9_clear_4 (by decide) rfl
theorem s85_6 : sm_at C X 85 6 ls [w1, w0] N I L P = sm_af C X 85 9 ls [] (C 215 [w0, w1] N I L P) := st_stat b85 dX9_clear_6 (n := 2) (rest := []) rfl rfl rfl rfl rfl rfl
theorem s85_9 : sm_at C X 85 9 ls st N I L P = sm_at C X 85 10 ls (.int (nI 0) :: st) N I L P := st_go b85 dX9_clear_9 (by decide) rfl
theorem s85_10 : sm_at C X 85 10 [l0, l1] (.int x0 :: st) N I L P = sm_at C X 85 11 [sm_cl l0, some (.int x0)] st N I L P := st_go b85 dX9_clear_10 (by decide) rfl
theorem s85_11 : sm_at C X 85 11 [l0, some (.int x0)] st N I L P = sm_at C X 85 12 [l0, some (.int x0)] (.int x0 :: st) N I L P := st_go b85 dX9_clear_11 (by decide) rfl
theorem s85_12 : sm_at C X 85 12 ls st N I L P = sm_at C X 85 14 ls (.int (nI 6) :: st) N I L P := st_go b85 dX9_clear_12 (by decide) rfl
theorem s85_14 : sm_at C X 85 14 ls (.int x0 :: .int x1 :: st) N I L P = if x0 ≤ x1 then sm_at C X 85 30 ls st N I L P else sm_at C X 85 17 ls st N I L P := st_br b85 dX9_clear_14 (by decide) rfl
theorem s85_17 : sm_at C X 85 17 [some (.ref a), l1] st N I L P = sm_at C X 85 18 [some (.ref a), l1] (.ref a :: st) N I L P := st_go b85 dX9_clear_17 (by decide) rfl
theorem s85_18 : sm_at C X 85 18 [l0, some (.int x0)] st N I L P = sm_at C X 85 19 [l0, some (.int x0)] (.int x0 :: st) N I L P := st_go b85 dX9_clear_18 (by decide) rfl
theorem s85_19 : sm_at C X 85 19 [l0, some (.int x0)] st N I L P = sm_at C X 85 20 [l0, some (.int x0)] (.int x0 :: st) N I L P := st_go b85 dX9_clear_19 (by decide) rfl
theorem s85_20 : sm_at C X 85 20 ls st N I L P = sm_at C X 85 21 ls (.int (nI 0) :: st) N I L P := st_go b85 dX9_clear_20 (by decide) rfl
theorem s85_21 (h : a < N) (h1 : sm_lay a = .inl 9) : sm_at C X 85 21 ls [w3, w2, w1, .ref a] N I L P = sm_af C X 85 24 ls [] (C 86 [.ref a, w1, w2, w3] N I L P) := st_virt b85 dX9_clear_21 (n := 4) (rest := []) rfl rfl rfl rfl rfl rfl rfl h h1
theorem s85_24 : sm_at C X 85 24 [l0, some (.int x0)] st N I L P = sm_at C X 85 27 [sm_cl l0, some (.int (x0 + (nI 1)))] st N I L P := st_go b85 dX9_clear_24 (by decide) rfl
theorem s85_27 : sm_at C X 85 27 ls st N I L P = sm_at C X 85 11 ls st N I L P := st_go b85 dX9_clear_27 (by decide) rfl
theorem s85_30 : sm_at C X 85 30 ls [] N I L P = some (none, N, I, L, P) := st_ret b85 dX9_clear_30 (by decide) rfl
theorem b86 : sm_b 86 = cX9_shorten := rfl
theorem s86_0 : sm_at C X 86 0 [l0, some (.int x0), l2, l3, l4] st N I L P = sm_at C X 86 1 [l0, some (.int x0), l2, l3, l4] (.int x0 :: st) N I L P := st_go b86 dX9_shorten_0 (by decide) rfl
theorem s86_1 : sm_at C X 86 1 ls [w0] N I L P = sm_af C X 86 4 ls [] (C 134 [w0] N I L P) := st_stat b86 dX9_shorten_1 (n := 1) (rest := []) rfl rfl rfl rfl rfl rfl
theorem s86_4 : sm_at C X 86 4 ls (.int x0 :: st) N I L P = if x0 = 0 then sm_at C X 86 14 ls st N I L P else sm_at C X 86 7 ls st N I L P := st_br b86 dX9_shorten_4 (by decide) rfl
theorem s86_7 : sm_at C X 86 7 [l0, l1, some (.int x0), l3, l4] st N I L P = sm_at C X 86 8 [l0, l1, some (.int x0), l3, l4] (.int x0 :: st) N I L P := st_go b86 dX9_shorten_7 (by decide) rfl
theorem s86_8 : sm_at C X 86 8 ls [w0] N I L P = sm_af C X 86 11 ls [] (C 134 [w0] N I L P) := st_stat b86 dX9_shorten_8 (n := 1) (rest := []) rfl rfl rfl rfl rfl rfl
theorem s86_11 : sm_at C X 86 11 ls (.int x0 :: st) N I L P = if ¬ x0 = 0 then sm_at C X 86 15 ls st N I L P else sm_at C X 86 14 ls st N I L P := st_br b86 dX9_shorten_11 (by decide) rfl
theorem s86_14 : sm_at C X 86 14 ls [] N I L P = some (none, N, I, L, P) := st_ret b86 dX9_shorten_14 (by decide) rfl
theorem s86_15 : sm_at C X 86 15 [l0, some (.int x0), l2, l3, l4] st N I L P = sm_at C X 86 16 [l0, some (.int x0), l2, l3, l4] (.int x0 :: st) N I L P := st_go b86 dX9_shorten_15 (by decide) rfl
theorem s86_16 : sm_at C X 86 16 ls st N I L P = sm_at C X 86 18 ls (.int (nI 6) :: st) N I L P := st_go b86 dX9_shorten_16 (by decide) rfl
theorem s86_18 : sm_at C X 86 18 ls (.int x0 :: .int x1 :: st) N I L P = sm_at C X 86 19 ls (.int (x1 * x0) :: st) N I L P := st_go b86 dX9_shorten_18 (by decide) rfl
theorem s86_19 : sm_at C X 86 19 [l0, l1, some (.int x0), l3, l4] st N I L P = sm_at C X 86 20 [l0, l1, some (.int x0), l3, l4] (.int x0 :: st) N I L P := st_go b86 dX9_shorten_19 (by decide) rfl
theorem s86_20 : sm_at C X 86 20 ls (.int x0 :: .int x1 :: st) N I L P = sm_at C X 86 21 ls (.int (x1 + x0) :: st) N I L P := st_go b86 dX9_shorten_20 (by decide) rfl
theorem s86_21 : sm_at C X 86 21 [l0, l1, l2, l3, l4] (.int x0 :: st) N I L P = sm_at C X 86 23 [l0, l1, l2, sm_cl l3, some (.int x0)] st N I L P := st_go b86 dX9_shorten_21 (by decide) rfl
theorem s86_23 : sm_at C X 86 23 [some (.ref a), l1, l2, l3, l4] st N I L P = sm_at C X 86 24 [some (.ref a), l1, l2, l3, l4] (.ref a :: st) N I L P := st_go b86 dX9_shorten_23 (by decide) rfl
theorem s86_24 (h : a < N) (h1 : sm_lay a = .inl 9) : sm_at C X 86 24 ls (.ref a :: st) N I L P = sm_at C X 86 27 ls (va_rf (P a 0) :: st) N I L P := st_gfR b86 dX9_shorten_24 rfl rfl h h1
theorem s86_27 : sm_at C X 86 27 [l0, l1, l2, l3, some (.int x0)] st N I L P = sm_at C X 86 29 [l0, l1, l2, l3, some (.int x0)] (.int x0 :: st) N I L P := st_go b86 dX9_shorten_27 (by decide) rfl
theorem s86_29 : sm_at C X 86 29 [some (.ref a), l1, l2, l3, l4] st N I L P = sm_at C X 86 30 [some (.ref a), l1, l2, l3, l4] (.ref a :: st) N I L P := st_go b86 dX9_shorten_29 (by decide) rfl
theorem s86_30 (h : a < N) (h1 : sm_lay a = .inl 9) : sm_at C X 86 30 ls (.ref a :: st) N I L P = sm_at C X 86 33 ls (va_rf (P a 0) :: st) N I L P := st_gfR b86 dX9_shorten_30 rfl rfl h h1
theorem s86_33 : sm_at C X 86 33 [l0, l1, l2, l3, some (.int x0)] st N I L P = sm_at C X 86 35 [l0, l1, l2, l3, some (.int x0)] (.int x0 :: st) N I L P := st_go b86 dX9_shorten_33 (by decide) rfl
theorem s86_35 (h : a < N) (h1 : k < sm_al a) : sm_at C X 86 35 ls (.int (nI k) :: .ref a :: st) N I L P = sm_at C X 86 36 ls (.int (I a k) :: st) N I L P := st_iald b86 dX9_shorten_35 h h1
theorem s86_36 : sm_at C X 86 36 [l0, l1, l2, some (.int x0), l4] st N I L P = sm_at C X 86 37 [l0, l1, l2, some (.int x0), l4] (.int x0 :: st) N I L P := st_go b86 dX9_shorten_36 (by decide) rfl
theorem s86_37 : sm_at C X 86 37 ls [w1, w0, v1, v0] N I L P = sm_af C X 86 40 ls [v1, v0] (C 214 [w0, w1] N I L P) := st_stat b86 dX9_shorten_37 (n := 2) (rest := [v1, v0]) rfl rfl rfl rfl rfl rfl
theorem s86_40 (h : a < N) (h1 : k < sm_al a) : sm_at C X 86 40 ls (.int x0 :: .int (nI k) :: .ref a :: st) N I L P = sm_at C X 86 41 ls st N (sm_up I a k x0) L P := st_iast b86 dX9_shorten_40 h h1
theorem s86_41 : sm_at C X 86 41 ls [] N I L P = some (none, N, I, L, P) := st_ret b86 dX9_shorten_41 (by decide) rfl
theorem b87 : sm_b 87 = cX9_joinWays := rfl
theorem s87_0 : sm_at C X 87 0 ls st N I L P = sm_at C X 87 1 ls (.int (nI 0) :: st) N I L P := st_go b87 dX9_joinWays_0 (by decide) rfl
theorem s87_1 : sm_at C X 87 1 [l0, l1, l2] (.int x0 :: st) N I L P = sm_at C X 87 2 [sm_cl l0, some (.int x0), l2] st N I L P := st_go b87 dX9_joinWays_1 (by decide) rfl
theorem s87_2 : sm_at C X 87 2 [l0, some (.int x0), l2] st N I L P = sm_at C X 87 3 [l0, some (.int x0), l2] (.int x0 :: st) N I L P := st_go b87 dX9_joinWays_2 (by decide) rfl
theorem s87_3 : sm_at C X 87 3 ls st N I L P = sm_at C X 87 5 ls (.int (nI 6) :: st) N I L P := st_go b87 dX9_joinWays_3 (by decide) rfl
theorem s87_5 : sm_at C X 87 5 ls (.int x0 :: .int x1 :: st) N I L P = if x0 ≤ x1 then sm_at C X 87 34 ls st N I L P else sm_at C X 87 8 ls st N I L P := st_br b87 dX9_joinWays_5 (by decide) rfl
theorem s87_8 : sm_at C X 87 8 ls st N I L P = sm_at C X 87 9 ls (.int (nI 0) :: st) N I L P := st_go b87 dX9_joinWays_8 (by decide) rfl
theorem s87_9 : sm_at C X 87 9 [l0, l1, l2] (.int x0 :: st) N I L P = sm_at C X 87 10 [l0, sm_cl l1, some (.int x0)] st N I L P := st_go b87 dX9_joinWays_9 (by decide) rfl
theorem s87_10 : sm_at C X 87 10 [l0, l1, some (.int x0)] st N I L P = sm_at C X 87 11 [l0, l1, some (.int x0)] (.int x0 :: st) N I L P := st_go b87 dX9_joinWays_10 (by decide) rfl
theorem s87_11 : sm_at C X 87 11 ls st N I L P = sm_at C X 87 13 ls (.int (nI 6) :: st) N I L P := st_go b87 dX9_joinWays_11 (by decide) rfl
theorem s87_13 : sm_at C X 87 13 ls (.int x0 :: .int x1 :: st) N I L P = if x0 ≤ x1 then sm_at C X 87 28 ls st N I L P else sm_at C X 87 16 ls st N I L P := st_br b87 dX9_joinWays_13 (by decide) rfl
theorem s87_16 : sm_at C X 87 16 [some (.ref a), l1, l2] st N I L P = sm_at C X 87 17 [some (.ref a), l1, l2] (.ref a :: st) N I L P := st_go b87 dX9_joinWays_16 (by decide) rfl
theorem s87_17 : sm_at C X 87 17 [l0, some (.int x0), l2] st N I L P = sm_at C X 87 18 [l0, some (.int x0), l2] (.int x0 :: st) N I L P := st_go b87 dX9_joinWays_17 (by decide) rfl
theorem s87_18 : sm_at C X 87 18 [l0, l1, some (.int x0)] st N I L P = sm_at C X 87 19 [l0, l1, some (.int x0)] (.int x0 :: st) N I L P := st_go b87 dX9_joinWays_18 (by decide) rfl
theorem s87_19 (h : a < N) (h1 : sm_lay a = .inl 9) : sm_at C X 87 19 ls [w2, w1, .ref a] N I L P = sm_af C X 87 22 ls [] (C 88 [.ref a, w1, w2] N I L P) := st_virt b87 dX9_joinWays_19 (n := 3) (rest := []) rfl rfl rfl rfl rfl rfl rfl h h1
theorem s87_22 : sm_at C X 87 22 [l0, l1, some (.int x0)] st N I L P = sm_at C X 87 25 [l0, sm_cl l1, some (.int (x0 + (nI 1)))] st N I L P := st_go b87 dX9_joinWays_22 (by decide) rfl
theorem s87_25 : sm_at C X 87 25 ls st N I L P = sm_at C X 87 10 ls st N I L P := st_go b87 dX9_joinWays_25 (by decide) rfl
theorem s87_28 : sm_at C X 87 28 [l0, some (.int x0), l2] st N I L P = sm_at C X 87 31 [sm_cl l0, some (.int (x0 + (nI 1))), l2] st N I L P := st_go b87 dX9_joinWays_28 (by decide) rfl
theorem s87_31 : sm_at C X 87 31 ls st N I L P = sm_at C X 87 2 ls st N I L P := st_go b87 dX9_joinWays_31 (by decide) rfl
theorem s87_34 : sm_at C X 87 34 ls [] N I L P = some (none, N, I, L, P) := st_ret b87 dX9_joinWays_34 (by decide) rfl
theorem b88 : sm_b 88 = cX9_joinThrough := rfl
theorem s88_0 : sm_at C X 88 0 [some (.ref a), l1, l2, l3, l4] st N I L P = sm_at C X 88 1 [some (.ref a), l1, l2, l3, l4] (.ref a :: st) N I L P := st_go b88 dX9_joinThrough_0 (by decide) rfl
theorem s88_1 : sm_at C X 88 1 [l0, l1, some (.int x0), l3, l4] st N I L P = sm_at C X 88 2 [l0, l1, some (.int x0), l3, l4] (.int x0 :: st) N I L P := st_go b88 dX9_joinThrough_1 (by decide) rfl
theorem s88_2 : sm_at C X 88 2 [l0, some (.int x0), l2, l3, l4] st N I L P = sm_at C X 88 3 [l0, some (.int x0), l2, l3, l4] (.int x0 :: st) N I L P := st_go b88 dX9_joinThrough_2 (by decide) rfl
theorem s88_3 (h : a < N) (h1 : sm_lay a = .inl 9) : sm_at C X 88 3 ls [w2, w1, .ref a] N I L P = sm_af C X 88 6 ls [] (C 84 [.ref a, w1, w2] N I L P) := st_virt b88 dX9_joinThrough_3 (n := 3) (rest := []) rfl rfl rfl rfl rfl rfl rfl h h1
theorem s88_6 : sm_at C X 88 6 [l0, l1, l2, l3, l4] (.int x0 :: st) N I L P = sm_at C X 88 7 [l0, l1, sm_cl l2, some (.int x0), l4] st N I L P := st_go b88 dX9_joinThrough_6 (by decide) rfl
theorem s88_7 : sm_at C X 88 7 [l0, l1, l2, some (.int x0), l4] st N I L P = sm_at C X 88 8 [l0, l1, l2, some (.int x0), l4] (.int x0 :: st) N I L P := st_go b88 dX9_joinThrough_7 (by decide) rfl
theorem s88_8 : sm_at C X 88 8 ls st N I L P = sm_at C X 88 10 ls (.int (nI 100000) :: st) N I L P := st_go b88 dX9_joinThrough_8 (by decide) rfl
theorem s88_10 : sm_at C X 88 10 ls (.int x0 :: .int x1 :: st) N I L P = if x0 ≤ x1 then sm_at C X 88 45 ls st N I L P else sm_at C X 88 13 ls st N I L P := st_br b88 dX9_joinThrough_10 (by decide) rfl
theorem s88_13 : sm_at C X 88 13 ls st N I L P = sm_at C X 88 14 ls (.int (nI 0) :: st) N I L P := st_go b88 dX9_joinThrough_13 (by decide) rfl
theorem s88_14 : sm_at C X 88 14 [l0, l1, l2, l3, l4] (.int x0 :: st) N I L P = sm_at C X 88 16 [l0, l1, l2, sm_cl l3, some (.int x0)] st N I L P := st_go b88 dX9_joinThrough_14 (by decide) rfl
theorem s88_16 : sm_at C X 88 16 [l0, l1, l2, l3, some (.int x0)] st N I L P = sm_at C X 88 18 [l0, l1, l2, l3, some (.int x0)] (.int x0 :: st) N I L P := st_go b88 dX9_joinThrough_16 (by decide) rfl
theorem s88_18 : sm_at C X 88 18 ls st N I L P = sm_at C X 88 20 ls (.int (nI 6) :: st) N I L P := st_go b88 dX9_joinThrough_18 (by decide) rfl
theorem s88_20 : sm_at C X 88 20 ls (.int x0 :: .int x1 :: st) N I L P = if x0 ≤ x1 then sm_at C X 88 45 ls st N I L P else sm_at C X 88 23 ls st N I L P := st_br b88 dX9_joinThrough_20 (by decide) rfl
theorem s88_23 : sm_at C X 88 23 [some (.ref a), l1, l2, l3, l4] st N I L P = sm_at C X 88 24 [some (.ref a), l1, l2, l3, l4] (.ref a :: st) N I L P := st_go b88 dX9_joinThrough_23 (by decide) rfl
theorem s88_24 : sm_at C X 88 24 [l0, l1, some (.int x0), l3, l4] st N I L P = sm_at C X 88 25 [l0, l1, some (.int x0), l3, l4] (.int x0 :: st) N I L P := st_go b88 dX9_joinThrough_24 (by decide) rfl
theorem s88_25 : sm_at C X 88 25 [l0, l1, l2, l3, some (.int x0)] st N I L P = sm_at C X 88 27 [l0, l1, l2, l3, some (.int x0)] (.int x0 :: st) N I L P := st_go b88 dX9_joinThrough_25 (by decide) rfl
theorem s88_27 : sm_at C X 88 27 [l0, l1, l2, some (.int x0), l4] st N I L P = sm_at C X 88 28 [l0, l1, l2, some (.int x0), l4] (.int x0 :: st) N I L P := st_go b88 dX9_joinThrough_27 (by decide) rfl
theorem s88_28 : sm_at C X 88 28 [some (.ref a), l1, l2, l3, l4] st N I L P = sm_at C X 88 29 [some (.ref a), l1, l2, l3, l4] (.ref a :: st) N I L P := st_go b88 dX9_joinThrough_28 (by decide) rfl
theorem s88_29 : sm_at C X 88 29 [l0, some (.int x0), l2, l3, l4] st N I L P = sm_at C X 88 30 [l0, some (.int x0), l2, l3, l4] (.int x0 :: st) N I L P := st_go b88 dX9_joinThrough_29 (by decide) rfl
theorem s88_30 : sm_at C X 88 30 [l0, l1, l2, l3, some (.int x0)] st N I L P = sm_at C X 88 32 [l0, l1, l2, l3, some (.int x0)] (.int x0 :: st) N I L P := st_go b88 dX9_joinThrough_30 (by decide) rfl
theorem s88_32 (h : a < N) (h1 : sm_lay a = .inl 9) : sm_at C X 88 32 ls [w2, w1, .ref a, v3, v2, v1, v0] N I L P = sm_af C X 88 35 ls [v3, v2, v1, v0] (C 84 [.ref a, w1, w2] N I L P) := st_virt b88 dX9_joinThrough_32 (n := 3) (rest := [v3, v2, v1, v0]) rfl rfl rfl rfl rfl rfl rfl h h1
theorem s88_35 : sm_at C X 88 35 ls (.int x0 :: .int x1 :: st) N I L P = sm_at C X 88 36 ls (.int (x1 + x0) :: st) N I L P := st_go b88 dX9_joinThrough_35 (by decide) rfl
theorem s88_36 (h : a < N) (h1 : sm_lay a = .inl 9) : sm_at C X 88 36 ls [w3, w2, w1, .ref a] N I L P = sm_af C X 88 39 ls [] (C 86 [.ref a, w1, w2, w3] N I L P) := st_virt b88 dX9_joinThrough_36 (n := 4) (rest := []) rfl rfl rfl rfl rfl rfl rfl h h1
theorem s88_39 : sm_at C X 88 39 [l0, l1, l2, l3, some (.int x0)] st N I L P = sm_at C X 88 42 [l0, l1, l2, sm_cl l3, some (.int (x0 + (nI 1)))] st N I L P := st_go b88 dX9_joinThrough_39 (by decide) rfl
theorem s88_42 : sm_at C X 88 42 ls st N I L P = sm_at C X 88 16 ls st N I L P := st_go b88 dX9_joinThrough_42 (by decide) rfl
theorem s88_45 : sm_at C X 88 45 ls [] N I L P = some (none, N, I, L, P) := st_ret b88 dX9_joinThrough_45 (by decide) rfl
theorem b89 : sm_b 89 = cX9_takeWithBond := rfl
theorem s89_0 : sm_at C X 89 0 ls st N I L P = sm_at C X 89 1 ls (.int (nI 0) :: st) N I L P := st_go b89 dX9_takeWithBond_0 (by decide) rfl
theorem s89_1 : sm_at C X 89 1 [l0, l1, l2, l3, l4, l5] (.int x0 :: st) N I L P = sm_at C X 89 3 [l0, l1, l2, sm_cl l3, some (.int x0), l5] st N I L P := st_go b89 dX9_takeWithBond_1 (by decide) rfl
theorem s89_3 : sm_at C X 89 3 [l0, l1, l2, l3, some (.int x0), l5] st N I L P = sm_at C X 89 5 [l0, l1, l2, l3, some (.int x0), l5] (.int x0 :: st) N I L P := st_go b89 dX9_takeWithBond_3 (by decide) rfl
theorem s89_5 : sm_at C X 89 5 ls st N I L P = sm_at C X 89 7 ls (.int (nI 6) :: st) N I L P := st_go b89 dX9_takeWithBond_5 (by decide) rfl
theorem s89_7 : sm_at C X 89 7 ls (.int x0 :: .int x1 :: st) N I L P = if x0 ≤ x1 then sm_at C X 89 55 ls st N I L P else sm_at C X 89 10 ls st N I L P := st_br b89 dX9_takeWithBond_7 (by decide) rfl
theorem s89_10 : sm_at C X 89 10 ls st N I L P = sm_at C X 89 11 ls (.int (nI 0) :: st) N I L P := st_go b89 dX9_takeWithBond_10 (by decide) rfl
theorem s89_11 : sm_at C X 89 11 [l0, l1, l2, l3, l4, l5] (.int x0 :: st) N I L P = sm_at C X 89 13 [l0, l1, l2, l3, sm_cl l4, some (.int x0)] st N I L P := st_go b89 dX9_takeWithBond_11 (by decide) rfl
theorem s89_13 : sm_at C X 89 13 [l0, l1, l2, l3, l4, some (.int x0)] st N I L P = sm_at C X 89 15 [l0, l1, l2, l3, l4, some (.int x0)] (.int x0 :: st) N I L P := st_go b89 dX9_takeWithBond_13 (by decide) rfl
theorem s89_15 : sm_at C X 89 15 ls st N I L P = sm_at C X 89 17 ls (.int (nI 6) :: st) N I L P := st_go b89 dX9_takeWithBond_15 (by decide) rfl
theorem s89_17 : sm_at C X 89 17 ls (.int x0 :: .int x1 :: st) N I L P = if x0 ≤ x1 then sm_at C X 89 49 ls st N I L P else sm_at C X 89 20 ls st N I L P := st_br b89 dX9_takeWithBond_17 (by decide) rfl
theorem s89_20 : sm_at C X 89 20 [some (.ref a), l1, l2, l3, l4, l5] st N I L P = sm_at C X 89 21 [some (.ref a), l1, l2, l3, l4, l5] (.ref a :: st) N I L P := st_go b89 dX9_takeWithBond_20 (by decide) rfl
theorem s89_21 (h : a < N) (h1 : sm_lay a = .inl 9) : sm_at C X 89 21 ls (.ref a :: st) N I L P = sm_at C X 89 24 ls (va_rf (P a 0) :: st) N I L P := st_gfR b89 dX9_takeWithBond_21 rfl rfl h h1
theorem s89_24 : sm_at C X 89 24 [l0, l1, l2, l3, some (.int x0), l5] st N I L P = sm_at C X 89 26 [l0, l1, l2, l3, some (.int x0), l5] (.int x0 :: st) N I L P := st_go b89 dX9_takeWithBond_24 (by decide) rfl
theorem s89_26 : sm_at C X 89 26 ls st N I L P = sm_at C X 89 28 ls (.int (nI 6) :: st) N I L P := st_go b89 dX9_takeWithBond_26 (by decide) rfl
theorem s89_28 : sm_at C X 89 28 ls (.int x0 :: .int x1 :: st) N I L P = sm_at C X 89 29 ls (.int (x1 * x0) :: st) N I L P := st_go b89 dX9_takeWithBond_28 (by decide) rfl
theorem s89_29 : sm_at C X 89 29 [l0, l1, l2, l3, l4, some (.int x0)] st N I L P = sm_at C X 89 31 [l0, l1, l2, l3, l4, some (.int x0)] (.int x0 :: st) N I L P := st_go b89 dX9_takeWithBond_29 (by decide) rfl
theorem s89_31 : sm_at C X 89 31 ls (.int x0 :: .int x1 :: st) N I L P = sm_at C X 89 32 ls (.int (x1 + x0) :: st) N I L P := st_go b89 dX9_takeWithBond_31 (by decide) rfl
theorem s89_32 : sm_at C X 89 32 [l0, some (.ref a), l2, l3, l4, l5] st N I L P = sm_at C X 89 33 [l0, some (.ref a), l2, l3, l4, l5] (.ref a :: st) N I L P := st_go b89 dX9_takeWithBond_32 (by decide) rfl
theorem s89_32n : sm_at C X 89 32 [l0, some .null, l2, l3, l4, l5] st N I L P = sm_at C X 89 33 [l0, some .null, l2, l3, l4, l5] (.null :: st) N I L P := st_go b89 dX9_takeWithBond_32 (by decide) rfl
theorem s89_33 : sm_at C X 89 33 [l0, l1, l2, l3, some (.int x0), l5] st N I L P = sm_at C X 89 35 [l0, l1, l2, l3, some (.int x0), l5] (.int x0 :: st) N I L P := st_go b89 dX9_takeWithBond_33 (by decide) rfl
theorem s89_35 : sm_at C X 89 35 [l0, l1, l2, l3, l4, some (.int x0)] st N I L P = sm_at C X 89 37 [l0, l1, l2, l3, l4, some (.int x0)] (.int x0 :: st) N I L P := st_go b89 dX9_takeWithBond_35 (by decide) rfl
theorem s89_37 : sm_at C X 89 37 [l0, l1, some (.int x0), l3, l4, l5] st N I L P = sm_at C X 89 38 [l0, l1, some (.int x0), l3, l4, l5] (.int x0 :: st) N I L P := st_go b89 dX9_takeWithBond_37 (by decide) rfl
theorem s89_38 : sm_at C X 89 38 [l0, l1, l2, some (.int x0), l4, l5] st N I L P = sm_at C X 89 39 [l0, l1, l2, some (.int x0), l4, l5] (.int x0 :: st) N I L P := st_go b89 dX9_takeWithBond_38 (by decide) rfl
theorem s89_39 (h : a < N) (h1 : sm_lay a = .inl 9) : sm_at C X 89 39 ls [w4, w3, w2, w1, .ref a, v1, v0] N I L P = sm_af C X 89 42 ls [v1, v0] (C 92 [.ref a, w1, w2, w3, w4] N I L P) := st_virt b89 dX9_takeWithBond_39 (n := 5) (rest := [v1, v0]) rfl rfl rfl rfl rfl rfl rfl h h1
theorem s89_42 (h : a < N) (h1 : k < sm_al a) : sm_at C X 89 42 ls (.int x0 :: .int (nI k) :: .ref a :: st) N I L P = sm_at C X 89 43 ls st N (sm_up I a k x0) L P := st_iast b89 dX9_takeWithBond_42 h h1
theorem s89_43 : sm_at C X 89 43 [l0, l1, l2, l3, l4, some (.int x0)] st N I L P = sm_at C X 89 46 [l0, l1, l2, l3, sm_cl l4, some (.int (x0 + (nI 1)))] st N I L P := st_go b89 dX9_takeWithBond_43 (by decide) rfl
theorem s89_46 : sm_at C X 89 46 ls st N I L P = sm_at C X 89 13 ls st N I L P := st_go b89 dX9_takeWithBond_46 (by decide) rfl
theorem s89_49 : sm_at C X 89 49 [l0, l1, l2, l3, some (.int x0), l5] st N I L P = sm_at C X 89 52 [l0, l1, l2, sm_cl l3, some (.int (x0 + (nI 1))), l5] st N I L P := st_go b89 dX9_takeWithBond_49 (by decide) rfl
theorem s89_52 : sm_at C X 89 52 ls st N I L P = sm_at C X 89 3 ls st N I L P := st_go b89 dX9_takeWithBond_52 (by decide) rfl
theorem s89_55 : sm_at C X 89 55 ls [] N I L P = some (none, N, I, L, P) := st_ret b89 dX9_takeWithBond_55 (by decide) rfl
theorem b90 : sm_b 90 = cX9_areWithin := rfl
theorem s90_0 : sm_at C X 90 0 ls st N I L P = sm_at C X 90 1 ls (.int (nI 0) :: st) N I L P := st_go b90 dX9_areWithin_0 (by decide) rfl
theorem s90_1 : sm_at C X 90 1 [l0, l1, l2] (.int x0 :: st) N I L P = sm_at C X 90 2 [l0, sm_cl l1, some (.int x0)] st N I L P := st_go b90 dX9_areWithin_1 (by decide) rfl
theorem s90_2 : sm_at C X 90 2 [l0, l1, some (.int x0)] st N I L P = sm_at C X 90 3 [l0, l1, some (.int x0)] (.int x0 :: st) N I L P := st_go b90 dX9_areWithin_2 (by decide) rfl
theorem s90_3 : sm_at C X 90 3 [some (.ref a), l1, l2] st N I L P = sm_at C X 90 4 [some (.ref a), l1, l2] (.ref a :: st) N I L P := st_go b90 dX9_areWithin_3 (by decide) rfl
theorem s90_4 (h : a < N) (h1 : sm_lay a = .inl 9) : sm_at C X 90 4 ls (.ref a :: st) N I L P = sm_at C X 90 7 ls (va_rf (P a 0) :: st) N I L P := st_gfR b90 dX9_areWithin_4 rfl rfl h h1
theorem s90_7 (h : a < N) (h1 : sm_lay a = .inr (.inl k)) : sm_at C X 90 7 ls (.ref a :: st) N I L P = sm_at C X 90 8 ls (.int (nI k) :: st) N I L P := st_alen b90 dX9_areWithin_7 h h1
theorem s90_8 : sm_at C X 90 8 ls (.int x0 :: .int x1 :: st) N I L P = if x0 ≤ x1 then sm_at C X 90 29 ls st N I L P else sm_at C X 90 11 ls st N I L P := st_br b90 dX9_areWithin_8 (by decide) rfl
theorem s90_11 : sm_at C X 90 11 [some (.ref a), l1, l2] st N I L P = sm_at C X 90 12 [some (.ref a), l1, l2] (.ref a :: st) N I L P := st_go b90 dX9_areWithin_11 (by decide) rfl
theorem s90_12 (h : a < N) (h1 : sm_lay a = .inl 9) : sm_at C X 90 12 ls (.ref a :: st) N I L P = sm_at C X 90 15 ls (va_rf (P a 0) :: st) N I L P := st_gfR b90 dX9_areWithin_12 rfl rfl h h1
theorem s90_15 : sm_at C X 90 15 [l0, l1, some (.int x0)] st N I L P = sm_at C X 90 16 [l0, l1, some (.int x0)] (.int x0 :: st) N I L P := st_go b90 dX9_areWithin_15 (by decide) rfl
theorem s90_16 (h : a < N) (h1 : k < sm_al a) : sm_at C X 90 16 ls (.int (nI k) :: .ref a :: st) N I L P = sm_at C X 90 17 ls (.int (I a k) :: st) N I L P := st_iald b90 dX9_areWithin_16 h h1
theorem s90_17 : sm_at C X 90 17 [l0, some (.int x0), l2] st N I L P = sm_at C X 90 18 [l0, some (.int x0), l2] (.int x0 :: st) N I L P := st_go b90 dX9_areWithin_17 (by decide) rfl
theorem s90_18 : sm_at C X 90 18 ls (.int x0 :: .int x1 :: st) N I L P = if x1 ≤ x0 then sm_at C X 90 23 ls st N I L P else sm_at C X 90 21 ls st N I L P := st_br b90 dX9_areWithin_18 (by decide) rfl
theorem s90_21 : sm_at C X 90 21 ls st N I L P = sm_at C X 90 22 ls (.int (nI 0) :: st) N I L P := st_go b90 dX9_areWithin_21 (by decide) rfl
theorem s90_22 (h : x0 = 0 ∨ x0 = 1) : sm_at C X 90 22 ls [.int x0] N I L P = some (some (.int x0), N, I, L, P) := st_zret b90 dX9_areWithin_22 rfl h
theorem s90_23 : sm_at C X 90 23 [l0, l1, some (.int x0)] st N I L P = sm_at C X 90 26 [l0, sm_cl l1, some (.int (x0 + (nI 1)))] st N I L P := st_go b90 dX9_areWithin_23 (by decide) rfl
theorem s90_26 : sm_at C X 90 26 ls st N I L P = sm_at C X 90 2 ls st N I L P := st_go b90 dX9_areWithin_26 (by decide) rfl
theorem s90_29 : sm_at C X 90 29 ls st N I L P = sm_at C X 90 30 ls (.int (nI 1) :: st) N I L P := st_go b90 dX9_areWithin_29 (by decide) rfl
theorem s90_30 (h : x0 = 0 ∨ x0 = 1) : sm_at C X 90 30 ls [.int x0] N I L P = some (some (.int x0), N, I, L, P) := st_zret b90 dX9_areWithin_30 rfl h
theorem b91 : sm_b 91 = cX9_areWithinWithBond := rfl
theorem s91_0 : sm_at C X 91 0 ls st N I L P = sm_at C X 91 1 ls (.int (nI 0) :: st) N I L P := st_go b91 dX9_areWithinWithBond_0 (by decide) rfl
theorem s91_1 : sm_at C X 91 1 [l0, l1, l2, l3, l4, l5] (.int x0 :: st) N I L P = sm_at C X 91 3 [l0, l1, l2, sm_cl l3, some (.int x0), l5] st N I L P := st_go b91 dX9_areWithinWithBond_1 (by decide) rfl
theorem s91_3 : sm_at C X 91 3 [l0, l1, l2, l3, some (.int x0), l5] st N I L P = sm_at C X 91 5 [l0, l1, l2, l3, some (.int x0), l5] (.int x0 :: st) N I L P := st_go b91 dX9_areWithinWithBond_3 (by decide) rfl
theorem s91_5 : sm_at C X 91 5 ls st N I L P = sm_at C X 91 7 ls (.int (nI 6) :: st) N I L P := st_go b91 dX9_areWithinWithBond_5 (by decide) rfl
theorem s91_7 : sm_at C X 91 7 ls (.int x0 :: .int x1 :: st) N I L P = if x0 ≤ x1 then sm_at C X 91 48 ls st N I L P else sm_at C X 91 10 ls st N I L P := st_br b91 dX9_areWithinWithBond_7 (by decide) rfl
theorem s91_10 : sm_at C X 91 10 ls st N I L P = sm_at C X 91 11 ls (.int (nI 0) :: st) N I L P := st_go b91 dX9_areWithinWithBond_10 (by decide) rfl
theorem s91_11 : sm_at C X 91 11 [l0, l1, l2, l3, l4, l5] (.int x0 :: st) N I L P = sm_at C X 91 13 [l0, l1, l2, l3, sm_cl l4, some (.int x0)] st N I L P := st_go b91 dX9_areWithinWithBond_11 (by decide) rfl
theorem s91_13 : sm_at C X 91 13 [l0, l1, l2, l3, l4, some (.int x0)] st N I L P = sm_at C X 91 15 [l0, l1, l2, l3, l4, some (.int x0)] (.int x0 :: st) N I L P := st_go b91 dX9_areWithinWithBond_13 (by decide) rfl
theorem s91_15 : sm_at C X 91 15 ls st N I L P = sm_at C X 91 17 ls (.int (nI 6) :: st) N I L P := st_go b91 dX9_areWithinWithBond_15 (by decide) rfl
theorem s91_17 : sm_at C X 91 17 ls (.int x0 :: .int x1 :: st) N I L P = if x0 ≤ x1 then sm_at C X 91 42 ls st N I L P else sm_at C X 91 20 ls st N I L P := st_br b91 dX9_areWithinWithBond_17 (by decide) rfl
theorem s91_20 : sm_at C X 91 20 [some (.ref a), l1, l2, l3, l4, l5] st N I L P = sm_at C X 91 21 [some (.ref a), l1, l2, l3, l4, l5] (.ref a :: st) N I L P := st_go b91 dX9_areWithinWithBond_20 (by decide) rfl
theorem s91_21 : sm_at C X 91 21 [l0, l1, l2, l3, some (.int x0), l5] st N I L P = sm_at C X 91 23 [l0, l1, l2, l3, some (.int x0), l5] (.int x0 :: st) N I L P := st_go b91 dX9_areWithinWithBond_21 (by decide) rfl
theorem s91_23 : sm_at C X 91 23 [l0, l1, l2, l3, l4, some (.int x0)] st N I L P = sm_at C X 91 25 [l0, l1, l2, l3, l4, some (.int x0)] (.int x0 :: st) N I L P := st_go b91 dX9_areWithinWithBond_23 (by decide) rfl
theorem s91_25 : sm_at C X 91 25 [l0, l1, some (.int x0), l3, l4, l5] st N I L P = sm_at C X 91 26 [l0, l1, some (.int x0), l3, l4, l5] (.int x0 :: st) N I L P := st_go b91 dX9_areWithinWithBond_25 (by decide) rfl
theorem s91_26 : sm_at C X 91 26 [l0, l1, l2, some (.int x0), l4, l5] st N I L P = sm_at C X 91 27 [l0, l1, l2, some (.int x0), l4, l5] (.int x0 :: st) N I L P := st_go b91 dX9_areWithinWithBond_26 (by decide) rfl
theorem s91_27 (h : a < N) (h1 : sm_lay a = .inl 9) : sm_at C X 91 27 ls [w4, w3, w2, w1, .ref a] N I L P = sm_af C X 91 30 ls [] (C 92 [.ref a, w1, w2, w3, w4] N I L P) := st_virt b91 dX9_areWithinWithBond_27 (n := 5) (rest := []) rfl rfl rfl rfl rfl rfl rfl h h1
theorem s91_30 : sm_at C X 91 30 [l0, some (.int x0), l2, l3, l4, l5] st N I L P = sm_at C X 91 31 [l0, some (.int x0), l2, l3, l4, l5] (.int x0 :: st) N I L P := st_go b91 dX9_areWithinWithBond_30 (by decide) rfl
theorem s91_31 : sm_at C X 91 31 ls (.int x0 :: .int x1 :: st) N I L P = if x1 ≤ x0 then sm_at C X 91 36 ls st N I L P else sm_at C X 91 34 ls st N I L P := st_br b91 dX9_areWithinWithBond_31 (by decide) rfl
theorem s91_34 : sm_at C X 91 34 ls st N I L P = sm_at C X 91 35 ls (.int (nI 0) :: st) N I L P := st_go b91 dX9_areWithinWithBond_34 (by decide) rfl
theorem s91_35 (h : x0 = 0 ∨ x0 = 1) : sm_at C X 91 35 ls [.int x0] N I L P = some (some (.int x0), N, I, L, P) := st_zret b91 dX9_areWithinWithBond_35 rfl h
theorem s91_36 : sm_at C X 91 36 [l0, l1, l2, l3, l4, some (.int x0)] st N I L P = sm_at C X 91 39 [l0, l1, l2, l3, sm_cl l4, some (.int (x0 + (nI 1)))] st N I L P := st_go b91 dX9_areWithinWithBond_36 (by decide) rfl
theorem s91_39 : sm_at C X 91 39 ls st N I L P = sm_at C X 91 13 ls st N I L P := st_go b91 dX9_areWithinWithBond_39 (by decide) rfl
theorem s91_42 : sm_at C X 91 42 [l0, l1, l2, l3, some (.int x0), l5] st N I L P = sm_at C X 91 45 [l0, l1, l2, sm_cl l3, some (.int (x0 + (nI 1))), l5] st N I L P := st_go b91 dX9_areWithinWithBond_42 (by decide) rfl
theorem s91_45 : sm_at C X 91 45 ls st N I L P = sm_at C X 91 3 ls st N I L P := st_go b91 dX9_areWithinWithBond_45 (by decide) rfl
theorem s91_48 : sm_at C X 91 48 ls st N I L P = sm_at C X 91 49 ls (.int (nI 1) :: st) N I L P := st_go b91 dX9_areWithinWithBond_48 (by decide) rfl
theorem s91_49 (h : x0 = 0 ∨ x0 = 1) : sm_at C X 91 49 ls [.int x0] N I L P = some (some (.int x0), N, I, L, P) := st_zret b91 dX9_areWithinWithBond_49 rfl h
theorem b92 : sm_b 92 = cX9_betweenWithBond := rfl
theorem s92_0 : sm_at C X 92 0 [some (.ref a), l1, l2, l3, l4, l5, l6] st N I L P = sm_at C X 92 1 [some (.ref a), l1, l2, l3, l4, l5, l6] (.ref a :: st) N I L P := st_go b92 dX9_betweenWithBond_0 (by decide) rfl
theorem s92_1 : sm_at C X 92 1 [l0, some (.int x0), l2, l3, l4, l5, l6] st N I L P = sm_at C X 92 2 [l0, some (.int x0), l2, l3, l4, l5, l6] (.int x0 :: st) N I L P := st_go b92 dX9_betweenWithBond_1 (by decide) rfl
theorem s92_2 : sm_at C X 92 2 [l0, l1, l2, some (.int x0), l4, l5, l6] st N I L P = sm_at C X 92 3 [l0, l1, l2, some (.int x0), l4, l5, l6] (.int x0 :: st) N I L P := st_go b92 dX9_betweenWithBond_2 (by decide) rfl
theorem s92_3 (h : a < N) (h1 : sm_lay a = .inl 9) : sm_at C X 92 3 ls [w2, w1, .ref a] N I L P = sm_af C X 92 6 ls [] (C 84 [.ref a, w1, w2] N I L P) := st_virt b92 dX9_betweenWithBond_3 (n := 3) (rest := []) rfl rfl rfl rfl rfl rfl rfl h h1
theorem s92_6 : sm_at C X 92 6 ls st N I L P = sm_at C X 92 7 ls (.int (nI 1) :: st) N I L P := st_go b92 dX9_betweenWithBond_6 (by decide) rfl
theorem s92_7 : sm_at C X 92 7 ls (.int x0 :: .int x1 :: st) N I L P = sm_at C X 92 8 ls (.int (x1 + x0) :: st) N I L P := st_go b92 dX9_betweenWithBond_7 (by decide) rfl
theorem s92_8 : sm_at C X 92 8 [some (.ref a), l1, l2, l3, l4, l5, l6] st N I L P = sm_at C X 92 9 [some (.ref a), l1, l2, l3, l4, l5, l6] (.ref a :: st) N I L P := st_go b92 dX9_betweenWithBond_8 (by decide) rfl
theorem s92_9 : sm_at C X 92 9 [l0, l1, l2, l3, some (.int x0), l5, l6] st N I L P = sm_at C X 92 11 [l0, l1, l2, l3, some (.int x0), l5, l6] (.int x0 :: st) N I L P := st_go b92 dX9_betweenWithBond_9 (by decide) rfl
theorem s92_11 : sm_at C X 92 11 [l0, l1, some (.int x0), l3, l4, l5, l6] st N I L P = sm_at C X 92 12 [l0, l1, some (.int x0), l3, l4, l5, l6] (.int x0 :: st) N I L P := st_go b92 dX9_betweenWithBond_11 (by decide) rfl
theorem s92_12 (h : a < N) (h1 : sm_lay a = .inl 9) : sm_at C X 92 12 ls [w2, w1, .ref a, v0] N I L P = sm_af C X 92 15 ls [v0] (C 84 [.ref a, w1, w2] N I L P) := st_virt b92 dX9_betweenWithBond_12 (n := 3) (rest := [v0]) rfl rfl rfl rfl rfl rfl rfl h h1
theorem s92_15 : sm_at C X 92 15 ls (.int x0 :: .int x1 :: st) N I L P = sm_at C X 92 16 ls (.int (x1 + x0) :: st) N I L P := st_go b92 dX9_betweenWithBond_15 (by decide) rfl
theorem s92_16 : sm_at C X 92 16 [l0, l1, l2, l3, l4, l5, l6] (.int x0 :: st) N I L P = sm_at C X 92 18 [l0, l1, l2, l3, sm_cl l4, some (.int x0), l6] st N I L P := st_go b92 dX9_betweenWithBond_16 (by decide) rfl
theorem s92_18 : sm_at C X 92 18 [some (.ref a), l1, l2, l3, l4, l5, l6] st N I L P = sm_at C X 92 19 [some (.ref a), l1, l2, l3, l4, l5, l6] (.ref a :: st) N I L P := st_go b92 dX9_betweenWithBond_18 (by decide) rfl
theorem s92_19 : sm_at C X 92 19 [l0, some (.int x0), l2, l3, l4, l5, l6] st N I L P = sm_at C X 92 20 [l0, some (.int x0), l2, l3, l4, l5, l6] (.int x0 :: st) N I L P := st_go b92 dX9_betweenWithBond_19 (by decide) rfl
theorem s92_20 : sm_at C X 92 20 [l0, l1, l2, l3, some (.int x0), l5, l6] st N I L P = sm_at C X 92 22 [l0, l1, l2, l3, some (.int x0), l5, l6] (.int x0 :: st) N I L P := st_go b92 dX9_betweenWithBond_20 (by decide) rfl
theorem s92_22 (h : a < N) (h1 : sm_lay a = .inl 9) : sm_at C X 92 22 ls [w2, w1, .ref a] N I L P = sm_af C X 92 25 ls [] (C 84 [.ref a, w1, w2] N I L P) := st_virt b92 dX9_betweenWithBond_22 (n := 3) (rest := []) rfl rfl rfl rfl rfl rfl rfl h h1
theorem s92_25 : sm_at C X 92 25 ls st N I L P = sm_at C X 92 26 ls (.int (nI 1) :: st) N I L P := st_go b92 dX9_betweenWithBond_25 (by decide) rfl
theorem s92_26 : sm_at C X 92 26 ls (.int x0 :: .int x1 :: st) N I L P = sm_at C X 92 27 ls (.int (x1 + x0) :: st) N I L P := st_go b92 dX9_betweenWithBond_26 (by decide) rfl
theorem s92_27 : sm_at C X 92 27 [some (.ref a), l1, l2, l3, l4, l5, l6] st N I L P = sm_at C X 92 28 [some (.ref a), l1, l2, l3, l4, l5, l6] (.ref a :: st) N I L P := st_go b92 dX9_betweenWithBond_27 (by decide) rfl
theorem s92_28 : sm_at C X 92 28 [l0, l1, l2, some (.int x0), l4, l5, l6] st N I L P = sm_at C X 92 29 [l0, l1, l2, some (.int x0), l4, l5, l6] (.int x0 :: st) N I L P := st_go b92 dX9_betweenWithBond_28 (by decide) rfl
theorem s92_29 : sm_at C X 92 29 [l0, l1, some (.int x0), l3, l4, l5, l6] st N I L P = sm_at C X 92 30 [l0, l1, some (.int x0), l3, l4, l5, l6] (.int x0 :: st) N I L P := st_go b92 dX9_betweenWithBond_29 (by decide) rfl
theorem s92_30 (h : a < N) (h1 : sm_lay a = .inl 9) : sm_at C X 92 30 ls [w2, w1, .ref a, v0] N I L P = sm_af C X 92 33 ls [v0] (C 84 [.ref a, w1, w2] N I L P) := st_virt b92 dX9_betweenWithBond_30 (n := 3) (rest := [v0]) rfl rfl rfl rfl rfl rfl rfl h h1
theorem s92_33 : sm_at C X 92 33 ls (.int x0 :: .int x1 :: st) N I L P = sm_at C X 92 34 ls (.int (x1 + x0) :: st) N I L P := st_go b92 dX9_betweenWithBond_33 (by decide) rfl
theorem s92_34 : sm_at C X 92 34 [l0, l1, l2, l3, l4, l5, l6] (.int x0 :: st) N I L P = sm_at C X 92 36 [l0, l1, l2, l3, l4, sm_cl l5, some (.int x0)] st N I L P := st_go b92 dX9_betweenWithBond_34 (by decide) rfl
theorem s92_36 : sm_at C X 92 36 [some (.ref a), l1, l2, l3, l4, l5, l6] st N I L P = sm_at C X 92 37 [some (.ref a), l1, l2, l3, l4, l5, l6] (.ref a :: st) N I L P := st_go b92 dX9_betweenWithBond_36 (by decide) rfl
theorem s92_37 : sm_at C X 92 37 [l0, some (.int x0), l2, l3, l4, l5, l6] st N I L P = sm_at C X 92 38 [l0, some (.int x0), l2, l3, l4, l5, l6] (.int x0 :: st) N I L P := st_go b92 dX9_betweenWithBond_37 (by decide) rfl
theorem s92_38 : sm_at C X 92 38 [l0, l1, some (.int x0), l3, l4, l5, l6] st N I L P = sm_at C X 92 39 [l0, l1, some (.int x0), l3, l4, l5, l6] (.int x0 :: st) N I L P := st_go b92 dX9_betweenWithBond_38 (by decide) rfl
theorem s92_39 (h : a < N) (h1 : sm_lay a = .inl 9) : sm_at C X 92 39 ls [w2, w1, .ref a] N I L P = sm_af C X 92 42 ls [] (C 84 [.ref a, w1, w2] N I L P) := st_virt b92 dX9_betweenWithBond_39 (n := 3) (rest := []) rfl rfl rfl rfl rfl rfl rfl h h1
theorem s92_42 : sm_at C X 92 42 [l0, l1, l2, l3, l4, some (.int x0), l6] st N I L P = sm_at C X 92 44 [l0, l1, l2, l3, l4, some (.int x0), l6] (.int x0 :: st) N I L P := st_go b92 dX9_betweenWithBond_42 (by decide) rfl
theorem s92_44 : sm_at C X 92 44 [l0, l1, l2, l3, l4, l5, some (.int x0)] st N I L P = sm_at C X 92 46 [l0, l1, l2, l3, l4, l5, some (.int x0)] (.int x0 :: st) N I L P := st_go b92 dX9_betweenWithBond_44 (by decide) rfl
theorem s92_46 : sm_at C X 92 46 ls [w1, w0, v0] N I L P = sm_af C X 92 49 ls [v0] (C 214 [w0, w1] N I L P) := st_stat b92 dX9_betweenWithBond_46 (n := 2) (rest := [v0]) rfl rfl rfl rfl rfl rfl
theorem s92_49 : sm_at C X 92 49 ls [w1, w0] N I L P = sm_af C X 92 52 ls [] (C 214 [w0, w1] N I L P) := st_stat b92 dX9_betweenWithBond_49 (n := 2) (rest := []) rfl rfl rfl rfl rfl rfl
theorem s92_52 : sm_at C X 92 52 ls [.int x0] N I L P = some (some (.int x0), N, I, L, P) := st_iret b92 dX9_betweenWithBond_52 rfl
end STX9
