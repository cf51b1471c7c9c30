section STX4
variable {C : sm_Cf} {X : sm_Xs} {ls : List (Option Value)} {st : List Value} {N : Nat} {I : sm_Im} {L : sm_Lm} {P : sm_Pm} {x0 x1 x2 : Int32} {z0 z1 : Int64} {a a2 k n : Nat} {f : Nat → Int32} {w0 w1 w2 w3 w4 w5 w6 v0 v1 v2 v3 v4 : Value} {l0 l1 l2 l3 l4 l5 l6 l7 l8 l9 l10 l11 l12 l13 l14 l15 l16 : Option Value}
theorem b38 : sm_b 38 = cX4_init := rfl
theorem s38_0 : sm_at C X 38 0 [some (.ref a)] st N I L P = sm_at C X 38 1 [some (.ref a)] (.ref a :: st) N I L P := st_go b38 dX4_init_0 (by decide) rfl
theorem s38_1 : sm_at C X 38 1 ls (.ref a :: []) N I L P = sm_at C X 38 4 ls [] N I L P := st_go b38 dX4_init_1 (by decide) rfl
theorem s38_4 : sm_at C X 38 4 [some (.ref a)] st N I L P = sm_at C X 38 5 [some (.ref a)] (.ref a :: st) N I L P := st_go b38 dX4_init_4 (by decide) rfl
theorem s38_5 : sm_at C X 38 5 ls st N I L P = sm_at C X 38 7 ls (.int (nI 36) :: st) N I L P := st_go b38 dX4_init_5 (by decide) rfl
theorem s38_7 (h : N < 81) (h1 : sm_lay N = .inr (.inl k)) (h2 : k < 1000) : sm_at C X 38 7 ls (.int (nI k) :: st) N I L P = sm_at C X 38 9 ls (.ref N :: st) (N + 1) (sm_z I N 0) L P := st_newa b38 dX4_init_7 h h1 h2
theorem s38_9 (h : a < N) (h1 : sm_lay a = .inl 4) : sm_at C X 38 9 ls (.ref a2 :: .ref a :: st) N I L P = sm_at C X 38 12 ls st N I L (sm_up P a 0 (some a2)) := st_pfR b38 dX4_init_9 rfl rfl (Or.inr ⟨rfl, rfl⟩) h h1
theorem s38_12 : sm_at C X 38 12 [some (.ref a)] st N I L P = sm_at C X 38 13 [some (.ref a)] (.ref a :: st) N I L P := st_go b38 dX4_init_12 (by decide) rfl
theorem s38_13 (h : N < 81) (h1 : sm_lay N = .inl 9) : sm_at C X 38 13 ls st N I L P = sm_at C X 38 16 ls (.ref N :: st) (N + 1) (sm_z I N 0) (sm_z L N 0) (sm_z P N none) := st_new b38 dX4_init_13 rfl h h1
theorem s38_16 : sm_at C X 38 16 ls (.ref a :: st) N I L P = sm_at C X 38 17 ls (.ref a :: .ref a :: st) N I L P := st_go b38 dX4_init_16 (by decide) rfl
theorem s38_17 (h : a < N) (h1 : sm_lay a = .inl 9) : sm_at C X 38 17 ls [.ref a, v1, v0] N I L P = sm_af C X 38 20 ls [v1, v0] (C 83 [.ref a] N I L P) := st_spec b38 dX4_init_17 (n := 1) (rest := [v1, v0]) rfl rfl rfl rfl rfl rfl rfl h h1
theorem s38_20 (h : a < N) (h1 : sm_lay a = .inl 4) : sm_at C X 38 20 ls (.ref a2 :: .ref a :: st) N I L P = sm_at C X 38 23 ls st N I L (sm_up P a 1 (some a2)) := st_pfR b38 dX4_init_20 rfl rfl (Or.inr ⟨rfl, rfl⟩) h h1
theorem s38_23 : sm_at C X 38 23 [some (.ref a)] st N I L P = sm_at C X 38 24 [some (.ref a)] (.ref a :: st) N I L P := st_go b38 dX4_init_23 (by decide) rfl
theorem s38_24 (h : N < 81) (h1 : sm_lay N = .inl 9) : sm_at C X 38 24 ls st N I L P = sm_at C X 38 27 ls (.ref N :: st) (N + 1) (sm_z I N 0) (sm_z L N 0) (sm_z P N none) := st_new b38 dX4_init_24 rfl h h1
theorem s38_27 : sm_at C X 38 27 ls (.ref a :: st) N I L P = sm_at C X 38 28 ls (.ref a :: .ref a :: st) N I L P := st_go b38 dX4_init_27 (by decide) rfl
theorem s38_28 (h : a < N) (h1 : sm_lay a = .inl 9) : sm_at C X 38 28 ls [.ref a, v1, v0] N I L P = sm_af C X 38 31 ls [v1, v0] (C 83 [.ref a] N I L P) := st_spec b38 dX4_init_28 (n := 1) (rest := [v1, v0]) rfl rfl rfl rfl rfl rfl rfl h h1
theorem s38_31 (h : a < N) (h1 : sm_lay a = .inl 4) : sm_at C X 38 31 ls (.ref a2 :: .ref a :: st) N I L P = sm_at C X 38 34 ls st N I L (sm_up P a 2 (some a2)) := st_pfR b38 dX4_init_31 rfl rfl (Or.inr ⟨rfl, rfl⟩) h h1
theorem s38_34 : sm_at C X 38 34 [some (.ref a)] st N I L P = sm_at C X 38 35 [some (.ref a)] (.ref a :: st) N I L P := st_go b38 dX4_init_34 (by decide) rfl
theorem s38_35 : sm_at C X 38 35 ls st N I L P = sm_at C X 38 36 ls (.int (nI 4) :: st) N I L P := st_go b38 dX4_init_35 (by decide) rfl
theorem s38_36 (h : N < 81) (h1 : sm_lay N = .inr (.inl k)) (h2 : k < 1000) : sm_at C X 38 36 ls (.int (nI k) :: st) N I L P = sm_at C X 38 38 ls (.ref N :: st) (N + 1) (sm_z I N 0) L P := st_newa b38 dX4_init_36 h h1 h2
theorem s38_38 (h : a < N) (h1 : sm_lay a = .inl 4) : sm_at C X 38 38 ls (.ref a2 :: .ref a :: st) N I L P = sm_at C X 38 41 ls st N I L (sm_up P a 3 (some a2)) := st_pfR b38 dX4_init_38 rfl rfl (Or.inr ⟨rfl, rfl⟩) h h1
theorem s38_41 : sm_at C X 38 41 ls [] N I L P = some (none, N, I, L, P) := st_ret b38 dX4_init_41 (by decide) rfl
theorem b39 : sm_b 39 = cX4_setRoad := rfl
theorem s39_0 : sm_at C X 39 0 [some (.ref a), l1, l2, l3, l4] st N I L P = sm_at C X 39 1 [some (.ref a), l1, l2, l3, l4] (.ref a :: st) N I L P := st_go b39 dX4_setRoad_0 (by decide) rfl
theorem s39_1 (h : a < N) (h1 : sm_lay a = .inl 4) : sm_at C X 39 1 ls (.ref a :: st) N I L P = sm_at C X 39 4 ls (va_rf (P a 0) :: st) N I L P := st_gfR b39 dX4_setRoad_1 rfl rfl h h1
theorem s39_4 : sm_at C X 39 4 [l0, some (.int x0), l2, l3, l4] st N I L P = sm_at C X 39 5 [l0, some (.int x0), l2, l3, l4] (.int x0 :: st) N I L P := st_go b39 dX4_setRoad_4 (by decide) rfl
theorem s39_5 : sm_at C X 39 5 ls st N I L P = sm_at C X 39 7 ls (.int (nI 6) :: st) N I L P := st_go b39 dX4_setRoad_5 (by decide) rfl
theorem s39_7 : sm_at C X 39 7 ls (.int x0 :: .int x1 :: st) N I L P = sm_at C X 39 8 ls (.int (x1 * x0) :: st) N I L P := st_go b39 dX4_setRoad_7 (by decide) rfl
theorem s39_8 : sm_at C X 39 8 [l0, l1, some (.int x0), l3, l4] st N I L P = sm_at C X 39 9 [l0, l1, some (.int x0), l3, l4] (.int x0 :: st) N I L P := st_go b39 dX4_setRoad_8 (by decide) rfl
theorem s39_9 : sm_at C X 39 9 ls (.int x0 :: .int x1 :: st) N I L P = sm_at C X 39 10 ls (.int (x1 + x0) :: st) N I L P := st_go b39 dX4_setRoad_9 (by decide) rfl
theorem s39_10 (h : a < N) (h1 : k < sm_al a) : sm_at C X 39 10 ls (.int (nI k) :: .ref a :: st) N I L P = sm_at C X 39 11 ls (.int (I a k) :: st) N I L P := st_iald b39 dX4_setRoad_10 h h1
theorem s39_10t0 (h : N ≤ 1000) (h1 : k < 15) : sm_at C X 39 10 ls (.int (nI k) :: .ref 1048576 :: st) N I L P = sm_at C X 39 11 ls (.int (sm_tab 0 k) :: st) N I L P := st_iat0 b39 dX4_setRoad_10 h h1
theorem s39_10t1 (h : N ≤ 1000) (h1 : k < 15) : sm_at C X 39 10 ls (.int (nI k) :: .ref 1048577 :: st) N I L P = sm_at C X 39 11 ls (.int (sm_tab 1 k) :: st) N I L P := st_iat1 b39 dX4_setRoad_10 h h1
theorem s39_11 : sm_at C X 39 11 [l0, l1, l2, l3, l4] (.int x0 :: st) N I L P = sm_at C X 39 13 [l0, l1, l2, sm_cl l3, some (.int x0)] st N I L P := st_go b39 dX4_setRoad_11 (by decide) rfl
theorem s39_13 : sm_at C X 39 13 [some (.ref a), l1, l2, l3, l4] st N I L P = sm_at C X 39 14 [some (.ref a), l1, l2, l3, l4] (.ref a :: st) N I L P := st_go b39 dX4_setRoad_13 (by decide) rfl
theorem s39_14 (h : a < N) (h1 : sm_lay a = .inl 4) : sm_at C X 39 14 ls (.ref a :: st) N I L P = sm_at C X 39 17 ls (va_rf (P a 0) :: st) N I L P := st_gfR b39 dX4_setRoad_14 rfl rfl h h1
theorem s39_17 : sm_at C X 39 17 [l0, some (.int x0), l2, l3, l4] st N I L P = sm_at C X 39 18 [l0, some (.int x0), l2, l3, l4] (.int x0 :: st) N I L P := st_go b39 dX4_setRoad_17 (by decide) rfl
theorem s39_18 : sm_at C X 39 18 ls st N I L P = sm_at C X 39 20 ls (.int (nI 6) :: st) N I L P := st_go b39 dX4_setRoad_18 (by decide) rfl
theorem s39_20 : sm_at C X 39 20 ls (.int x0 :: .int x1 :: st) N I L P = sm_at C X 39 21 ls (.int (x1 * x0) :: st) N I L P := st_go b39 dX4_setRoad_20 (by decide) rfl
theorem s39_21 : sm_at C X 39 21 [l0, l1, some (.int x0), l3, l4] st N I L P = sm_at C X 39 22 [l0, l1, some (.int x0), l3, l4] (.int x0 :: st) N I L P := st_go b39 dX4_setRoad_21 (by decide) rfl
theorem s39_22 : sm_at C X 39 22 ls (.int x0 :: .int x1 :: st) N I L P = sm_at C X 39 23 ls (.int (x1 + x0) :: st) N I L P := st_go b39 dX4_setRoad_22 (by decide) rfl
theorem s39_23 : sm_at C X 39 23 [l0, l1, l2, some (.int x0), l4] st N I L P = sm_at C X 39 24 [l0, l1, l2, some (.int x0), l4] (.int x0 :: st) N I L P := st_go b39 dX4_setRoad_23 (by decide) rfl
theorem s39_24 (h : a < N) (h1 : k < sm_al a) : sm_at C X 39 24 ls (.int x0 :: .int (nI k) :: .ref a :: st) N I L P = sm_at C X 39 25 ls st N (sm_up I a k x0) L P := st_iast b39 dX4_setRoad_24 h h1
theorem s39_25 : sm_at C X 39 25 [some (.ref a), l1, l2, l3, l4] st N I L P = sm_at C X 39 26 [some (.ref a), l1, l2, l3, l4] (.ref a :: st) N I L P := st_go b39 dX4_setRoad_25 (by decide) rfl
theorem s39_26 (h : a < N) (h1 : sm_lay a = .inl 4) : sm_at C X 39 26 ls (.ref a :: st) N I L P = sm_at C X 39 29 ls (va_rf (P a 0) :: st) N I L P := st_gfR b39 dX4_setRoad_26 rfl rfl h h1
theorem s39_29 : sm_at C X 39 29 [l0, l1, some (.int x0), l3, l4] st N I L P = sm_at C X 39 30 [l0, l1, some (.int x0), l3, l4] (.int x0 :: st) N I L P := st_go b39 dX4_setRoad_29 (by decide) rfl
theorem s39_30 : sm_at C X 39 30 ls st N I L P = sm_at C X 39 32 ls (.int (nI 6) :: st) N I L P := st_go b39 dX4_setRoad_30 (by decide) rfl
theorem s39_32 : sm_at C X 39 32 ls (.int x0 :: .int x1 :: st) N I L P = sm_at C X 39 33 ls (.int (x1 * x0) :: st) N I L P := st_go b39 dX4_setRoad_32 (by decide) rfl
theorem s39_33 : sm_at C X 39 33 [l0, some (.int x0), l2, l3, l4] st N I L P = sm_at C X 39 34 [l0, some (.int x0), l2, l3, l4] (.int x0 :: st) N I L P := st_go b39 dX4_setRoad_33 (by decide) rfl
theorem s39_34 : sm_at C X 39 34 ls (.int x0 :: .int x1 :: st) N I L P = sm_at C X 39 35 ls (.int (x1 + x0) :: st) N I L P := st_go b39 dX4_setRoad_34 (by decide) rfl
theorem s39_35 : sm_at C X 39 35 [l0, l1, l2, some (.int x0), l4] st N I L P = sm_at C X 39 36 [l0, l1, l2, some (.int x0), l4] (.int x0 :: st) N I L P := st_go b39 dX4_setRoad_35 (by decide) rfl
theorem s39_36 (h : a < N) (h1 : k < sm_al a) : sm_at C X 39 36 ls (.int x0 :: .int (nI k) :: .ref a :: st) N I L P = sm_at C X 39 37 ls st N (sm_up I a k x0) L P := st_iast b39 dX4_setRoad_36 h h1
theorem s39_37 : sm_at C X 39 37 [l0, l1, l2, l3, some (.int x0)] st N I L P = sm_at C X 39 39 [l0, l1, l2, l3, some (.int x0)] (.int x0 :: st) N I L P := st_go b39 dX4_setRoad_37 (by decide) rfl
theorem s39_39 : sm_at C X 39 39 ls [.int x0] N I L P = some (some (.int x0), N, I, L, P) := st_iret b39 dX4_setRoad_39 rfl
theorem b40 : sm_b 40 = cX4_roads := rfl
theorem s40_0 : sm_at C X 40 0 ls st N I L P = sm_at C X 40 1 ls (.int (nI 0) :: st) N I L P := st_go b40 dX4_roads_0 (by decide) rfl
theorem s40_1 : sm_at C X 40 1 [l0, l1, l2] (.int x0 :: st) N I L P = sm_at C X 40 2 [sm_cl l0, some (.int x0), l2] st N I L P := st_go b40 dX4_roads_1 (by decide) rfl
theorem s40_2 : sm_at C X 40 2 ls st N I L P = sm_at C X 40 3 ls (.int (nI 0) :: st) N I L P := st_go b40 dX4_roads_2 (by decide) rfl
theorem s40_3 : sm_at C X 40 3 [l0, l1, l2] (.int x0 :: st) N I L P = sm_at C X 40 4 [l0, sm_cl l1, some (.int x0)] st N I L P := st_go b40 dX4_roads_3 (by decide) rfl
theorem s40_4 : sm_at C X 40 4 [l0, l1, some (.int x0)] st N I L P = sm_at C X 40 5 [l0, l1, some (.int x0)] (.int x0 :: st) N I L P := st_go b40 dX4_roads_4 (by decide) rfl
theorem s40_5 : sm_at C X 40 5 [some (.ref a), l1, l2] st N I L P = sm_at C X 40 6 [some (.ref a), l1, l2] (.ref a :: st) N I L P := st_go b40 dX4_roads_5 (by decide) rfl
theorem s40_6 (h : a < N) (h1 : sm_lay a = .inl 4) : sm_at C X 40 6 ls (.ref a :: st) N I L P = sm_at C X 40 9 ls (va_rf (P a 0) :: st) N I L P := st_gfR b40 dX4_roads_6 rfl rfl h h1
theorem s40_9 (h : a < N) (h1 : sm_lay a = .inr (.inl k)) : sm_at C X 40 9 ls (.ref a :: st) N I L P = sm_at C X 40 10 ls (.int (nI k) :: st) N I L P := st_alen b40 dX4_roads_9 h h1
theorem s40_10 : sm_at C X 40 10 ls (.int x0 :: .int x1 :: st) N I L P = if x0 ≤ x1 then sm_at C X 40 31 ls st N I L P else sm_at C X 40 13 ls st N I L P := st_br b40 dX4_roads_10 (by decide) rfl
theorem s40_13 : sm_at C X 40 13 [some (.ref a), l1, l2] st N I L P = sm_at C X 40 14 [some (.ref a), l1, l2] (.ref a :: st) N I L P := st_go b40 dX4_roads_13 (by decide) rfl
theorem s40_14 (h : a < N) (h1 : sm_lay a = .inl 4) : sm_at C X 40 14 ls (.ref a :: st) N I L P = sm_at C X 40 17 ls (va_rf (P a 0) :: st) N I L P := st_gfR b40 dX4_roads_14 rfl rfl h h1
theorem s40_17 : sm_at C X 40 17 [l0, l1, some (.int x0)] st N I L P = sm_at C X 40 18 [l0, l1, some (.int x0)] (.int x0 :: st) N I L P := st_go b40 dX4_roads_17 (by decide) rfl
theorem s40_18 (h : a < N) (h1 : k < sm_al a) : sm_at C X 40 18 ls (.int (nI k) :: .ref a :: st) N I L P = sm_at C X 40 19 ls (.int (I a k) :: st) N I L P := st_iald b40 dX4_roads_18 h h1
theorem s40_18t0 (h : N ≤ 1000) (h1 : k < 15) : sm_at C X 40 18 ls (.int (nI k) :: .ref 1048576 :: st) N I L P = sm_at C X 40 19 ls (.int (sm_tab 0 k) :: st) N I L P := st_iat0 b40 dX4_roads_18 h h1
theorem s40_18t1 (h : N ≤ 1000) (h1 : k < 15) : sm_at C X 40 18 ls (.int (nI k) :: .ref 1048577 :: st) N I L P = sm_at C X 40 19 ls (.int (sm_tab 1 k) :: st) N I L P := st_iat1 b40 dX4_roads_18 h h1
theorem s40_19 : sm_at C X 40 19 ls (.int x0 :: st) N I L P = if x0 = 0 then sm_at C X 40 25 ls st N I L P else sm_at C X 40 22 ls st N I L P := st_br b40 dX4_roads_19 (by decide) rfl
theorem s40_22 : sm_at C X 40 22 [l0, some (.int x0), l2] st N I L P = sm_at C X 40 25 [sm_cl l0, some (.int (x0 + (nI 1))), l2] st N I L P := st_go b40 dX4_roads_22 (by decide) rfl
theorem s40_25 : sm_at C X 40 25 [l0, l1, some (.int x0)] st N I L P = sm_at C X 40 28 [l0, sm_cl l1, some (.int (x0 + (nI 1)))] st N I L P := st_go b40 dX4_roads_25 (by decide) rfl
theorem s40_28 : sm_at C X 40 28 ls st N I L P = sm_at C X 40 4 ls st N I L P := st_go b40 dX4_roads_28 (by decide) rfl
theorem s40_31 : sm_at C X 40 31 [l0, some (.int x0), l2] st N I L P = sm_at C X 40 32 [l0, some (.int x0), l2] (.int x0 :: st) N I L P := st_go b40 dX4_roads_31 (by decide) rfl
theorem s40_32 : sm_at C X 40 32 ls st N I L P = sm_at C X 40 33 ls (.int (nI 2) :: st) N I L P := st_go b40 dX4_roads_32 (by decide) rfl
theorem s40_33 (h : ¬ x0 = 0) : sm_at C X 40 33 ls (.int x0 :: .int x1 :: st) N I L P = sm_at C X 40 34 ls (.int (x1 / x0) :: st) N I L P := st_idiv b40 dX4_roads_33 h
theorem s40_34 : sm_at C X 40 34 ls [.int x0] N I L P = some (some (.int x0), N, I, L, P) := st_iret b40 dX4_roads_34 rfl
theorem b41 : sm_b 41 = cX4_reckon := rfl
theorem s41_0 : sm_at C X 41 0 [some (.ref a), l1, l2, l3, l4, l5, l6] st N I L P = sm_at C X 41 1 [some (.ref a), l1, l2, l3, l4, l5, l6] (.ref a :: st) N I L P := st_go b41 dX4_reckon_0 (by decide) rfl
theorem s41_1 (h : a < N) (h1 : sm_lay a = .inl 4) : sm_at C X 41 1 ls (.ref a :: st) N I L P = sm_at C X 41 4 ls (va_rf (P a 1) :: st) N I L P := st_gfR b41 dX4_reckon_1 rfl rfl h h1
theorem s41_4 (h : a < N) (h1 : sm_lay a = .inl 9) : sm_at C X 41 4 ls [.ref a] N I L P = sm_af C X 41 7 ls [] (C 85 [.ref a] N I L P) := st_virt b41 dX4_reckon_4 (n := 1) (rest := []) rfl rfl rfl rfl rfl rfl rfl h h1
theorem s41_7 : sm_at C X 41 7 ls st N I L P = sm_at C X 41 8 ls (.int (nI 0) :: st) N I L P := st_go b41 dX4_reckon_7 (by decide) rfl
theorem s41_8 : sm_at C X 41 8 [l0, l1, l2, l3, l4, l5, l6] (.int x0 :: st) N I L P = sm_at C X 41 10 [l0, l1, l2, sm_cl l3, some (.int x0), l5, l6] st N I L P := st_go b41 dX4_reckon_8 (by decide) rfl
theorem s41_10 : sm_at C X 41 10 [l0, l1, l2, l3, some (.int x0), l5, l6] st N I L P = sm_at C X 41 12 [l0, l1, l2, l3, some (.int x0), l5, l6] (.int x0 :: st) N I L P := st_go b41 dX4_reckon_10 (by decide) rfl
theorem s41_12 : sm_at C X 41 12 ls st N I L P = sm_at C X 41 14 ls (.int (nI 6) :: st) N I L P := st_go b41 dX4_reckon_12 (by decide) rfl
theorem s41_14 : sm_at C X 41 14 ls (.int x0 :: .int x1 :: st) N I L P = if x0 ≤ x1 then sm_at C X 41 72 ls st N I L P else sm_at C X 41 17 ls st N I L P := st_br b41 dX4_reckon_14 (by decide) rfl
theorem s41_17 : sm_at C X 41 17 ls st N I L P = sm_at C X 41 18 ls (.int (nI 0) :: st) N I L P := st_go b41 dX4_reckon_17 (by decide) rfl
theorem s41_18 : sm_at C X 41 18 [l0, l1, l2, l3, l4, l5, l6] (.int x0 :: st) N I L P = sm_at C X 41 20 [l0, l1, l2, l3, sm_cl l4, some (.int x0), l6] st N I L P := st_go b41 dX4_reckon_18 (by decide) rfl
theorem s41_20 : sm_at C X 41 20 [l0, l1, l2, l3, l4, some (.int x0), l6] st N I L P = sm_at C X 41 22 [l0, l1, l2, l3, l4, some (.int x0), l6] (.int x0 :: st) N I L P := st_go b41 dX4_reckon_20 (by decide) rfl
theorem s41_22 : sm_at C X 41 22 ls st N I L P = sm_at C X 41 24 ls (.int (nI 6) :: st) N I L P := st_go b41 dX4_reckon_22 (by decide) rfl
theorem s41_24 : sm_at C X 41 24 ls (.int x0 :: .int x1 :: st) N I L P = if x0 ≤ x1 then sm_at C X 41 66 ls st N I L P else sm_at C X 41 27 ls st N I L P := st_br b41 dX4_reckon_24 (by decide) rfl
theorem s41_27 : sm_at C X 41 27 [some (.ref a), l1, l2, l3, l4, l5, l6] st N I L P = sm_at C X 41 28 [some (.ref a), l1, l2, l3, l4, l5, l6] (.ref a :: st) N I L P := st_go b41 dX4_reckon_27 (by decide) rfl
theorem s41_28 (h : a < N) (h1 : sm_lay a = .inl 4) : sm_at C X 41 28 ls (.ref a :: st) N I L P = sm_at C X 41 31 ls (va_rf (P a 0) :: st) N I L P := st_gfR b41 dX4_reckon_28 rfl rfl h h1
theorem s41_31 : sm_at C X 41 31 [l0, l1, l2, l3, some (.int x0), l5, l6] st N I L P = sm_at C X 41 33 [l0, l1, l2, l3, some (.int x0), l5, l6] (.int x0 :: st) N I L P := st_go b41 dX4_reckon_31 (by decide) rfl
theorem s41_33 : sm_at C X 41 33 ls st N I L P = sm_at C X 41 35 ls (.int (nI 6) :: st) N I L P := st_go b41 dX4_reckon_33 (by decide) rfl
theorem s41_35 : sm_at C X 41 35 ls (.int x0 :: .int x1 :: st) N I L P = sm_at C X 41 36 ls (.int (x1 * x0) :: st) N I L P := st_go b41 dX4_reckon_35 (by decide) rfl
theorem s41_36 : sm_at C X 41 36 [l0, l1, l2, l3, l4, some (.int x0), l6] st N I L P = sm_at C X 41 38 [l0, l1, l2, l3, l4, some (.int x0), l6] (.int x0 :: st) N I L P := st_go b41 dX4_reckon_36 (by decide) rfl
theorem s41_38 : sm_at C X 41 38 ls (.int x0 :: .int x1 :: st) N I L P = sm_at C X 41 39 ls (.int (x1 + x0) :: st) N I L P := st_go b41 dX4_reckon_38 (by decide) rfl
theorem s41_39 (h : a < N) (h1 : k < sm_al a) : sm_at C X 41 39 ls (.int (nI k) :: .ref a :: st) N I L P = sm_at C X 41 40 ls (.int (I a k) :: st) N I L P := st_iald b41 dX4_reckon_39 h h1
theorem s41_39t0 (h : N ≤ 1000) (h1 : k < 15) : sm_at C X 41 39 ls (.int (nI k) :: .ref 1048576 :: st) N I L P = sm_at C X 41 40 ls (.int (sm_tab 0 k) :: st) N I L P := st_iat0 b41 dX4_reckon_39 h h1
theorem s41_39t1 (h : N ≤ 1000) (h1 : k < 15) : sm_at C X 41 39 ls (.int (nI k) :: .ref 1048577 :: st) N I L P = sm_at C X 41 40 ls (.int (sm_tab 1 k) :: st) N I L P := st_iat1 b41 dX4_reckon_39 h h1
theorem s41_40 : sm_at C X 41 40 [l0, l1, l2, l3, l4, l5, l6] (.int x0 :: st) N I L P = sm_at C X 41 42 [l0, l1, l2, l3, l4, sm_cl l5, some (.int x0)] st N I L P := st_go b41 dX4_reckon_40 (by decide) rfl
theorem s41_42 : sm_at C X 41 42 [l0, l1, l2, l3, l4, l5, some (.int x0)] st N I L P = sm_at C X 41 44 [l0, l1, l2, l3, l4, l5, some (.int x0)] (.int x0 :: st) N I L P := st_go b41 dX4_reckon_42 (by decide) rfl
theorem s41_44 : sm_at C X 41 44 ls (.int x0 :: st) N I L P = if x0 = 0 then sm_at C X 41 60 ls st N I L P else sm_at C X 41 47 ls st N I L P := st_br b41 dX4_reckon_44 (by decide) rfl
theorem s41_47 : sm_at C X 41 47 [some (.ref a), l1, l2, l3, l4, l5, l6] st N I L P = sm_at C X 41 48 [some (.ref a), l1, l2, l3, l4, l5, l6] (.ref a :: st) N I L P := st_go b41 dX4_reckon_47 (by decide) rfl
theorem s41_48 (h : a < N) (h1 : sm_lay a = .inl 4) : sm_at C X 41 48 ls (.ref a :: st) N I L P = sm_at C X 41 51 ls (va_rf (P a 1) :: st) N I L P := st_gfR b41 dX4_reckon_48 rfl rfl h h1
theorem s41_51 : sm_at C X 41 51 [l0, l1, l2, l3, some (.int x0), l5, l6] st N I L P = sm_at C X 41 53 [l0, l1, l2, l3, some (.int x0), l5, l6] (.int x0 :: st) N I L P := st_go b41 dX4_reckon_51 (by decide) rfl
theorem s41_53 : sm_at C X 41 53 [l0, l1, l2, l3, l4, some (.int x0), l6] st N I L P = sm_at C X 41 55 [l0, l1, l2, l3, l4, some (.int x0), l6] (.int x0 :: st) N I L P := st_go b41 dX4_reckon_53 (by decide) rfl
theorem s41_55 : sm_at C X 41 55 [l0, l1, l2, l3, l4, l5, some (.int x0)] st N I L P = sm_at C X 41 57 [l0, l1, l2, l3, l4, l5, some (.int x0)] (.int x0 :: st) N I L P := st_go b41 dX4_reckon_55 (by decide) rfl
theorem s41_57 (h : a < N) (h1 : sm_lay a = .inl 9) : sm_at C X 41 57 ls [w3, w2, w1, .ref a] N I L P = sm_af C X 41 60 ls [] (C 86 [.ref a, w1, w2, w3] N I L P) := st_virt b41 dX4_reckon_57 (n := 4) (rest := []) rfl rfl rfl rfl rfl rfl rfl h h1
theorem s41_60 : sm_at C X 41 60 [l0, l1, l2, l3, l4, some (.int x0), l6] st N I L P = sm_at C X 41 63 [l0, l1, l2, l3, sm_cl l4, some (.int (x0 + (nI 1))), l6] st N I L P := st_go b41 dX4_reckon_60 (by decide) rfl
theorem s41_63 : sm_at C X 41 63 ls st N I L P = sm_at C X 41 20 ls st N I L P := st_go b41 dX4_reckon_63 (by decide) rfl
theorem s41_66 : sm_at C X 41 66 [l0, l1, l2, l3, some (.int x0), l5, l6] st N I L P = sm_at C X 41 69 [l0, l1, l2, sm_cl l3, some (.int (x0 + (nI 1))), l5, l6] st N I L P := st_go b41 dX4_reckon_66 (by decide) rfl
theorem s41_69 : sm_at C X 41 69 ls st N I L P = sm_at C X 41 10 ls st N I L P := st_go b41 dX4_reckon_69 (by decide) rfl
theorem s41_72 : sm_at C X 41 72 ls st N I L P = sm_at C X 41 73 ls (.int (nI 0) :: st) N I L P := st_go b41 dX4_reckon_72 (by decide) rfl
theorem s41_73 : sm_at C X 41 73 [l0, l1, l2, l3, l4, l5, l6] (.int x0 :: st) N I L P = sm_at C X 41 75 [l0, l1, l2, sm_cl l3, some (.int x0), l5, l6] st N I L P := st_go b41 dX4_reckon_73 (by decide) rfl
theorem s41_75 : sm_at C X 41 75 [l0, l1, l2, l3, some (.int x0), l5, l6] st N I L P = sm_at C X 41 77 [l0, l1, l2, l3, some (.int x0), l5, l6] (.int x0 :: st) N I L P := st_go b41 dX4_reckon_75 (by decide) rfl
theorem s41_77 : sm_at C X 41 77 [l0, some (.ref a), l2, l3, l4, l5, l6] st N I L P = sm_at C X 41 78 [l0, some (.ref a), l2, l3, l4, l5, l6] (.ref a :: st) N I L P := st_go b41 dX4_reckon_77 (by decide) rfl
theorem s41_77n : sm_at C X 41 77 [l0, some .null, l2, l3, l4, l5, l6] st N I L P = sm_at C X 41 78 [l0, some .null, l2, l3, l4, l5, l6] (.null :: st) N I L P := st_go b41 dX4_reckon_77 (by decide) rfl
theorem s41_78 (h : a < N) (h1 : sm_lay a = .inl 6) : sm_at C X 41 78 ls [.ref a, v0] N I L P = sm_af C X 41 81 ls [v0] (C 59 [.ref a] N I L P) := st_virt b41 dX4_reckon_78 (n := 1) (rest := [v0]) rfl rfl rfl rfl rfl rfl rfl h h1
theorem s41_81 : sm_at C X 41 81 ls (.int x0 :: .int x1 :: st) N I L P = if x0 ≤ x1 then sm_at C X 41 128 ls st N I L P else sm_at C X 41 84 ls st N I L P := st_br b41 dX4_reckon_81 (by decide) rfl
theorem s41_84 : sm_at C X 41 84 [l0, some (.ref a), l2, l3, l4, l5, l6] st N I L P = sm_at C X 41 85 [l0, some (.ref a), l2, l3, l4, l5, l6] (.ref a :: st) N I L P := st_go b41 dX4_reckon_84 (by decide) rfl
theorem s41_84n : sm_at C X 41 84 [l0, some .null, l2, l3, l4, l5, l6] st N I L P = sm_at C X 41 85 [l0, some .null, l2, l3, l4, l5, l6] (.null :: st) N I L P := st_go b41 dX4_reckon_84 (by decide) rfl
theorem s41_85 : sm_at C X 41 85 [l0, l1, l2, l3, some (.int x0), l5, l6] st N I L P = sm_at C X 41 87 [l0, l1, l2, l3, some (.int x0), l5, l6] (.int x0 :: st) N I L P := st_go b41 dX4_reckon_85 (by decide) rfl
theorem s41_87 (h : a < N) (h1 : sm_lay a = .inl 6) : sm_at C X 41 87 ls [w1, .ref a] N I L P = sm_af C X 41 90 ls [] (C 60 [.ref a, w1] N I L P) := st_virt b41 dX4_reckon_87 (n := 2) (rest := []) rfl rfl rfl rfl rfl rfl rfl h h1
theorem s41_90 : sm_at C X 41 90 [l0, l1, l2, l3, l4, l5, l6] (.ref a :: st) N I L P = sm_at C X 41 92 [l0, l1, l2, l3, sm_cl l4, some (.ref a), l6] st N I L P := st_go b41 dX4_reckon_90 (by decide) rfl
theorem s41_90n : sm_at C X 41 90 [l0, l1, l2, l3, l4, l5, l6] (.null :: st) N I L P = sm_at C X 41 92 [l0, l1, l2, l3, sm_cl l4, some .null, l6] st N I L P := st_go b41 dX4_reckon_90 (by decide) rfl
theorem s41_92 : sm_at C X 41 92 [l0, l1, l2, l3, l4, some (.ref a), l6] st N I L P = sm_at C X 41 94 [l0, l1, l2, l3, l4, some (.ref a), l6] (.ref a :: st) N I L P := st_go b41 dX4_reckon_92 (by decide) rfl
theorem s41_92n : sm_at C X 41 92 [l0, l1, l2, l3, l4, some .null, l6] st N I L P = sm_at C X 41 94 [l0, l1, l2, l3, l4, some .null, l6] (.null :: st) N I L P := st_go b41 dX4_reckon_92 (by decide) rfl
theorem s41_94 : sm_at C X 41 94 ls (.ref a :: st) N I L P = sm_at C X 41 97 ls st N I L P := st_go b41 dX4_reckon_94 (by decide) rfl
theorem s41_94n : sm_at C X 41 94 ls (.null :: st) N I L P = sm_at C X 41 122 ls st N I L P := st_go b41 dX4_reckon_94 (by decide) rfl
theorem s41_97 : sm_at C X 41 97 [l0, l1, l2, l3, l4, some (.ref a), l6] st N I L P = sm_at C X 41 99 [l0, l1, l2, l3, l4, some (.ref a), l6] (.ref a :: st) N I L P := st_go b41 dX4_reckon_97 (by decide) rfl
theorem s41_97n : sm_at C X 41 97 [l0, l1, l2, l3, l4, some .null, l6] st N I L P = sm_at C X 41 99 [l0, l1, l2, l3, l4, some .null, l6] (.null :: st) N I L P := st_go b41 dX4_reckon_97 (by decide) rfl
theorem s41_99 : sm_at C X 41 99 ls st N I L P = sm_at C X 41 100 ls (.int (nI 2) :: st) N I L P := st_go b41 dX4_reckon_99 (by decide) rfl
theorem s41_100 (h : a < N) (h1 : sm_lay a = .inl 0) : sm_at C X 41 100 ls [w1, .ref a] N I L P = sm_af C X 41 103 ls [] (C 7 [.ref a, w1] N I L P) := st_virt b41 dX4_reckon_100 (n := 2) (rest := []) rfl rfl rfl rfl rfl rfl rfl h h1
theorem s41_103 : sm_at C X 41 103 ls (.int x0 :: st) N I L P = if ¬ x0 = 0 then sm_at C X 41 122 ls st N I L P else sm_at C X 41 106 ls st N I L P := st_br b41 dX4_reckon_103 (by decide) rfl
theorem s41_106 : sm_at C X 41 106 [l0, l1, l2, l3, l4, some (.ref a), l6] st N I L P = sm_at C X 41 108 [l0, l1, l2, l3, l4, some (.ref a), l6] (.ref a :: st) N I L P := st_go b41 dX4_reckon_106 (by decide) rfl
theorem s41_106n : sm_at C X 41 106 [l0, l1, l2, l3, l4, some .null, l6] st N I L P = sm_at C X 41 108 [l0, l1, l2, l3, l4, some .null, l6] (.null :: st) N I L P := st_go b41 dX4_reckon_106 (by decide) rfl
theorem s41_108 : sm_at C X 41 108 [l0, l1, l2, some (.int x0), l4, l5, l6] st N I L P = sm_at C X 41 109 [l0, l1, l2, some (.int x0), l4, l5, l6] (.int x0 :: st) N I L P := st_go b41 dX4_reckon_108 (by decide) rfl
theorem s41_109 (h : a < N) (h1 : sm_lay a = .inl 0) : sm_at C X 41 109 ls [w1, .ref a] N I L P = sm_af C X 41 112 ls [] (C 13 [.ref a, w1] N I L P) := st_virt b41 dX4_reckon_109 (n := 2) (rest := []) rfl rfl rfl rfl rfl rfl rfl h h1
theorem s41_112 : sm_at C X 41 112 ls (.int x0 :: st) N I L P = if ¬ x0 = 0 then sm_at C X 41 122 ls st N I L P else sm_at C X 41 115 ls st N I L P := st_br b41 dX4_reckon_112 (by decide) rfl
theorem s41_115 : sm_at C X 41 115 [some (.ref a), l1, l2, l3, l4, l5, l6] st N I L P = sm_at C X 41 116 [some (.ref a), l1, l2, l3, l4, l5, l6] (.ref a :: st) N I L P := st_go b41 dX4_reckon_115 (by decide) rfl
theorem s41_116 : sm_at C X 41 116 [l0, l1, l2, l3, l4, some (.ref a), l6] st N I L P = sm_at C X 41 118 [l0, l1, l2, l3, l4, some (.ref a), l6] (.ref a :: st) N I L P := st_go b41 dX4_reckon_116 (by decide) rfl
theorem s41_116n : sm_at C X 41 116 [l0, l1, l2, l3, l4, some .null, l6] st N I L P = sm_at C X 41 118 [l0, l1, l2, l3, l4, some .null, l6] (.null :: st) N I L P := st_go b41 dX4_reckon_116 (by decide) rfl
theorem s41_118 : sm_at C X 41 118 [l0, l1, some (.ref a), l3, l4, l5, l6] st N I L P = sm_at C X 41 119 [l0, l1, some (.ref a), l3, l4, l5, l6] (.ref a :: st) N I L P := st_go b41 dX4_reckon_118 (by decide) rfl
theorem s41_118n : sm_at C X 41 118 [l0, l1, some .null, l3, l4, l5, l6] st N I L P = sm_at C X 41 119 [l0, l1, some .null, l3, l4, l5, l6] (.null :: st) N I L P := st_go b41 dX4_reckon_118 (by decide) rfl
theorem s41_119 (h : a < N) (h1 : sm_lay a = .inl 4) : sm_at C X 41 119 ls [w2, w1, .ref a] N I L P = sm_af C X 41 122 ls [] (C 42 [.ref a, w1, w2] N I L P) := st_virt b41 dX4_reckon_119 (n := 3) (rest := []) rfl rfl rfl rfl rfl rfl rfl h h1
theorem s41_122 : sm_at C X 41 122 [l0, l1, l2, l3, some (.int x0), l5, l6] st N I L P = sm_at C X 41 125 [l0, l1, l2, sm_cl l3, some (.int (x0 + (nI 1))), l5, l6] st N I L P := st_go b41 dX4_reckon_122 (by decide) rfl
theorem s41_125 : sm_at C X 41 125 ls st N I L P = sm_at C X 41 75 ls st N I L P := st_go b41 dX4_reckon_125 (by decide) rfl
theorem s41_128 : sm_at C X 41 128 [some (.ref a), l1, l2, l3, l4, l5, l6] st N I L P = sm_at C X 41 129 [some (.ref a), l1, l2, l3, l4, l5, l6] (.ref a :: st) N I L P := st_go b41 dX4_reckon_128 (by decide) rfl
theorem s41_129 (h : a < N) (h1 : sm_lay a = .inl 4) : sm_at C X 41 129 ls (.ref a :: st) N I L P = sm_at C X 41 132 ls (va_rf (P a 1) :: st) N I L P := st_gfR b41 dX4_reckon_129 rfl rfl h h1
theorem s41_132 (h : a < N) (h1 : sm_lay a = .inl 9) : sm_at C X 41 132 ls [.ref a] N I L P = sm_af C X 41 135 ls [] (C 87 [.ref a] N I L P) := st_virt b41 dX4_reckon_132 (n := 1) (rest := []) rfl rfl rfl rfl rfl rfl rfl h h1
theorem s41_135 : sm_at C X 41 135 ls [] N I L P = some (none, N, I, L, P) := st_ret b41 dX4_reckon_135 (by decide) rfl
theorem b42 : sm_b 42 = cX4_addPinches := rfl
theorem s42_0 : sm_at C X 42 0 ls st N I L P = sm_at C X 42 1 ls (.int (nI 0) :: st) N I L P := st_go b42 dX4_addPinches_0 (by decide) rfl
theorem s42_1 : sm_at C X 42 1 [l0, l1, l2, l3, l4, l5, l6] (.int x0 :: st) N I L P = sm_at C X 42 2 [l0, l1, sm_cl l2, some (.int x0), l4, l5, l6] st N I L P := st_go b42 dX4_addPinches_1 (by decide) rfl
theorem s42_2 : sm_at C X 42 2 [l0, l1, l2, some (.int x0), l4, l5, l6] st N I L P = sm_at C X 42 3 [l0, l1, l2, some (.int x0), l4, l5, l6] (.int x0 :: st) N I L P := st_go b42 dX4_addPinches_2 (by decide) rfl
theorem s42_3 : sm_at C X 42 3 [l0, some (.ref a), l2, l3, l4, l5, l6] st N I L P = sm_at C X 42 4 [l0, some (.ref a), l2, l3, l4, l5, l6] (.ref a :: st) N I L P := st_go b42 dX4_addPinches_3 (by decide) rfl
theorem s42_3n : sm_at C X 42 3 [l0, some .null, l2, l3, l4, l5, l6] st N I L P = sm_at C X 42 4 [l0, some .null, l2, l3, l4, l5, l6] (.null :: st) N I L P := st_go b42 dX4_addPinches_3 (by decide) rfl
theorem s42_4 (h : a < N) (h1 : sm_lay a = .inl 0) : sm_at C X 42 4 ls [.ref a, v0] N I L P = sm_af C X 42 7 ls [v0] (C 8 [.ref a] N I L P) := st_virt b42 dX4_addPinches_4 (n := 1) (rest := [v0]) rfl rfl rfl rfl rfl rfl rfl h h1
theorem s42_7 : sm_at C X 42 7 ls (.int x0 :: .int x1 :: st) N I L P = if x0 ≤ x1 then sm_at C X 42 95 ls st N I L P else sm_at C X 42 10 ls st N I L P := st_br b42 dX4_addPinches_7 (by decide) rfl
theorem s42_10 : sm_at C X 42 10 ls st N I L P = sm_at C X 42 11 ls (.int (nI 0) :: st) N I L P := st_go b42 dX4_addPinches_10 (by decide) rfl
theorem s42_11 : sm_at C X 42 11 [l0, l1, l2, l3, l4, l5, l6] (.int x0 :: st) N I L P = sm_at C X 42 13 [l0, l1, l2, sm_cl l3, some (.int x0), l5, l6] st N I L P := st_go b42 dX4_addPinches_11 (by decide) rfl
theorem s42_13 : sm_at C X 42 13 [l0, l1, l2, l3, some (.int x0), l5, l6] st N I L P = sm_at C X 42 15 [l0, l1, l2, l3, some (.int x0), l5, l6] (.int x0 :: st) N I L P := st_go b42 dX4_addPinches_13 (by decide) rfl
theorem s42_15 : sm_at C X 42 15 [l0, some (.ref a), l2, l3, l4, l5, l6] st N I L P = sm_at C X 42 16 [l0, some (.ref a), l2, l3, l4, l5, l6] (.ref a :: st) N I L P := st_go b42 dX4_addPinches_15 (by decide) rfl
theorem s42_15n : sm_at C X 42 15 [l0, some .null, l2, l3, l4, l5, l6] st N I L P = sm_at C X 42 16 [l0, some .null, l2, l3, l4, l5, l6] (.null :: st) N I L P := st_go b42 dX4_addPinches_15 (by decide) rfl
theorem s42_16 (h : a < N) (h1 : sm_lay a = .inl 0) : sm_at C X 42 16 ls [.ref a, v0] N I L P = sm_af C X 42 19 ls [v0] (C 8 [.ref a] N I L P) := st_virt b42 dX4_addPinches_16 (n := 1) (rest := [v0]) rfl rfl rfl rfl rfl rfl rfl h h1
theorem s42_19 : sm_at C X 42 19 ls (.int x0 :: .int x1 :: st) N I L P = if x0 ≤ x1 then sm_at C X 42 89 ls st N I L P else sm_at C X 42 22 ls st N I L P := st_br b42 dX4_addPinches_19 (by decide) rfl
theorem s42_22 : sm_at C X 42 22 [l0, some (.ref a), l2, l3, l4, l5, l6] st N I L P = sm_at C X 42 23 [l0, some (.ref a), l2, l3, l4, l5, l6] (.ref a :: st) N I L P := st_go b42 dX4_addPinches_22 (by decide) rfl
theorem s42_22n : sm_at C X 42 22 [l0, some .null, l2, l3, l4, l5, l6] st N I L P = sm_at C X 42 23 [l0, some .null, l2, l3, l4, l5, l6] (.null :: st) N I L P := st_go b42 dX4_addPinches_22 (by decide) rfl
theorem s42_23 : sm_at C X 42 23 [l0, l1, l2, some (.int x0), l4, l5, l6] st N I L P = sm_at C X 42 24 [l0, l1, l2, some (.int x0), l4, l5, l6] (.int x0 :: st) N I L P := st_go b42 dX4_addPinches_23 (by decide) rfl
theorem s42_24 (h : a < N) (h1 : sm_lay a = .inl 0) : sm_at C X 42 24 ls [w1, .ref a] N I L P = sm_af C X 42 27 ls [] (C 11 [.ref a, w1] N I L P) := st_virt b42 dX4_addPinches_24 (n := 2) (rest := []) rfl rfl rfl rfl rfl rfl rfl h h1
theorem s42_27 : sm_at C X 42 27 [l0, l1, l2, l3, l4, l5, l6] (.int x0 :: st) N I L P = sm_at C X 42 29 [l0, l1, l2, l3, sm_cl l4, some (.int x0), l6] st N I L P := st_go b42 dX4_addPinches_27 (by decide) rfl
theorem s42_29 : sm_at C X 42 29 [l0, some (.ref a), l2, l3, l4, l5, l6] st N I L P = sm_at C X 42 30 [l0, some (.ref a), l2, l3, l4, l5, l6] (.ref a :: st) N I L P := st_go b42 dX4_addPinches_29 (by decide) rfl
theorem s42_29n : sm_at C X 42 29 [l0, some .null, l2, l3, l4, l5, l6] st N I L P = sm_at C X 42 30 [l0, some .null, l2, l3, l4, l5, l6] (.null :: st) N I L P := st_go b42 dX4_addPinches_29 (by decide) rfl
theorem s42_30 : sm_at C X 42 30 [l0, l1, l2, l3, some (.int x0), l5, l6] st N I L P = sm_at C X 42 32 [l0, l1, l2, l3, some (.int x0), l5, l6] (.int x0 :: st) N I L P := st_go b42 dX4_addPinches_30 (by decide) rfl
theorem s42_32 (h : a < N) (h1 : sm_lay a = .inl 0) : sm_at C X 42 32 ls [w1, .ref a] N I L P = sm_af C X 42 35 ls [] (C 11 [.ref a, w1] N I L P) := st_virt b42 dX4_addPinches_32 (n := 2) (rest := []) rfl rfl rfl rfl rfl rfl rfl h h1
theorem s42_35 : sm_at C X 42 35 [l0, l1, l2, l3, l4, l5, l6] (.int x0 :: st) N I L P = sm_at C X 42 37 [l0, l1, l2, l3, l4, sm_cl l5, some (.int x0)] st N I L P := st_go b42 dX4_addPinches_35 (by decide) rfl
theorem s42_37 : sm_at C X 42 37 [l0, l1, l2, some (.int x0), l4, l5, l6] st N I L P = sm_at C X 42 38 [l0, l1, l2, some (.int x0), l4, l5, l6] (.int x0 :: st) N I L P := st_go b42 dX4_addPinches_37 (by decide) rfl
theorem s42_38 : sm_at C X 42 38 [l0, l1, l2, l3, some (.int x0), l5, l6] st N I L P = sm_at C X 42 40 [l0, l1, l2, l3, some (.int x0), l5, l6] (.int x0 :: st) N I L P := st_go b42 dX4_addPinches_38 (by decide) rfl
theorem s42_40 : sm_at C X 42 40 ls (.int x0 :: .int x1 :: st) N I L P = if x1 = x0 then sm_at C X 42 83 ls st N I L P else sm_at C X 42 43 ls st N I L P := st_br b42 dX4_addPinches_40 (by decide) rfl
theorem s42_43 : sm_at C X 42 43 [l0, l1, l2, l3, l4, some (.int x0), l6] st N I L P = sm_at C X 42 45 [l0, l1, l2, l3, l4, some (.int x0), l6] (.int x0 :: st) N I L P := st_go b42 dX4_addPinches_43 (by decide) rfl
theorem s42_45 : sm_at C X 42 45 ls [w0] N I L P = sm_af C X 42 48 ls [] (C 133 [w0] N I L P) := st_stat b42 dX4_addPinches_45 (n := 1) (rest := []) rfl rfl rfl rfl rfl rfl
theorem s42_48 : sm_at C X 42 48 ls (.int x0 :: st) N I L P = if x0 = 0 then sm_at C X 42 83 ls st N I L P else sm_at C X 42 51 ls st N I L P := st_br b42 dX4_addPinches_48 (by decide) rfl
theorem s42_51 : sm_at C X 42 51 [l0, l1, l2, l3, l4, l5, some (.int x0)] st N I L P = sm_at C X 42 53 [l0, l1, l2, l3, l4, l5, some (.int x0)] (.int x0 :: st) N I L P := st_go b42 dX4_addPinches_51 (by decide) rfl
theorem s42_53 : sm_at C X 42 53 ls [w0] N I L P = sm_af C X 42 56 ls [] (C 133 [w0] N I L P) := st_stat b42 dX4_addPinches_53 (n := 1) (rest := []) rfl rfl rfl rfl rfl rfl
theorem s42_56 : sm_at C X 42 56 ls (.int x0 :: st) N I L P = if x0 = 0 then sm_at C X 42 83 ls st N I L P else sm_at C X 42 59 ls st N I L P := st_br b42 dX4_addPinches_56 (by decide) rfl
theorem s42_59 : sm_at C X 42 59 [some (.ref a), l1, l2, l3, l4, l5, l6] st N I L P = sm_at C X 42 60 [some (.ref a), l1, l2, l3, l4, l5, l6] (.ref a :: st) N I L P := st_go b42 dX4_addPinches_59 (by decide) rfl
theorem s42_60 (h : a < N) (h1 : sm_lay a = .inl 4) : sm_at C X 42 60 ls (.ref a :: st) N I L P = sm_at C X 42 63 ls (va_rf (P a 1) :: st) N I L P := st_gfR b42 dX4_addPinches_60 rfl rfl h h1
theorem s42_63 : sm_at C X 42 63 [l0, l1, some (.ref a), l3, l4, l5, l6] st N I L P = sm_at C X 42 64 [l0, l1, some (.ref a), l3, l4, l5, l6] (.ref a :: st) N I L P := st_go b42 dX4_addPinches_63 (by decide) rfl
theorem s42_63n : sm_at C X 42 63 [l0, l1, some .null, l3, l4, l5, l6] st N I L P = sm_at C X 42 64 [l0, l1, some .null, l3, l4, l5, l6] (.null :: st) N I L P := st_go b42 dX4_addPinches_63 (by decide) rfl
theorem s42_64 : sm_at C X 42 64 [l0, l1, l2, l3, l4, some (.int x0), l6] st N I L P = sm_at C X 42 66 [l0, l1, l2, l3, l4, some (.int x0), l6] (.int x0 :: st) N I L P := st_go b42 dX4_addPinches_64 (by decide) rfl
theorem s42_66 (h : a < N) (h1 : k < sm_al a) : sm_at C X 42 66 ls (.int (nI k) :: .ref a :: st) N I L P = sm_at C X 42 67 ls (.int (I a k) :: st) N I L P := st_iald b42 dX4_addPinches_66 h h1
theorem s42_66t0 (h : N ≤ 1000) (h1 : k < 15) : sm_at C X 42 66 ls (.int (nI k) :: .ref 1048576 :: st) N I L P = sm_at C X 42 67 ls (.int (sm_tab 0 k) :: st) N I L P := st_iat0 b42 dX4_addPinches_66 h h1
theorem s42_66t1 (h : N ≤ 1000) (h1 : k < 15) : sm_at C X 42 66 ls (.int (nI k) :: .ref 1048577 :: st) N I L P = sm_at C X 42 67 ls (.int (sm_tab 1 k) :: st) N I L P := st_iat1 b42 dX4_addPinches_66 h h1
theorem s42_67 : sm_at C X 42 67 [l0, l1, some (.ref a), l3, l4, l5, l6] st N I L P = sm_at C X 42 68 [l0, l1, some (.ref a), l3, l4, l5, l6] (.ref a :: st) N I L P := st_go b42 dX4_addPinches_67 (by decide) rfl
theorem s42_67n : sm_at C X 42 67 [l0, l1, some .null, l3, l4, l5, l6] st N I L P = sm_at C X 42 68 [l0, l1, some .null, l3, l4, l5, l6] (.null :: st) N I L P := st_go b42 dX4_addPinches_67 (by decide) rfl
theorem s42_68 : sm_at C X 42 68 [l0, l1, l2, l3, l4, l5, some (.int x0)] st N I L P = sm_at C X 42 70 [l0, l1, l2, l3, l4, l5, some (.int x0)] (.int x0 :: st) N I L P := st_go b42 dX4_addPinches_68 (by decide) rfl
theorem s42_70 (h : a < N) (h1 : k < sm_al a) : sm_at C X 42 70 ls (.int (nI k) :: .ref a :: st) N I L P = sm_at C X 42 71 ls (.int (I a k) :: st) N I L P := st_iald b42 dX4_addPinches_70 h h1
theorem s42_70t0 (h : N ≤ 1000) (h1 : k < 15) : sm_at C X 42 70 ls (.int (nI k) :: .ref 1048576 :: st) N I L P = sm_at C X 42 71 ls (.int (sm_tab 0 k) :: st) N I L P := st_iat0 b42 dX4_addPinches_70 h h1
theorem s42_70t1 (h : N ≤ 1000) (h1 : k < 15) : sm_at C X 42 70 ls (.int (nI k) :: .ref 1048577 :: st) N I L P = sm_at C X 42 71 ls (.int (sm_tab 1 k) :: st) N I L P := st_iat1 b42 dX4_addPinches_70 h h1
theorem s42_71 : sm_at C X 42 71 ls st N I L P = sm_at C X 42 72 ls (.int (nI 1) :: st) N I L P := st_go b42 dX4_addPinches_71 (by decide) rfl
theorem s42_72 : sm_at C X 42 72 [l0, some (.ref a), l2, l3, l4, l5, l6] st N I L P = sm_at C X 42 73 [l0, some (.ref a), l2, l3, l4, l5, l6] (.ref a :: st) N I L P := st_go b42 dX4_addPinches_72 (by decide) rfl
theorem s42_72n : sm_at C X 42 72 [l0, some .null, l2, l3, l4, l5, l6] st N I L P = sm_at C X 42 73 [l0, some .null, l2, l3, l4, l5, l6] (.null :: st) N I L P := st_go b42 dX4_addPinches_72 (by decide) rfl
theorem s42_73 : sm_at C X 42 73 [l0, l1, l2, some (.int x0), l4, l5, l6] st N I L P = sm_at C X 42 74 [l0, l1, l2, some (.int x0), l4, l5, l6] (.int x0 :: st) N I L P := st_go b42 dX4_addPinches_73 (by decide) rfl
theorem s42_74 : sm_at C X 42 74 [l0, l1, l2, l3, some (.int x0), l5, l6] st N I L P = sm_at C X 42 76 [l0, l1, l2, l3, some (.int x0), l5, l6] (.int x0 :: st) N I L P := st_go b42 dX4_addPinches_74 (by decide) rfl
theorem s42_76 (h : a < N) (h1 : sm_lay a = .inl 0) : sm_at C X 42 76 ls [w2, w1, .ref a, v3, v2, v1, v0] N I L P = sm_af C X 42 79 ls [v3, v2, v1, v0] (C 14 [.ref a, w1, w2] N I L P) := st_virt b42 dX4_addPinches_76 (n := 3) (rest := [v3, v2, v1, v0]) rfl rfl rfl rfl rfl rfl rfl h h1
theorem s42_79 : sm_at C X 42 79 ls (.int x0 :: .int x1 :: st) N I L P = sm_at C X 42 80 ls (.int (x1 + x0) :: st) N I L P := st_go b42 dX4_addPinches_79 (by decide) rfl
theorem s42_80 (h : a < N) (h1 : sm_lay a = .inl 9) : sm_at C X 42 80 ls [w3, w2, w1, .ref a] N I L P = sm_af C X 42 83 ls [] (C 86 [.ref a, w1, w2, w3] N I L P) := st_virt b42 dX4_addPinches_80 (n := 4) (rest := []) rfl rfl rfl rfl rfl rfl rfl h h1
theorem s42_83 : sm_at C X 42 83 [l0, l1, l2, l3, some (.int x0), l5, l6] st N I L P = sm_at C X 42 86 [l0, l1, l2, sm_cl l3, some (.int (x0 + (nI 1))), l5, l6] st N I L P := st_go b42 dX4_addPinches_83 (by decide) rfl
theorem s42_86 : sm_at C X 42 86 ls st N I L P = sm_at C X 42 13 ls st N I L P := st_go b42 dX4_addPinches_86 (by decide) rfl
theorem s42_89 : sm_at C X 42 89 [l0, l1, l2, some (.int x0), l4, l5, l6] st N I L P = sm_at C X 42 92 [l0, l1, sm_cl l2, some (.int (x0 + (nI 1))), l4, l5, l6] st N I L P := st_go b42 dX4_addPinches_89 (by decide) rfl
theorem s42_92 : sm_at C X 42 92 ls st N I L P = sm_at C X 42 2 ls st N I L P := st_go b42 dX4_addPinches_92 (by decide) rfl
theorem s42_95 : sm_at C X 42 95 ls [] N I L P = some (none, N, I, L, P) := st_ret b42 dX4_addPinches_95 (by decide) rfl
theorem b43 : sm_b 43 = cX4_minutesBetween := rfl
theorem s43_0 : sm_at C X 43 0 [some (.ref a), l1, l2, l3] st N I L P = sm_at C X 43 1 [some (.ref a), l1, l2, l3] (.ref a :: st) N I L P := st_go b43 dX4_minutesBetween_0 (by decide) rfl
theorem s43_1 (h : a < N) (h1 : sm_lay a = .inl 4) : sm_at C X 43 1 ls (.ref a :: st) N I L P = sm_at C X 43 4 ls (va_rf (P a 1) :: st) N I L P := st_gfR b43 dX4_minutesBetween_1 rfl rfl h h1
theorem s43_4 : sm_at C X 43 4 [l0, some (.int x0), l2, l3] st N I L P = sm_at C X 43 5 [l0, some (.int x0), l2, l3] (.int x0 :: st) N I L P := st_go b43 dX4_minutesBetween_4 (by decide) rfl
theorem s43_5 : sm_at C X 43 5 [l0, l1, some (.int x0), l3] st N I L P = sm_at C X 43 6 [l0, l1, some (.int x0), l3] (.int x0 :: st) N I L P := st_go b43 dX4_minutesBetween_5 (by decide) rfl
theorem s43_6 (h : a < N) (h1 : sm_lay a = .inl 9) : sm_at C X 43 6 ls [w2, w1, .ref a] N I L P = sm_af C X 43 9 ls [] (C 84 [.ref a, w1, w2] N I L P) := st_virt b43 dX4_minutesBetween_6 (n := 3) (rest := []) rfl rfl rfl rfl rfl rfl rfl h h1
theorem s43_9 : sm_at C X 43 9 [l0, l1, l2, l3] (.int x0 :: st) N I L P = sm_at C X 43 10 [l0, l1, sm_cl l2, some (.int x0)] st N I L P := st_go b43 dX4_minutesBetween_9 (by decide) rfl
theorem s43_10 : sm_at C X 43 10 [l0, l1, l2, some (.int x0)] st N I L P = sm_at C X 43 11 [l0, l1, l2, some (.int x0)] (.int x0 :: st) N I L P := st_go b43 dX4_minutesBetween_10 (by decide) rfl
theorem s43_11 : sm_at C X 43 11 ls st N I L P = sm_at C X 43 13 ls (.int (nI 100000) :: st) N I L P := st_go b43 dX4_minutesBetween_11 (by decide) rfl
theorem s43_13 : sm_at C X 43 13 ls (.int x0 :: .int x1 :: st) N I L P = if x0 ≤ x1 then sm_at C X 43 20 ls st N I L P else sm_at C X 43 16 ls st N I L P := st_br b43 dX4_minutesBetween_13 (by decide) rfl
theorem s43_16 : sm_at C X 43 16 [l0, l1, l2, some (.int x0)] st N I L P = sm_at C X 43 17 [l0, l1, l2, some (.int x0)] (.int x0 :: st) N I L P := st_go b43 dX4_minutesBetween_16 (by decide) rfl
theorem s43_17 : sm_at C X 43 17 ls st N I L P = sm_at C X 43 21 ls st N I L P := st_go b43 dX4_minutesBetween_17 (by decide) rfl
theorem s43_20 : sm_at C X 43 20 ls st N I L P = sm_at C X 43 21 ls (.int (-1) :: st) N I L P := st_go b43 dX4_minutesBetween_20 (by decide) rfl
theorem s43_21 : sm_at C X 43 21 ls [.int x0] N I L P = some (some (.int x0), N, I, L, P) := st_iret b43 dX4_minutesBetween_21 rfl
theorem b44 : sm_b 44 = cX4_townOfPairs := rfl
theorem s44_0 : sm_at C X 44 0 [l0, some (.int x0)] st N I L P = sm_at C X 44 1 [l0, some (.int x0)] (.int x0 :: st) N I L P := st_go b44 dX4_townOfPairs_0 (by decide) rfl
theorem s44_1 : sm_at C X 44 1 ls (.int x0 :: st) N I L P = if x0 < 0 then sm_at C X 44 18 ls st N I L P else sm_at C X 44 4 ls st N I L P := st_br b44 dX4_townOfPairs_1 (by decide) rfl
theorem s44_4 : sm_at C X 44 4 [l0, some (.int x0)] st N I L P = sm_at C X 44 5 [l0, some (.int x0)] (.int x0 :: st) N I L P := st_go b44 dX4_townOfPairs_4 (by decide) rfl
theorem s44_5 : sm_at C X 44 5 ls st N I L P = sm_at C X 44 6 ls (.int (nI 4) :: st) N I L P := st_go b44 dX4_townOfPairs_5 (by decide) rfl
theorem s44_6 : sm_at C X 44 6 ls (.int x0 :: .int x1 :: st) N I L P = if x0 ≤ x1 then sm_at C X 44 18 ls st N I L P else sm_at C X 44 9 ls st N I L P := st_br b44 dX4_townOfPairs_6 (by decide) rfl
theorem s44_9 : sm_at C X 44 9 [some (.ref a), l1] st N I L P = sm_at C X 44 10 [some (.ref a), l1] (.ref a :: st) N I L P := st_go b44 dX4_townOfPairs_9 (by decide) rfl
theorem s44_10 (h : a < N) (h1 : sm_lay a = .inl 4) : sm_at C X 44 10 ls (.ref a :: st) N I L P = sm_at C X 44 13 ls (va_rf (P a 3) :: st) N I L P := st_gfR b44 dX4_townOfPairs_10 rfl rfl h h1
theorem s44_13 : sm_at C X 44 13 [l0, some (.int x0)] st N I L P = sm_at C X 44 14 [l0, some (.int x0)] (.int x0 :: st) N I L P := st_go b44 dX4_townOfPairs_13 (by decide) rfl
theorem s44_14 (h : a < N) (h1 : k < sm_al a) : sm_at C X 44 14 ls (.int (nI k) :: .ref a :: st) N I L P = sm_at C X 44 15 ls (.int (I a k) :: st) N I L P := st_iald b44 dX4_townOfPairs_14 h h1
theorem s44_14t0 (h : N ≤ 1000) (h1 : k < 15) : sm_at C X 44 14 ls (.int (nI k) :: .ref 1048576 :: st) N I L P = sm_at C X 44 15 ls (.int (sm_tab 0 k) :: st) N I L P := st_iat0 b44 dX4_townOfPairs_14 h h1
theorem s44_14t1 (h : N ≤ 1000) (h1 : k < 15) : sm_at C X 44 14 ls (.int (nI k) :: .ref 1048577 :: st) N I L P = sm_at C X 44 15 ls (.int (sm_tab 1 k) :: st) N I L P := st_iat1 b44 dX4_townOfPairs_14 h h1
theorem s44_15 : sm_at C X 44 15 ls st N I L P = sm_at C X 44 19 ls st N I L P := st_go b44 dX4_townOfPairs_15 (by decide) rfl
theorem s44_18 : sm_at C X 44 18 ls st N I L P = sm_at C X 44 19 ls (.int (-1) :: st) N I L P := st_go b44 dX4_townOfPairs_18 (by decide) rfl
theorem s44_19 : sm_at C X 44 19 ls [.int x0] N I L P = some (some (.int x0), N, I, L, P) := st_iret b44 dX4_townOfPairs_19 rfl
theorem b45 : sm_b 45 = cX4_fewestPairs := rfl
theorem s45_0 : sm_at C X 45 0 [some (.ref a), l1] st N I L P = sm_at C X 45 1 [some (.ref a), l1] (.ref a :: st) N I L P := st_go b45 dX4_fewestPairs_0 (by decide) rfl
theorem s45_1 (h : a < N) (h1 : sm_lay a = .inl 4) : sm_at C X 45 1 ls (.ref a :: st) N I L P = sm_at C X 45 4 ls (va_rf (P a 3) :: st) N I L P := st_gfR b45 dX4_fewestPairs_1 rfl rfl h h1
theorem s45_4 : sm_at C X 45 4 ls st N I L P = sm_at C X 45 5 ls (.int (-1) :: st) N I L P := st_go b45 dX4_fewestPairs_4 (by decide) rfl
theorem s45_5 : sm_at C X 45 5 ls [w1, w0] N I L P = sm_af C X 45 8 ls [] (C 215 [w0, w1] N I L P) := st_stat b45 dX4_fewestPairs_5 (n := 2) (rest := []) rfl rfl rfl rfl rfl rfl
theorem s45_8 : sm_at C X 45 8 [some (.ref a), l1] st N I L P = sm_at C X 45 9 [some (.ref a), l1] (.ref a :: st) N I L P := st_go b45 dX4_fewestPairs_8 (by decide) rfl
theorem s45_9 (h : a < N) (h1 : sm_lay a = .inl 4) : sm_at C X 45 9 ls (.ref a :: st) N I L P = sm_at C X 45 12 ls (va_rf (P a 1) :: st) N I L P := st_gfR b45 dX4_fewestPairs_9 rfl rfl h h1
theorem s45_12 : sm_at C X 45 12 [l0, some (.int x0)] st N I L P = sm_at C X 45 13 [l0, some (.int x0)] (.int x0 :: st) N I L P := st_go b45 dX4_fewestPairs_12 (by decide) rfl
theorem s45_13 (h : a < N) (h1 : sm_lay a = .inl 9) : sm_at C X 45 13 ls [w1, .ref a] N I L P = sm_af C X 45 16 ls [] (C 90 [.ref a, w1] N I L P) := st_virt b45 dX4_fewestPairs_13 (n := 2) (rest := []) rfl rfl rfl rfl rfl rfl rfl h h1
theorem s45_16 : sm_at C X 45 16 ls (.int x0 :: st) N I L P = if x0 = 0 then sm_at C X 45 21 ls st N I L P else sm_at C X 45 19 ls st N I L P := st_br b45 dX4_fewestPairs_16 (by decide) rfl
theorem s45_19 : sm_at C X 45 19 ls st N I L P = sm_at C X 45 20 ls (.int (nI 0) :: st) N I L P := st_go b45 dX4_fewestPairs_19 (by decide) rfl
theorem s45_20 : sm_at C X 45 20 ls [.int x0] N I L P = some (some (.int x0), N, I, L, P) := st_iret b45 dX4_fewestPairs_20 rfl
theorem s45_21 : sm_at C X 45 21 [some (.ref a), l1] st N I L P = sm_at C X 45 22 [some (.ref a), l1] (.ref a :: st) N I L P := st_go b45 dX4_fewestPairs_21 (by decide) rfl
theorem s45_22 : sm_at C X 45 22 [l0, some (.int x0)] st N I L P = sm_at C X 45 23 [l0, some (.int x0)] (.int x0 :: st) N I L P := st_go b45 dX4_fewestPairs_22 (by decide) rfl
theorem s45_23 (h : a < N) (h1 : sm_lay a = .inl 4) : sm_at C X 45 23 ls [w1, .ref a] N I L P = sm_af C X 45 26 ls [] (C 46 [.ref a, w1] N I L P) := st_virt b45 dX4_fewestPairs_23 (n := 2) (rest := []) rfl rfl rfl rfl rfl rfl rfl h h1
theorem s45_26 : sm_at C X 45 26 ls (.int x0 :: st) N I L P = if x0 = 0 then sm_at C X 45 31 ls st N I L P else sm_at C X 45 29 ls st N I L P := st_br b45 dX4_fewestPairs_26 (by decide) rfl
theorem s45_29 : sm_at C X 45 29 ls st N I L P = sm_at C X 45 30 ls (.int (nI 1) :: st) N I L P := st_go b45 dX4_fewestPairs_29 (by decide) rfl
theorem s45_30 : sm_at C X 45 30 ls [.int x0] N I L P = some (some (.int x0), N, I, L, P) := st_iret b45 dX4_fewestPairs_30 rfl
theorem s45_31 : sm_at C X 45 31 [some (.ref a), l1] st N I L P = sm_at C X 45 32 [some (.ref a), l1] (.ref a :: st) N I L P := st_go b45 dX4_fewestPairs_31 (by decide) rfl
theorem s45_32 : sm_at C X 45 32 [l0, some (.int x0)] st N I L P = sm_at C X 45 33 [l0, some (.int x0)] (.int x0 :: st) N I L P := st_go b45 dX4_fewestPairs_32 (by decide) rfl
theorem s45_33 (h : a < N) (h1 : sm_lay a = .inl 4) : sm_at C X 45 33 ls [w1, .ref a] N I L P = sm_af C X 45 36 ls [] (C 47 [.ref a, w1] N I L P) := st_virt b45 dX4_fewestPairs_33 (n := 2) (rest := []) rfl rfl rfl rfl rfl rfl rfl h h1
theorem s45_36 : sm_at C X 45 36 ls (.int x0 :: st) N I L P = if x0 = 0 then sm_at C X 45 43 ls st N I L P else sm_at C X 45 39 ls st N I L P := st_br b45 dX4_fewestPairs_36 (by decide) rfl
theorem s45_39 : sm_at C X 45 39 ls st N I L P = sm_at C X 45 40 ls (.int (nI 2) :: st) N I L P := st_go b45 dX4_fewestPairs_39 (by decide) rfl
theorem s45_40 : sm_at C X 45 40 ls st N I L P = sm_at C X 45 44 ls st N I L P := st_go b45 dX4_fewestPairs_40 (by decide) rfl
theorem s45_43 : sm_at C X 45 43 ls st N I L P = sm_at C X 45 44 ls (.int (-1) :: st) N I L P := st_go b45 dX4_fewestPairs_43 (by decide) rfl
theorem s45_44 : sm_at C X 45 44 ls [.int x0] N I L P = some (some (.int x0), N, I, L, P) := st_iret b45 dX4_fewestPairs_44 rfl
theorem b46 : sm_b 46 = cX4_isWithinByOne := rfl
theorem s46_0 : sm_at C X 46 0 ls st N I L P = sm_at C X 46 1 ls (.int (nI 0) :: st) N I L P := st_go b46 dX4_isWithinByOne_0 (by decide) rfl
theorem s46_1 : sm_at C X 46 1 [l0, l1, l2] (.int x0 :: st) N I L P = sm_at C X 46 2 [l0, sm_cl l1, some (.int x0)] st N I L P := st_go b46 dX4_isWithinByOne_1 (by decide) rfl
theorem s46_2 : sm_at C X 46 2 [l0, l1, some (.int x0)] st N I L P = sm_at C X 46 3 [l0, l1, some (.int x0)] (.int x0 :: st) N I L P := st_go b46 dX4_isWithinByOne_2 (by decide) rfl
theorem s46_3 : sm_at C X 46 3 ls st N I L P = sm_at C X 46 5 ls (.int (nI 15) :: st) N I L P := st_go b46 dX4_isWithinByOne_3 (by decide) rfl
theorem s46_5 : sm_at C X 46 5 ls (.int x0 :: .int x1 :: st) N I L P = if x0 ≤ x1 then sm_at C X 46 43 ls st N I L P else sm_at C X 46 8 ls st N I L P := st_br b46 dX4_isWithinByOne_5 (by decide) rfl
theorem s46_8 : sm_at C X 46 8 [some (.ref a), l1, l2] st N I L P = sm_at C X 46 9 [some (.ref a), l1, l2] (.ref a :: st) N I L P := st_go b46 dX4_isWithinByOne_8 (by decide) rfl
theorem s46_9 (h : a < N) (h1 : sm_lay a = .inl 4) : sm_at C X 46 9 ls (.ref a :: st) N I L P = sm_at C X 46 12 ls (va_rf (P a 1) :: st) N I L P := st_gfR b46 dX4_isWithinByOne_9 rfl rfl h h1
theorem s46_12 : sm_at C X 46 12 [l0, some (.int x0), l2] st N I L P = sm_at C X 46 13 [l0, some (.int x0), l2] (.int x0 :: st) N I L P := st_go b46 dX4_isWithinByOne_12 (by decide) rfl
theorem s46_13 : sm_at C X 46 13 ls st N I L P = sm_at C X 46 16 ls (.ref 1048576 :: st) N I L P := st_go b46 dX4_isWithinByOne_13 (by decide) rfl
theorem s46_16 : sm_at C X 46 16 [l0, l1, some (.int x0)] st N I L P = sm_at C X 46 17 [l0, l1, some (.int x0)] (.int x0 :: st) N I L P := st_go b46 dX4_isWithinByOne_16 (by decide) rfl
theorem s46_17 (h : a < N) (h1 : k < sm_al a) : sm_at C X 46 17 ls (.int (nI k) :: .ref a :: st) N I L P = sm_at C X 46 18 ls (.int (I a k) :: st) N I L P := st_iald b46 dX4_isWithinByOne_17 h h1
theorem s46_17t0 (h : N ≤ 1000) (h1 : k < 15) : sm_at C X 46 17 ls (.int (nI k) :: .ref 1048576 :: st) N I L P = sm_at C X 46 18 ls (.int (sm_tab 0 k) :: st) N I L P := st_iat0 b46 dX4_isWithinByOne_17 h h1
theorem s46_17t1 (h : N ≤ 1000) (h1 : k < 15) : sm_at C X 46 17 ls (.int (nI k) :: .ref 1048577 :: st) N I L P = sm_at C X 46 18 ls (.int (sm_tab 1 k) :: st) N I L P := st_iat1 b46 dX4_isWithinByOne_17 h h1
theorem s46_18 : sm_at C X 46 18 ls st N I L P = sm_at C X 46 21 ls (.ref 1048577 :: st) N I L P := st_go b46 dX4_isWithinByOne_18 (by decide) rfl
theorem s46_21 : sm_at C X 46 21 [l0, l1, some (.int x0)] st N I L P = sm_at C X 46 22 [l0, l1, some (.int x0)] (.int x0 :: st) N I L P := st_go b46 dX4_isWithinByOne_21 (by decide) rfl
theorem s46_22 (h : a < N) (h1 : k < sm_al a) : sm_at C X 46 22 ls (.int (nI k) :: .ref a :: st) N I L P = sm_at C X 46 23 ls (.int (I a k) :: st) N I L P := st_iald b46 dX4_isWithinByOne_22 h h1
theorem s46_22t0 (h : N ≤ 1000) (h1 : k < 15) : sm_at C X 46 22 ls (.int (nI k) :: .ref 1048576 :: st) N I L P = sm_at C X 46 23 ls (.int (sm_tab 0 k) :: st) N I L P := st_iat0 b46 dX4_isWithinByOne_22 h h1
theorem s46_22t1 (h : N ≤ 1000) (h1 : k < 15) : sm_at C X 46 22 ls (.int (nI k) :: .ref 1048577 :: st) N I L P = sm_at C X 46 23 ls (.int (sm_tab 1 k) :: st) N I L P := st_iat1 b46 dX4_isWithinByOne_22 h h1
theorem s46_23 (h : a < N) (h1 : sm_lay a = .inl 9) : sm_at C X 46 23 ls [w3, w2, w1, .ref a] N I L P = sm_af C X 46 26 ls [] (C 91 [.ref a, w1, w2, w3] N I L P) := st_virt b46 dX4_isWithinByOne_23 (n := 4) (rest := []) rfl rfl rfl rfl rfl rfl rfl h h1
theorem s46_26 : sm_at C X 46 26 ls (.int x0 :: st) N I L P = if x0 = 0 then sm_at C X 46 37 ls st N I L P else sm_at C X 46 29 ls st N I L P := st_br b46 dX4_isWithinByOne_26 (by decide) rfl
theorem s46_29 : sm_at C X 46 29 [some (.ref a), l1, l2] st N I L P = sm_at C X 46 30 [some (.ref a), l1, l2] (.ref a :: st) N I L P := st_go b46 dX4_isWithinByOne_29 (by decide) rfl
theorem s46_30 : sm_at C X 46 30 ls st N I L P = sm_at C X 46 31 ls (.int (nI 0) :: st) N I L P := st_go b46 dX4_isWithinByOne_30 (by decide) rfl
theorem s46_31 : sm_at C X 46 31 [l0, l1, some (.int x0)] st N I L P = sm_at C X 46 32 [l0, l1, some (.int x0)] (.int x0 :: st) N I L P := st_go b46 dX4_isWithinByOne_31 (by decide) rfl
theorem s46_32 (h : a < N) (h1 : sm_lay a = .inl 4) : sm_at C X 46 32 ls [w2, w1, .ref a] N I L P = sm_af C X 46 35 ls [] (C 48 [.ref a, w1, w2] N I L P) := st_virt b46 dX4_isWithinByOne_32 (n := 3) (rest := []) rfl rfl rfl rfl rfl rfl rfl h h1
theorem s46_35 : sm_at C X 46 35 ls st N I L P = sm_at C X 46 36 ls (.int (nI 1) :: st) N I L P := st_go b46 dX4_isWithinByOne_35 (by decide) rfl
theorem s46_36 (h : x0 = 0 ∨ x0 = 1) : sm_at C X 46 36 ls [.int x0] N I L P = some (some (.int x0), N, I, L, P) := st_zret b46 dX4_isWithinByOne_36 rfl h
theorem s46_37 : sm_at C X 46 37 [l0, l1, some (.int x0)] st N I L P = sm_at C X 46 40 [l0, sm_cl l1, some (.int (x0 + (nI 1)))] st N I L P := st_go b46 dX4_isWithinByOne_37 (by decide) rfl
theorem s46_40 : sm_at C X 46 40 ls st N I L P = sm_at C X 46 2 ls st N I L P := st_go b46 dX4_isWithinByOne_40 (by decide) rfl
theorem s46_43 : sm_at C X 46 43 ls st N I L P = sm_at C X 46 44 ls (.int (nI 0) :: st) N I L P := st_go b46 dX4_isWithinByOne_43 (by decide) rfl
theorem s46_44 (h : x0 = 0 ∨ x0 = 1) : sm_at C X 46 44 ls [.int x0] N I L P = some (some (.int x0), N, I, L, P) := st_zret b46 dX4_isWithinByOne_44 rfl h
theorem b47 : sm_b 47 = cX4_isWithinByTwo := rfl
theorem s47_0 : sm_at C X 47 0 ls st N I L P = sm_at C X 47 1 ls (.int (nI 0) :: st) N I L P := st_go b47 dX4_isWithinByTwo_0 (by decide) rfl
theorem s47_1 : sm_at C X 47 1 [l0, l1, l2, l3] (.int x0 :: st) N I L P = sm_at C X 47 2 [l0, sm_cl l1, some (.int x0), l3] st N I L P := st_go b47 dX4_isWithinByTwo_1 (by decide) rfl
theorem s47_2 : sm_at C X 47 2 [l0, l1, some (.int x0), l3] st N I L P = sm_at C X 47 3 [l0, l1, some (.int x0), l3] (.int x0 :: st) N I L P := st_go b47 dX4_isWithinByTwo_2 (by decide) rfl
theorem s47_3 : sm_at C X 47 3 ls st N I L P = sm_at C X 47 5 ls (.int (nI 15) :: st) N I L P := st_go b47 dX4_isWithinByTwo_3 (by decide) rfl
theorem s47_5 : sm_at C X 47 5 ls (.int x0 :: .int x1 :: st) N I L P = if x0 ≤ x1 then sm_at C X 47 86 ls st N I L P else sm_at C X 47 8 ls st N I L P := st_br b47 dX4_isWithinByTwo_5 (by decide) rfl
theorem s47_8 : sm_at C X 47 8 [some (.ref a), l1, l2, l3] st N I L P = sm_at C X 47 9 [some (.ref a), l1, l2, l3] (.ref a :: st) N I L P := st_go b47 dX4_isWithinByTwo_8 (by decide) rfl
theorem s47_9 (h : a < N) (h1 : sm_lay a = .inl 4) : sm_at C X 47 9 ls (.ref a :: st) N I L P = sm_at C X 47 12 ls (va_rf (P a 2) :: st) N I L P := st_gfR b47 dX4_isWithinByTwo_9 rfl rfl h h1
theorem s47_12 : sm_at C X 47 12 [some (.ref a), l1, l2, l3] st N I L P = sm_at C X 47 13 [some (.ref a), l1, l2, l3] (.ref a :: st) N I L P := st_go b47 dX4_isWithinByTwo_12 (by decide) rfl
theorem s47_13 (h : a < N) (h1 : sm_lay a = .inl 4) : sm_at C X 47 13 ls (.ref a :: st) N I L P = sm_at C X 47 16 ls (va_rf (P a 1) :: st) N I L P := st_gfR b47 dX4_isWithinByTwo_13 rfl rfl h h1
theorem s47_16 : sm_at C X 47 16 ls st N I L P = sm_at C X 47 19 ls (.ref 1048576 :: st) N I L P := st_go b47 dX4_isWithinByTwo_16 (by decide) rfl
theorem s47_19 : sm_at C X 47 19 [l0, l1, some (.int x0), l3] st N I L P = sm_at C X 47 20 [l0, l1, some (.int x0), l3] (.int x0 :: st) N I L P := st_go b47 dX4_isWithinByTwo_19 (by decide) rfl
theorem s47_20 (h : a < N) (h1 : k < sm_al a) : sm_at C X 47 20 ls (.int (nI k) :: .ref a :: st) N I L P = sm_at C X 47 21 ls (.int (I a k) :: st) N I L P := st_iald b47 dX4_isWithinByTwo_20 h h1
theorem s47_20t0 (h : N ≤ 1000) (h1 : k < 15) : sm_at C X 47 20 ls (.int (nI k) :: .ref 1048576 :: st) N I L P = sm_at C X 47 21 ls (.int (sm_tab 0 k) :: st) N I L P := st_iat0 b47 dX4_isWithinByTwo_20 h h1
theorem s47_20t1 (h : N ≤ 1000) (h1 : k < 15) : sm_at C X 47 20 ls (.int (nI k) :: .ref 1048577 :: st) N I L P = sm_at C X 47 21 ls (.int (sm_tab 1 k) :: st) N I L P := st_iat1 b47 dX4_isWithinByTwo_20 h h1
theorem s47_21 : sm_at C X 47 21 ls st N I L P = sm_at C X 47 24 ls (.ref 1048577 :: st) N I L P := st_go b47 dX4_isWithinByTwo_21 (by decide) rfl
theorem s47_24 : sm_at C X 47 24 [l0, l1, some (.int x0), l3] st N I L P = sm_at C X 47 25 [l0, l1, some (.int x0), l3] (.int x0 :: st) N I L P := st_go b47 dX4_isWithinByTwo_24 (by decide) rfl
theorem s47_25 (h : a < N) (h1 : k < sm_al a) : sm_at C X 47 25 ls (.int (nI k) :: .ref a :: st) N I L P = sm_at C X 47 26 ls (.int (I a k) :: st) N I L P := st_iald b47 dX4_isWithinByTwo_25 h h1
theorem s47_25t0 (h : N ≤ 1000) (h1 : k < 15) : sm_at C X 47 25 ls (.int (nI k) :: .ref 1048576 :: st) N I L P = sm_at C X 47 26 ls (.int (sm_tab 0 k) :: st) N I L P := st_iat0 b47 dX4_isWithinByTwo_25 h h1
theorem s47_25t1 (h : N ≤ 1000) (h1 : k < 15) : sm_at C X 47 25 ls (.int (nI k) :: .ref 1048577 :: st) N I L P = sm_at C X 47 26 ls (.int (sm_tab 1 k) :: st) N I L P := st_iat1 b47 dX4_isWithinByTwo_25 h h1
theorem s47_26 (h : a < N) (h1 : sm_lay a = .inl 9) : sm_at C X 47 26 ls [w3, w2, w1, .ref a] N I L P = sm_af C X 47 29 ls [] (C 89 [.ref a, w1, w2, w3] N I L P) := st_virt b47 dX4_isWithinByTwo_26 (n := 4) (rest := []) rfl rfl rfl rfl rfl rfl rfl h h1
theorem s47_29 : sm_at C X 47 29 [l0, l1, some (.int x0), l3] st N I L P = sm_at C X 47 30 [l0, l1, some (.int x0), l3] (.int x0 :: st) N I L P := st_go b47 dX4_isWithinByTwo_29 (by decide) rfl
theorem s47_30 : sm_at C X 47 30 ls st N I L P = sm_at C X 47 31 ls (.int (nI 1) :: st) N I L P := st_go b47 dX4_isWithinByTwo_30 (by decide) rfl
theorem s47_31 : sm_at C X 47 31 ls (.int x0 :: .int x1 :: st) N I L P = sm_at C X 47 32 ls (.int (x1 + x0) :: st) N I L P := st_go b47 dX4_isWithinByTwo_31 (by decide) rfl
theorem s47_32 : sm_at C X 47 32 [l0, l1, l2, l3] (.int x0 :: st) N I L P = sm_at C X 47 33 [l0, l1, sm_cl l2, some (.int x0)] st N I L P := st_go b47 dX4_isWithinByTwo_32 (by decide) rfl
theorem s47_33 : sm_at C X 47 33 [l0, l1, l2, some (.int x0)] st N I L P = sm_at C X 47 34 [l0, l1, l2, some (.int x0)] (.int x0 :: st) N I L P := st_go b47 dX4_isWithinByTwo_33 (by decide) rfl
theorem s47_34 : sm_at C X 47 34 ls st N I L P = sm_at C X 47 36 ls (.int (nI 15) :: st) N I L P := st_go b47 dX4_isWithinByTwo_34 (by decide) rfl
theorem s47_36 : sm_at C X 47 36 ls (.int x0 :: .int x1 :: st) N I L P = if x0 ≤ x1 then sm_at C X 47 80 ls st N I L P else sm_at C X 47 39 ls st N I L P := st_br b47 dX4_isWithinByTwo_36 (by decide) rfl
theorem s47_39 : sm_at C X 47 39 [some (.ref a), l1, l2, l3] st N I L P = sm_at C X 47 40 [some (.ref a), l1, l2, l3] (.ref a :: st) N I L P := st_go b47 dX4_isWithinByTwo_39 (by decide) rfl
theorem s47_40 (h : a < N) (h1 : sm_lay a = .inl 4) : sm_at C X 47 40 ls (.ref a :: st) N I L P = sm_at C X 47 43 ls (va_rf (P a 2) :: st) N I L P := st_gfR b47 dX4_isWithinByTwo_40 rfl rfl h h1
theorem s47_43 : sm_at C X 47 43 [l0, some (.int x0), l2, l3] st N I L P = sm_at C X 47 44 [l0, some (.int x0), l2, l3] (.int x0 :: st) N I L P := st_go b47 dX4_isWithinByTwo_43 (by decide) rfl
theorem s47_44 : sm_at C X 47 44 ls st N I L P = sm_at C X 47 47 ls (.ref 1048576 :: st) N I L P := st_go b47 dX4_isWithinByTwo_44 (by decide) rfl
theorem s47_47 : sm_at C X 47 47 [l0, l1, l2, some (.int x0)] st N I L P = sm_at C X 47 48 [l0, l1, l2, some (.int x0)] (.int x0 :: st) N I L P := st_go b47 dX4_isWithinByTwo_47 (by decide) rfl
theorem s47_48 (h : a < N) (h1 : k < sm_al a) : sm_at C X 47 48 ls (.int (nI k) :: .ref a :: st) N I L P = sm_at C X 47 49 ls (.int (I a k) :: st) N I L P := st_iald b47 dX4_isWithinByTwo_48 h h1
theorem s47_48t0 (h : N ≤ 1000) (h1 : k < 15) : sm_at C X 47 48 ls (.int (nI k) :: .ref 1048576 :: st) N I L P = sm_at C X 47 49 ls (.int (sm_tab 0 k) :: st) N I L P := st_iat0 b47 dX4_isWithinByTwo_48 h h1
theorem s47_48t1 (h : N ≤ 1000) (h1 : k < 15) : sm_at C X 47 48 ls (.int (nI k) :: .ref 1048577 :: st) N I L P = sm_at C X 47 49 ls (.int (sm_tab 1 k) :: st) N I L P := st_iat1 b47 dX4_isWithinByTwo_48 h h1
theorem s47_49 : sm_at C X 47 49 ls st N I L P = sm_at C X 47 52 ls (.ref 1048577 :: st) N I L P := st_go b47 dX4_isWithinByTwo_49 (by decide) rfl
theorem s47_52 : sm_at C X 47 52 [l0, l1, l2, some (.int x0)] st N I L P = sm_at C X 47 53 [l0, l1, l2, some (.int x0)] (.int x0 :: st) N I L P := st_go b47 dX4_isWithinByTwo_52 (by decide) rfl
theorem s47_53 (h : a < N) (h1 : k < sm_al a) : sm_at C X 47 53 ls (.int (nI k) :: .ref a :: st) N I L P = sm_at C X 47 54 ls (.int (I a k) :: st) N I L P := st_iald b47 dX4_isWithinByTwo_53 h h1
theorem s47_53t0 (h : N ≤ 1000) (h1 : k < 15) : sm_at C X 47 53 ls (.int (nI k) :: .ref 1048576 :: st) N I L P = sm_at C X 47 54 ls (.int (sm_tab 0 k) :: st) N I L P := st_iat0 b47 dX4_isWithinByTwo_53 h h1
theorem s47_53t1 (h : N ≤ 1000) (h1 : k < 15) : sm_at C X 47 53 ls (.int (nI k) :: .ref 1048577 :: st) N I L P = sm_at C X 47 54 ls (.int (sm_tab 1 k) :: st) N I L P := st_iat1 b47 dX4_isWithinByTwo_53 h h1
theorem s47_54 (h : a < N) (h1 : sm_lay a = .inl 9) : sm_at C X 47 54 ls [w3, w2, w1, .ref a] N I L P = sm_af C X 47 57 ls [] (C 91 [.ref a, w1, w2, w3] N I L P) := st_virt b47 dX4_isWithinByTwo_54 (n := 4) (rest := []) rfl rfl rfl rfl rfl rfl rfl h h1
theorem s47_57 : sm_at C X 47 57 ls (.int x0 :: st) N I L P = if x0 = 0 then sm_at C X 47 74 ls st N I L P else sm_at C X 47 60 ls st N I L P := st_br b47 dX4_isWithinByTwo_57 (by decide) rfl
theorem s47_60 : sm_at C X 47 60 [some (.ref a), l1, l2, l3] st N I L P = sm_at C X 47 61 [some (.ref a), l1, l2, l3] (.ref a :: st) N I L P := st_go b47 dX4_isWithinByTwo_60 (by decide) rfl
theorem s47_61 : sm_at C X 47 61 ls st N I L P = sm_at C X 47 62 ls (.int (nI 0) :: st) N I L P := st_go b47 dX4_isWithinByTwo_61 (by decide) rfl
theorem s47_62 : sm_at C X 47 62 [l0, l1, some (.int x0), l3] st N I L P = sm_at C X 47 63 [l0, l1, some (.int x0), l3] (.int x0 :: st) N I L P := st_go b47 dX4_isWithinByTwo_62 (by decide) rfl
theorem s47_63 (h : a < N) (h1 : sm_lay a = .inl 4) : sm_at C X 47 63 ls [w2, w1, .ref a] N I L P = sm_af C X 47 66 ls [] (C 48 [.ref a, w1, w2] N I L P) := st_virt b47 dX4_isWithinByTwo_63 (n := 3) (rest := []) rfl rfl rfl rfl rfl rfl rfl h h1
theorem s47_66 : sm_at C X 47 66 [some (.ref a), l1, l2, l3] st N I L P = sm_at C X 47 67 [some (.ref a), l1, l2, l3] (.ref a :: st) N I L P := st_go b47 dX4_isWithinByTwo_66 (by decide) rfl
theorem s47_67 : sm_at C X 47 67 ls st N I L P = sm_at C X 47 68 ls (.int (nI 2) :: st) N I L P := st_go b47 dX4_isWithinByTwo_67 (by decide) rfl
theorem s47_68 : sm_at C X 47 68 [l0, l1, l2, some (.int x0)] st N I L P = sm_at C X 47 69 [l0, l1, l2, some (.int x0)] (.int x0 :: st) N I L P := st_go b47 dX4_isWithinByTwo_68 (by decide) rfl
theorem s47_69 (h : a < N) (h1 : sm_lay a = .inl 4) : sm_at C X 47 69 ls [w2, w1, .ref a] N I L P = sm_af C X 47 72 ls [] (C 48 [.ref a, w1, w2] N I L P) := st_virt b47 dX4_isWithinByTwo_69 (n := 3) (rest := []) rfl rfl rfl rfl rfl rfl rfl h h1
theorem s47_72 : sm_at C X 47 72 ls st N I L P = sm_at C X 47 73 ls (.int (nI 1) :: st) N I L P := st_go b47 dX4_isWithinByTwo_72 (by decide) rfl
theorem s47_73 (h : x0 = 0 ∨ x0 = 1) : sm_at C X 47 73 ls [.int x0] N I L P = some (some (.int x0), N, I, L, P) := st_zret b47 dX4_isWithinByTwo_73 rfl h
theorem s47_74 : sm_at C X 47 74 [l0, l1, l2, some (.int x0)] st N I L P = sm_at C X 47 77 [l0, l1, sm_cl l2, some (.int (x0 + (nI 1)))] st N I L P := st_go b47 dX4_isWithinByTwo_74 (by decide) rfl
theorem s47_77 : sm_at C X 47 77 ls st N I L P = sm_at C X 47 33 ls st N I L P := st_go b47 dX4_isWithinByTwo_77 (by decide) rfl
theorem s47_80 : sm_at C X 47 80 [l0, l1, some (.int x0), l3] st N I L P = sm_at C X 47 83 [l0, sm_cl l1, some (.int (x0 + (nI 1))), l3] st N I L P := st_go b47 dX4_isWithinByTwo_80 (by decide) rfl
theorem s47_83 : sm_at C X 47 83 ls st N I L P = sm_at C X 47 2 ls st N I L P := st_go b47 dX4_isWithinByTwo_83 (by decide) rfl
theorem s47_86 : sm_at C X 47 86 ls st N I L P = sm_at C X 47 87 ls (.int (nI 0) :: st) N I L P := st_go b47 dX4_isWithinByTwo_86 (by decide) rfl
theorem s47_87 (h : x0 = 0 ∨ x0 = 1) : sm_at C X 47 87 ls [.int x0] N I L P = some (some (.int x0), N, I, L, P) := st_zret b47 dX4_isWithinByTwo_87 rfl h
theorem b48 : sm_b 48 = cX4_notePair := rfl
theorem s48_0 : sm_at C X 48 0 [some (.ref a), l1, l2] st N I L P = sm_at C X 48 1 [some (.ref a), l1, l2] (.ref a :: st) N I L P := st_go b48 dX4_notePair_0 (by decide) rfl
theorem s48_1 (h : a < N) (h1 : sm_lay a = .inl 4) : sm_at C X 48 1 ls (.ref a :: st) N I L P = sm_at C X 48 4 ls (va_rf (P a 3) :: st) N I L P := st_gfR b48 dX4_notePair_1 rfl rfl h h1
theorem s48_4 : sm_at C X 48 4 [l0, some (.int x0), l2] st N I L P = sm_at C X 48 5 [l0, some (.int x0), l2] (.int x0 :: st) N I L P := st_go b48 dX4_notePair_4 (by decide) rfl
theorem s48_5 : sm_at C X 48 5 ls st N I L P = sm_at C X 48 8 ls (.ref 1048576 :: st) N I L P := st_go b48 dX4_notePair_5 (by decide) rfl
theorem s48_8 : sm_at C X 48 8 [l0, l1, some (.int x0)] st N I L P = sm_at C X 48 9 [l0, l1, some (.int x0)] (.int x0 :: st) N I L P := st_go b48 dX4_notePair_8 (by decide) rfl
theorem s48_9 (h : a < N) (h1 : k < sm_al a) : sm_at C X 48 9 ls (.int (nI k) :: .ref a :: st) N I L P = sm_at C X 48 10 ls (.int (I a k) :: st) N I L P := st_iald b48 dX4_notePair_9 h h1
theorem s48_9t0 (h : N ≤ 1000) (h1 : k < 15) : sm_at C X 48 9 ls (.int (nI k) :: .ref 1048576 :: st) N I L P = sm_at C X 48 10 ls (.int (sm_tab 0 k) :: st) N I L P := st_iat0 b48 dX4_notePair_9 h h1
theorem s48_9t1 (h : N ≤ 1000) (h1 : k < 15) : sm_at C X 48 9 ls (.int (nI k) :: .ref 1048577 :: st) N I L P = sm_at C X 48 10 ls (.int (sm_tab 1 k) :: st) N I L P := st_iat1 b48 dX4_notePair_9 h h1
theorem s48_10 (h : a < N) (h1 : k < sm_al a) : sm_at C X 48 10 ls (.int x0 :: .int (nI k) :: .ref a :: st) N I L P = sm_at C X 48 11 ls st N (sm_up I a k x0) L P := st_iast b48 dX4_notePair_10 h h1
theorem s48_11 : sm_at C X 48 11 [some (.ref a), l1, l2] st N I L P = sm_at C X 48 12 [some (.ref a), l1, l2] (.ref a :: st) N I L P := st_go b48 dX4_notePair_11 (by decide) rfl
theorem s48_12 (h : a < N) (h1 : sm_lay a = .inl 4) : sm_at C X 48 12 ls (.ref a :: st) N I L P = sm_at C X 48 15 ls (va_rf (P a 3) :: st) N I L P := st_gfR b48 dX4_notePair_12 rfl rfl h h1
theorem s48_15 : sm_at C X 48 15 [l0, some (.int x0), l2] st N I L P = sm_at C X 48 16 [l0, some (.int x0), l2] (.int x0 :: st) N I L P := st_go b48 dX4_notePair_15 (by decide) rfl
theorem s48_16 : sm_at C X 48 16 ls st N I L P = sm_at C X 48 17 ls (.int (nI 1) :: st) N I L P := st_go b48 dX4_notePair_16 (by decide) rfl
theorem s48_17 : sm_at C X 48 17 ls (.int x0 :: .int x1 :: st) N I L P = sm_at C X 48 18 ls (.int (x1 + x0) :: st) N I L P := st_go b48 dX4_notePair_17 (by decide) rfl
theorem s48_18 : sm_at C X 48 18 ls st N I L P = sm_at C X 48 21 ls (.ref 1048577 :: st) N I L P := st_go b48 dX4_notePair_18 (by decide) rfl
theorem s48_21 : sm_at C X 48 21 [l0, l1, some (.int x0)] st N I L P = sm_at C X 48 22 [l0, l1, some (.int x0)] (.int x0 :: st) N I L P := st_go b48 dX4_notePair_21 (by decide) rfl
theorem s48_22 (h : a < N) (h1 : k < sm_al a) : sm_at C X 48 22 ls (.int (nI k) :: .ref a :: st) N I L P = sm_at C X 48 23 ls (.int (I a k) :: st) N I L P := st_iald b48 dX4_notePair_22 h h1
theorem s48_22t0 (h : N ≤ 1000) (h1 : k < 15) : sm_at C X 48 22 ls (.int (nI k) :: .ref 1048576 :: st) N I L P = sm_at C X 48 23 ls (.int (sm_tab 0 k) :: st) N I L P := st_iat0 b48 dX4_notePair_22 h h1
theorem s48_22t1 (h : N ≤ 1000) (h1 : k < 15) : sm_at C X 48 22 ls (.int (nI k) :: .ref 1048577 :: st) N I L P = sm_at C X 48 23 ls (.int (sm_tab 1 k) :: st) N I L P := st_iat1 b48 dX4_notePair_22 h h1
theorem s48_23 (h : a < N) (h1 : k < sm_al a) : sm_at C X 48 23 ls (.int x0 :: .int (nI k) :: .ref a :: st) N I L P = sm_at C X 48 24 ls st N (sm_up I a k x0) L P := st_iast b48 dX4_notePair_23 h h1
theorem s48_24 : sm_at C X 48 24 ls [] N I L P = some (none, N, I, L, P) := st_ret b48 dX4_notePair_24 (by decide) rfl
end STX4
