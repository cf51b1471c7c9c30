section STX6
variable {C : sm_Cf} {X : sm_Xs} {ls : List (Option Value)} {st : List Value} {N : Nat} {I : sm_Im} {L : sm_Lm} {P : sm_Pm} {x0 x1 x2 : Int32} {z0 z1 : Int64} {a a2 k n : Nat} {f : Nat → Int32} {w0 w1 w2 w3 w4 w5 w6 v0 v1 v2 v3 v4 : Value} {l0 l1 l2 l3 l4 l5 l6 l7 l8 l9 l10 l11 l12 l13 l14 l15 l16 : Option Value}
theorem b56 : sm_b 56 = cX6_init := rfl
theorem s56_0 : sm_at C X 56 0 [some (.ref a), l1] st N I L P = sm_at C X 56 1 [some (.ref a), l1] (.ref a :: st) N I L P := st_go b56 dX6_init_0 (by decide) rfl
theorem s56_1 : sm_at C X 56 1 ls (.ref a :: []) N I L P = sm_at C X 56 4 ls [] N I L P := st_go b56 dX6_init_1 (by decide) rfl
theorem s56_4 : sm_at C X 56 4 [some (.ref a), l1] st N I L P = sm_at C X 56 5 [some (.ref a), l1] (.ref a :: st) N I L P := st_go b56 dX6_init_4 (by decide) rfl
theorem s56_5 : sm_at C X 56 5 ls st N I L P = sm_at C X 56 6 ls (.int (nI 5) :: st) N I L P := st_go b56 dX6_init_5 (by decide) rfl
theorem s56_6 (h : N < 81) (h1 : sm_lay N = .inr (.inr k)) (h2 : k < 1000) : sm_at C X 56 6 ls (.int (nI k) :: st) N I L P = sm_at C X 56 9 ls (.ref N :: st) (N + 1) I L (sm_z P N none) := st_anew b56 dX6_init_6 rfl h h1 h2
theorem s56_9 (h : a < N) (h1 : sm_lay a = .inl 6) : sm_at C X 56 9 ls (.ref a2 :: .ref a :: st) N I L P = sm_at C X 56 12 ls st N I L (sm_up P a 0 (some a2)) := st_pfR b56 dX6_init_9 rfl rfl (Or.inr ⟨rfl, rfl⟩) h h1
theorem s56_12 : sm_at C X 56 12 [some (.ref a), l1] st N I L P = sm_at C X 56 13 [some (.ref a), l1] (.ref a :: st) N I L P := st_go b56 dX6_init_12 (by decide) rfl
theorem s56_13 : sm_at C X 56 13 ls st N I L P = sm_at C X 56 15 ls (.int (nI 10) :: st) N I L P := st_go b56 dX6_init_13 (by decide) rfl
theorem s56_15 (h : N < 81) (h1 : sm_lay N = .inr (.inl k)) (h2 : k < 1000) : sm_at C X 56 15 ls (.int (nI k) :: st) N I L P = sm_at C X 56 17 ls (.ref N :: st) (N + 1) (sm_z I N 0) L P := st_newa b56 dX6_init_15 h h1 h2
theorem s56_17 (h : a < N) (h1 : sm_lay a = .inl 6) : sm_at C X 56 17 ls (.ref a2 :: .ref a :: st) N I L P = sm_at C X 56 20 ls st N I L (sm_up P a 1 (some a2)) := st_pfR b56 dX6_init_17 rfl rfl (Or.inr ⟨rfl, rfl⟩) h h1
theorem s56_20 : sm_at C X 56 20 ls st N I L P = sm_at C X 56 21 ls (.int (nI 0) :: st) N I L P := st_go b56 dX6_init_20 (by decide) rfl
theorem s56_21 : sm_at C X 56 21 [l0, l1] (.int x0 :: st) N I L P = sm_at C X 56 22 [sm_cl l0, some (.int x0)] st N I L P := st_go b56 dX6_init_21 (by decide) rfl
theorem s56_22 : sm_at C X 56 22 [l0, some (.int x0)] st N I L P = sm_at C X 56 23 [l0, some (.int x0)] (.int x0 :: st) N I L P := st_go b56 dX6_init_22 (by decide) rfl
theorem s56_23 : sm_at C X 56 23 ls st N I L P = sm_at C X 56 24 ls (.int (nI 5) :: st) N I L P := st_go b56 dX6_init_23 (by decide) rfl
theorem s56_24 : sm_at C X 56 24 ls (.int x0 :: .int x1 :: st) N I L P = if x0 ≤ x1 then sm_at C X 56 46 ls st N I L P else sm_at C X 56 27 ls st N I L P := st_br b56 dX6_init_24 (by decide) rfl
theorem s56_27 : sm_at C X 56 27 [some (.ref a), l1] st N I L P = sm_at C X 56 28 [some (.ref a), l1] (.ref a :: st) N I L P := st_go b56 dX6_init_27 (by decide) rfl
theorem s56_28 (h : a < N) (h1 : sm_lay a = .inl 6) : sm_at C X 56 28 ls (.ref a :: st) N I L P = sm_at C X 56 31 ls (va_rf (P a 0) :: st) N I L P := st_gfR b56 dX6_init_28 rfl rfl h h1
theorem s56_31 : sm_at C X 56 31 [l0, some (.int x0)] st N I L P = sm_at C X 56 32 [l0, some (.int x0)] (.int x0 :: st) N I L P := st_go b56 dX6_init_31 (by decide) rfl
theorem s56_32 (h : N < 81) (h1 : sm_lay N = .inl 0) : sm_at C X 56 32 ls st N I L P = sm_at C X 56 35 ls (.ref N :: st) (N + 1) (sm_z I N 0) (sm_z L N 0) (sm_z P N none) := st_new b56 dX6_init_32 rfl h h1
theorem s56_35 : sm_at C X 56 35 ls (.ref a :: st) N I L P = sm_at C X 56 36 ls (.ref a :: .ref a :: st) N I L P := st_go b56 dX6_init_35 (by decide) rfl
theorem s56_36 (h : a < N) (h1 : sm_lay a = .inl 0) : sm_at C X 56 36 ls [.ref a, v2, v1, v0] N I L P = sm_af C X 56 39 ls [v2, v1, v0] (C 0 [.ref a] N I L P) := st_spec b56 dX6_init_36 (n := 1) (rest := [v2, v1, v0]) rfl rfl rfl rfl rfl rfl rfl h h1
theorem s56_39 (h : a < N) (h1 : sm_lay a = .inr (.inr 5)) (h2 : k < 5) (h3 : a2 < N) (h4 : sm_lay a2 = .inl 0) : sm_at C X 56 39 ls (.ref a2 :: .int (nI k) :: .ref a :: st) N I L P = sm_at C X 56 40 ls st N I L (sm_up P a k (some a2)) := st_aast b56 dX6_init_39 h h1 h2 h3 h4
theorem s56_40 : sm_at C X 56 40 [l0, some (.int x0)] st N I L P = sm_at C X 56 43 [sm_cl l0, some (.int (x0 + (nI 1)))] st N I L P := st_go b56 dX6_init_40 (by decide) rfl
theorem s56_43 : sm_at C X 56 43 ls st N I L P = sm_at C X 56 22 ls st N I L P := st_go b56 dX6_init_43 (by decide) rfl
theorem s56_46 : sm_at C X 56 46 [some (.ref a), l1] st N I L P = sm_at C X 56 47 [some (.ref a), l1] (.ref a :: st) N I L P := st_go b56 dX6_init_46 (by decide) rfl
theorem s56_47 (h : a < N) (h1 : sm_lay a = .inl 6) : sm_at C X 56 47 ls (.ref a :: st) N I L P = sm_at C X 56 50 ls (va_rf (P a 1) :: st) N I L P := st_gfR b56 dX6_init_47 rfl rfl h h1
theorem s56_50 : sm_at C X 56 50 ls st N I L P = sm_at C X 56 51 ls (.int (-1) :: st) N I L P := st_go b56 dX6_init_50 (by decide) rfl
theorem s56_51 : sm_at C X 56 51 ls [w1, w0] N I L P = sm_af C X 56 54 ls [] (C 215 [w0, w1] N I L P) := st_stat b56 dX6_init_51 (n := 2) (rest := []) rfl rfl rfl rfl rfl rfl
theorem s56_54 : sm_at C X 56 54 ls [] N I L P = some (none, N, I, L, P) := st_ret b56 dX6_init_54 (by decide) rfl
theorem b57 : sm_b 57 = cX6_readFrom := rfl
theorem s57_0 : sm_at C X 57 0 [some (.ref a), l1, l2] st N I L P = sm_at C X 57 1 [some (.ref a), l1, l2] (.ref a :: st) N I L P := st_go b57 dX6_readFrom_0 (by decide) rfl
theorem s57_1 (h : a < N) (h1 : sm_lay a = .inl 6) : sm_at C X 57 1 ls (.ref a :: st) N I L P = sm_at C X 57 4 ls (va_rf (P a 1) :: st) N I L P := st_gfR b57 dX6_readFrom_1 rfl rfl h h1
theorem s57_4 : sm_at C X 57 4 ls st N I L P = sm_at C X 57 5 ls (.int (-1) :: st) N I L P := st_go b57 dX6_readFrom_4 (by decide) rfl
theorem s57_5 : sm_at C X 57 5 ls [w1, w0] N I L P = sm_af C X 57 8 ls [] (C 215 [w0, w1] N I L P) := st_stat b57 dX6_readFrom_5 (n := 2) (rest := []) rfl rfl rfl rfl rfl rfl
theorem s57_8 : sm_at C X 57 8 [some (.ref a), l1, l2] st N I L P = sm_at C X 57 9 [some (.ref a), l1, l2] (.ref a :: st) N I L P := st_go b57 dX6_readFrom_8 (by decide) rfl
theorem s57_9 : sm_at C X 57 9 ls st N I L P = sm_at C X 57 10 ls (.int (nI 0) :: st) N I L P := st_go b57 dX6_readFrom_9 (by decide) rfl
theorem s57_10 (h : a < N) (h1 : sm_lay a = .inl 6) : sm_at C X 57 10 ls (.int x0 :: .ref a :: st) N I L P = sm_at C X 57 13 ls st N (sm_up I a 2 x0) L P := st_pfI b57 dX6_readFrom_10 rfl rfl rfl h h1
theorem s57_13 : sm_at C X 57 13 [some (.ref a), l1, l2] st N I L P = sm_at C X 57 14 [some (.ref a), l1, l2] (.ref a :: st) N I L P := st_go b57 dX6_readFrom_13 (by decide) rfl
theorem s57_14 (h : a < N) (h1 : sm_lay a = .inl 6) : sm_at C X 57 14 ls [.ref a] N I L P = sm_af C X 57 17 ls [] (C 64 [.ref a] N I L P) := st_virt b57 dX6_readFrom_14 (n := 1) (rest := []) rfl rfl rfl rfl rfl rfl rfl h h1
theorem s57_17 : sm_at C X 57 17 ls (.int x0 :: st) N I L P = sm_at C X 57 18 ls st N I L P := st_go b57 dX6_readFrom_17 (by decide) rfl
theorem s57_18 : sm_at C X 57 18 ls st N I L P = sm_at C X 57 19 ls (.int (nI 0) :: st) N I L P := st_go b57 dX6_readFrom_18 (by decide) rfl
theorem s57_19 : sm_at C X 57 19 [l0, l1, l2] (.int x0 :: st) N I L P = sm_at C X 57 20 [l0, sm_cl l1, some (.int x0)] st N I L P := st_go b57 dX6_readFrom_19 (by decide) rfl
theorem s57_20 : sm_at C X 57 20 [l0, l1, some (.int x0)] st N I L P = sm_at C X 57 21 [l0, l1, some (.int x0)] (.int x0 :: st) N I L P := st_go b57 dX6_readFrom_20 (by decide) rfl
theorem s57_21 : sm_at C X 57 21 [l0, some (.ref a), l2] st N I L P = sm_at C X 57 22 [l0, some (.ref a), l2] (.ref a :: st) N I L P := st_go b57 dX6_readFrom_21 (by decide) rfl
theorem s57_21n : sm_at C X 57 21 [l0, some .null, l2] st N I L P = sm_at C X 57 22 [l0, some .null, l2] (.null :: st) N I L P := st_go b57 dX6_readFrom_21 (by decide) rfl
theorem s57_22 (h : a < N) (h1 : sm_lay a = .inl 5) : sm_at C X 57 22 ls [.ref a, v0] N I L P = sm_af C X 57 25 ls [v0] (C 50 [.ref a] N I L P) := st_virt b57 dX6_readFrom_22 (n := 1) (rest := [v0]) rfl rfl rfl rfl rfl rfl rfl h h1
theorem s57_25 : sm_at C X 57 25 ls (.int x0 :: .int x1 :: st) N I L P = if x0 ≤ x1 then sm_at C X 57 48 ls st N I L P else sm_at C X 57 28 ls st N I L P := st_br b57 dX6_readFrom_25 (by decide) rfl
theorem s57_28 : sm_at C X 57 28 [some (.ref a), l1, l2] st N I L P = sm_at C X 57 29 [some (.ref a), l1, l2] (.ref a :: st) N I L P := st_go b57 dX6_readFrom_28 (by decide) rfl
theorem s57_29 : sm_at C X 57 29 [l0, some (.ref a), l2] st N I L P = sm_at C X 57 30 [l0, some (.ref a), l2] (.ref a :: st) N I L P := st_go b57 dX6_readFrom_29 (by decide) rfl
theorem s57_29n : sm_at C X 57 29 [l0, some .null, l2] st N I L P = sm_at C X 57 30 [l0, some .null, l2] (.null :: st) N I L P := st_go b57 dX6_readFrom_29 (by decide) rfl
theorem s57_30 : sm_at C X 57 30 [l0, l1, some (.int x0)] st N I L P = sm_at C X 57 31 [l0, l1, some (.int x0)] (.int x0 :: st) N I L P := st_go b57 dX6_readFrom_30 (by decide) rfl
theorem s57_31 (h : a < N) (h1 : sm_lay a = .inl 5) : sm_at C X 57 31 ls [w1, .ref a, v0] N I L P = sm_af C X 57 34 ls [v0] (C 51 [.ref a, w1] N I L P) := st_virt b57 dX6_readFrom_31 (n := 2) (rest := [v0]) rfl rfl rfl rfl rfl rfl rfl h h1
theorem s57_34 (h : a < N) (h1 : sm_lay a = .inl 6) : sm_at C X 57 34 ls [w1, .ref a] N I L P = sm_af C X 57 37 ls [] (C 65 [.ref a, w1] N I L P) := st_virt b57 dX6_readFrom_34 (n := 2) (rest := []) rfl rfl rfl rfl rfl rfl rfl h h1
theorem s57_37 : sm_at C X 57 37 ls (.int x0 :: st) N I L P = if ¬ x0 = 0 then sm_at C X 57 42 ls st N I L P else sm_at C X 57 40 ls st N I L P := st_br b57 dX6_readFrom_37 (by decide) rfl
theorem s57_40 : sm_at C X 57 40 [l0, l1, some (.int x0)] st N I L P = sm_at C X 57 41 [l0, l1, some (.int x0)] (.int x0 :: st) N I L P := st_go b57 dX6_readFrom_40 (by decide) rfl
theorem s57_41 : sm_at C X 57 41 ls [.int x0] N I L P = some (some (.int x0), N, I, L, P) := st_iret b57 dX6_readFrom_41 rfl
theorem s57_42 : sm_at C X 57 42 [l0, l1, some (.int x0)] st N I L P = sm_at C X 57 45 [l0, sm_cl l1, some (.int (x0 + (nI 1)))] st N I L P := st_go b57 dX6_readFrom_42 (by decide) rfl
theorem s57_45 : sm_at C X 57 45 ls st N I L P = sm_at C X 57 20 ls st N I L P := st_go b57 dX6_readFrom_45 (by decide) rfl
theorem s57_48 : sm_at C X 57 48 [l0, some (.ref a), l2] st N I L P = sm_at C X 57 49 [l0, some (.ref a), l2] (.ref a :: st) N I L P := st_go b57 dX6_readFrom_48 (by decide) rfl
theorem s57_48n : sm_at C X 57 48 [l0, some .null, l2] st N I L P = sm_at C X 57 49 [l0, some .null, l2] (.null :: st) N I L P := st_go b57 dX6_readFrom_48 (by decide) rfl
theorem s57_49 (h : a < N) (h1 : sm_lay a = .inl 5) : sm_at C X 57 49 ls [.ref a] N I L P = sm_af C X 57 52 ls [] (C 50 [.ref a] N I L P) := st_virt b57 dX6_readFrom_49 (n := 1) (rest := []) rfl rfl rfl rfl rfl rfl rfl h h1
theorem s57_52 : sm_at C X 57 52 ls [.int x0] N I L P = some (some (.int x0), N, I, L, P) := st_iret b57 dX6_readFrom_52 rfl
theorem b58 : sm_b 58 = cX6_isWhole := rfl
theorem s58_0 : sm_at C X 58 0 [some (.ref a), l1] st N I L P = sm_at C X 58 1 [some (.ref a), l1] (.ref a :: st) N I L P := st_go b58 dX6_isWhole_0 (by decide) rfl
theorem s58_1 : sm_at C X 58 1 [some (.ref a), l1] st N I L P = sm_at C X 58 2 [some (.ref a), l1] (.ref a :: st) N I L P := st_go b58 dX6_isWhole_1 (by decide) rfl
theorem s58_2 (h : a < N) (h1 : sm_lay a = .inl 6) : sm_at C X 58 2 ls (.ref a :: st) N I L P = sm_at C X 58 5 ls (.int (I a 2) :: st) N I L P := st_gfI b58 dX6_isWhole_2 rfl rfl h h1
theorem s58_5 : sm_at C X 58 5 ls st N I L P = sm_at C X 58 6 ls (.int (nI 1) :: st) N I L P := st_go b58 dX6_isWhole_5 (by decide) rfl
theorem s58_6 : sm_at C X 58 6 ls (.int x0 :: .int x1 :: st) N I L P = sm_at C X 58 7 ls (.int (x1 - x0) :: st) N I L P := st_go b58 dX6_isWhole_6 (by decide) rfl
theorem s58_7 (h : a < N) (h1 : sm_lay a = .inl 6) : sm_at C X 58 7 ls [w1, .ref a] N I L P = sm_af C X 58 10 ls [] (C 60 [.ref a, w1] N I L P) := st_virt b58 dX6_isWhole_7 (n := 2) (rest := []) rfl rfl rfl rfl rfl rfl rfl h h1
theorem s58_10 : sm_at C X 58 10 [l0, l1] (.ref a :: st) N I L P = sm_at C X 58 11 [sm_cl l0, some (.ref a)] st N I L P := st_go b58 dX6_isWhole_10 (by decide) rfl
theorem s58_10n : sm_at C X 58 10 [l0, l1] (.null :: st) N I L P = sm_at C X 58 11 [sm_cl l0, some .null] st N I L P := st_go b58 dX6_isWhole_10 (by decide) rfl
theorem s58_11 : sm_at C X 58 11 [l0, some (.ref a)] st N I L P = sm_at C X 58 12 [l0, some (.ref a)] (.ref a :: st) N I L P := st_go b58 dX6_isWhole_11 (by decide) rfl
theorem s58_11n : sm_at C X 58 11 [l0, some .null] st N I L P = sm_at C X 58 12 [l0, some .null] (.null :: st) N I L P := st_go b58 dX6_isWhole_11 (by decide) rfl
theorem s58_12 : sm_at C X 58 12 ls (.ref a :: st) N I L P = sm_at C X 58 15 ls st N I L P := st_go b58 dX6_isWhole_12 (by decide) rfl
theorem s58_12n : sm_at C X 58 12 ls (.null :: st) N I L P = sm_at C X 58 26 ls st N I L P := st_go b58 dX6_isWhole_12 (by decide) rfl
theorem s58_15 : sm_at C X 58 15 [l0, some (.ref a)] st N I L P = sm_at C X 58 16 [l0, some (.ref a)] (.ref a :: st) N I L P := st_go b58 dX6_isWhole_15 (by decide) rfl
theorem s58_15n : sm_at C X 58 15 [l0, some .null] st N I L P = sm_at C X 58 16 [l0, some .null] (.null :: st) N I L P := st_go b58 dX6_isWhole_15 (by decide) rfl
theorem s58_16 (h : a < N) (h1 : sm_lay a = .inl 0) : sm_at C X 58 16 ls [.ref a] N I L P = sm_af C X 58 19 ls [] (C 6 [.ref a] N I L P) := st_virt b58 dX6_isWhole_16 (n := 1) (rest := []) rfl rfl rfl rfl rfl rfl rfl h h1
theorem s58_19 : sm_at C X 58 19 ls (.int x0 :: st) N I L P = if x0 = 0 then sm_at C X 58 26 ls st N I L P else sm_at C X 58 22 ls st N I L P := st_br b58 dX6_isWhole_19 (by decide) rfl
theorem s58_22 : sm_at C X 58 22 ls st N I L P = sm_at C X 58 23 ls (.int (nI 1) :: st) N I L P := st_go b58 dX6_isWhole_22 (by decide) rfl
theorem s58_23 : sm_at C X 58 23 ls st N I L P = sm_at C X 58 27 ls st N I L P := st_go b58 dX6_isWhole_23 (by decide) rfl
theorem s58_26 : sm_at C X 58 26 ls st N I L P = sm_at C X 58 27 ls (.int (nI 0) :: st) N I L P := st_go b58 dX6_isWhole_26 (by decide) rfl
theorem s58_27 (h : x0 = 0 ∨ x0 = 1) : sm_at C X 58 27 ls [.int x0] N I L P = some (some (.int x0), N, I, L, P) := st_zret b58 dX6_isWhole_27 rfl h
theorem b59 : sm_b 59 = cX6_size := rfl
theorem s59_0 : sm_at C X 59 0 [some (.ref a)] st N I L P = sm_at C X 59 1 [some (.ref a)] (.ref a :: st) N I L P := st_go b59 dX6_size_0 (by decide) rfl
theorem s59_1 (h : a < N) (h1 : sm_lay a = .inl 6) : sm_at C X 59 1 ls (.ref a :: st) N I L P = sm_at C X 59 4 ls (.int (I a 2) :: st) N I L P := st_gfI b59 dX6_size_1 rfl rfl h h1
theorem s59_4 : sm_at C X 59 4 ls [.int x0] N I L P = some (some (.int x0), N, I, L, P) := st_iret b59 dX6_size_4 rfl
theorem b60 : sm_b 60 = cX6_find := rfl
theorem s60_0 : sm_at C X 60 0 [l0, some (.int x0)] st N I L P = sm_at C X 60 1 [l0, some (.int x0)] (.int x0 :: st) N I L P := st_go b60 dX6_find_0 (by decide) rfl
theorem s60_1 : sm_at C X 60 1 ls (.int x0 :: st) N I L P = if x0 < 0 then sm_at C X 60 26 ls st N I L P else sm_at C X 60 4 ls st N I L P := st_br b60 dX6_find_1 (by decide) rfl
theorem s60_4 : sm_at C X 60 4 [l0, some (.int x0)] st N I L P = sm_at C X 60 5 [l0, some (.int x0)] (.int x0 :: st) N I L P := st_go b60 dX6_find_4 (by decide) rfl
theorem s60_5 : sm_at C X 60 5 [some (.ref a), l1] st N I L P = sm_at C X 60 6 [some (.ref a), l1] (.ref a :: st) N I L P := st_go b60 dX6_find_5 (by decide) rfl
theorem s60_6 (h : a < N) (h1 : sm_lay a = .inl 6) : sm_at C X 60 6 ls (.ref a :: st) N I L P = sm_at C X 60 9 ls (.int (I a 2) :: st) N I L P := st_gfI b60 dX6_find_6 rfl rfl h h1
theorem s60_9 : sm_at C X 60 9 ls (.int x0 :: .int x1 :: st) N I L P = if x0 ≤ x1 then sm_at C X 60 26 ls st N I L P else sm_at C X 60 12 ls st N I L P := st_br b60 dX6_find_9 (by decide) rfl
theorem s60_12 : sm_at C X 60 12 [l0, some (.int x0)] st N I L P = sm_at C X 60 13 [l0, some (.int x0)] (.int x0 :: st) N I L P := st_go b60 dX6_find_12 (by decide) rfl
theorem s60_13 : sm_at C X 60 13 ls st N I L P = sm_at C X 60 14 ls (.int (nI 5) :: st) N I L P := st_go b60 dX6_find_13 (by decide) rfl
theorem s60_14 : sm_at C X 60 14 ls (.int x0 :: .int x1 :: st) N I L P = if x0 ≤ x1 then sm_at C X 60 26 ls st N I L P else sm_at C X 60 17 ls st N I L P := st_br b60 dX6_find_14 (by decide) rfl
theorem s60_17 : sm_at C X 60 17 [some (.ref a), l1] st N I L P = sm_at C X 60 18 [some (.ref a), l1] (.ref a :: st) N I L P := st_go b60 dX6_find_17 (by decide) rfl
theorem s60_18 (h : a < N) (h1 : sm_lay a = .inl 6) : sm_at C X 60 18 ls (.ref a :: st) N I L P = sm_at C X 60 21 ls (va_rf (P a 0) :: st) N I L P := st_gfR b60 dX6_find_18 rfl rfl h h1
theorem s60_21 : sm_at C X 60 21 [l0, some (.int x0)] st N I L P = sm_at C X 60 22 [l0, some (.int x0)] (.int x0 :: st) N I L P := st_go b60 dX6_find_21 (by decide) rfl
theorem s60_22 (h : a < N) (h1 : sm_lay a = .inr (.inr 5)) (h2 : k < 5) : sm_at C X 60 22 ls (.int (nI k) :: .ref a :: st) N I L P = sm_at C X 60 23 ls (va_rf (P a k) :: st) N I L P := st_aald b60 dX6_find_22 h h1 h2
theorem s60_23 : sm_at C X 60 23 ls st N I L P = sm_at C X 60 27 ls st N I L P := st_go b60 dX6_find_23 (by decide) rfl
theorem s60_26 : sm_at C X 60 26 ls st N I L P = sm_at C X 60 27 ls (.null :: st) N I L P := st_go b60 dX6_find_26 (by decide) rfl
theorem s60_27 : sm_at C X 60 27 ls [.ref a] N I L P = some (some (.ref a), N, I, L, P) := st_ret b60 dX6_find_27 (by decide) rfl
theorem s60_27n : sm_at C X 60 27 ls [.null] N I L P = some (some .null, N, I, L, P) := st_ret b60 dX6_find_27 (by decide) rfl
theorem b61 : sm_b 61 = cX6_birthOf := rfl
theorem s61_0 : sm_at C X 61 0 [l0, some (.int x0)] st N I L P = sm_at C X 61 1 [l0, some (.int x0)] (.int x0 :: st) N I L P := st_go b61 dX6_birthOf_0 (by decide) rfl
theorem s61_1 : sm_at C X 61 1 ls [w0] N I L P = sm_af C X 61 4 ls [] (C 133 [w0] N I L P) := st_stat b61 dX6_birthOf_1 (n := 1) (rest := []) rfl rfl rfl rfl rfl rfl
theorem s61_4 : sm_at C X 61 4 ls (.int x0 :: st) N I L P = if x0 = 0 then sm_at C X 61 16 ls st N I L P else sm_at C X 61 7 ls st N I L P := st_br b61 dX6_birthOf_4 (by decide) rfl
theorem s61_7 : sm_at C X 61 7 [some (.ref a), l1] st N I L P = sm_at C X 61 8 [some (.ref a), l1] (.ref a :: st) N I L P := st_go b61 dX6_birthOf_7 (by decide) rfl
theorem s61_8 (h : a < N) (h1 : sm_lay a = .inl 6) : sm_at C X 61 8 ls (.ref a :: st) N I L P = sm_at C X 61 11 ls (va_rf (P a 1) :: st) N I L P := st_gfR b61 dX6_birthOf_8 rfl rfl h h1
theorem s61_11 : sm_at C X 61 11 [l0, some (.int x0)] st N I L P = sm_at C X 61 12 [l0, some (.int x0)] (.int x0 :: st) N I L P := st_go b61 dX6_birthOf_11 (by decide) rfl
theorem s61_12 (h : a < N) (h1 : k < sm_al a) : sm_at C X 61 12 ls (.int (nI k) :: .ref a :: st) N I L P = sm_at C X 61 13 ls (.int (I a k) :: st) N I L P := st_iald b61 dX6_birthOf_12 h h1
theorem s61_13 : sm_at C X 61 13 ls st N I L P = sm_at C X 61 17 ls st N I L P := st_go b61 dX6_birthOf_13 (by decide) rfl
theorem s61_16 : sm_at C X 61 16 ls st N I L P = sm_at C X 61 17 ls (.int (-1) :: st) N I L P := st_go b61 dX6_birthOf_16 (by decide) rfl
theorem s61_17 : sm_at C X 61 17 ls [.int x0] N I L P = some (some (.int x0), N, I, L, P) := st_iret b61 dX6_birthOf_17 rfl
theorem b62 : sm_b 62 = cX6_tenthsOf := rfl
theorem s62_0 : sm_at C X 62 0 [some (.ref a), l1, l2] st N I L P = sm_at C X 62 1 [some (.ref a), l1, l2] (.ref a :: st) N I L P := st_go b62 dX6_tenthsOf_0 (by decide) rfl
theorem s62_1 : sm_at C X 62 1 [some (.ref a), l1, l2] st N I L P = sm_at C X 62 2 [some (.ref a), l1, l2] (.ref a :: st) N I L P := st_go b62 dX6_tenthsOf_1 (by decide) rfl
theorem s62_2 : sm_at C X 62 2 [l0, some (.int x0), l2] st N I L P = sm_at C X 62 3 [l0, some (.int x0), l2] (.int x0 :: st) N I L P := st_go b62 dX6_tenthsOf_2 (by decide) rfl
theorem s62_3 (h : a < N) (h1 : sm_lay a = .inl 6) : sm_at C X 62 3 ls [w1, .ref a, v0] N I L P = sm_af C X 62 6 ls [v0] (C 61 [.ref a, w1] N I L P) := st_virt b62 dX6_tenthsOf_3 (n := 2) (rest := [v0]) rfl rfl rfl rfl rfl rfl rfl h h1
theorem s62_6 (h : a < N) (h1 : sm_lay a = .inl 6) : sm_at C X 62 6 ls [w1, .ref a] N I L P = sm_af C X 62 9 ls [] (C 60 [.ref a, w1] N I L P) := st_virt b62 dX6_tenthsOf_6 (n := 2) (rest := []) rfl rfl rfl rfl rfl rfl rfl h h1
theorem s62_9 : sm_at C X 62 9 [l0, l1, l2] (.ref a :: st) N I L P = sm_at C X 62 10 [l0, sm_cl l1, some (.ref a)] st N I L P := st_go b62 dX6_tenthsOf_9 (by decide) rfl
theorem s62_9n : sm_at C X 62 9 [l0, l1, l2] (.null :: st) N I L P = sm_at C X 62 10 [l0, sm_cl l1, some .null] st N I L P := st_go b62 dX6_tenthsOf_9 (by decide) rfl
theorem s62_10 : sm_at C X 62 10 [l0, l1, some (.ref a)] st N I L P = sm_at C X 62 11 [l0, l1, some (.ref a)] (.ref a :: st) N I L P := st_go b62 dX6_tenthsOf_10 (by decide) rfl
theorem s62_10n : sm_at C X 62 10 [l0, l1, some .null] st N I L P = sm_at C X 62 11 [l0, l1, some .null] (.null :: st) N I L P := st_go b62 dX6_tenthsOf_10 (by decide) rfl
theorem s62_11 : sm_at C X 62 11 ls (.ref a :: st) N I L P = sm_at C X 62 19 ls st N I L P := st_go b62 dX6_tenthsOf_11 (by decide) rfl
theorem s62_11n : sm_at C X 62 11 ls (.null :: st) N I L P = sm_at C X 62 14 ls st N I L P := st_go b62 dX6_tenthsOf_11 (by decide) rfl
theorem s62_14 : sm_at C X 62 14 ls st N I L P = sm_at C X 62 16 ls (.int (nI 10) :: st) N I L P := st_go b62 dX6_tenthsOf_14 (by decide) rfl
theorem s62_16 : sm_at C X 62 16 ls st N I L P = sm_at C X 62 23 ls st N I L P := st_go b62 dX6_tenthsOf_16 (by decide) rfl
theorem s62_19 : sm_at C X 62 19 [l0, l1, some (.ref a)] st N I L P = sm_at C X 62 20 [l0, l1, some (.ref a)] (.ref a :: st) N I L P := st_go b62 dX6_tenthsOf_19 (by decide) rfl
theorem s62_19n : sm_at C X 62 19 [l0, l1, some .null] st N I L P = sm_at C X 62 20 [l0, l1, some .null] (.null :: st) N I L P := st_go b62 dX6_tenthsOf_19 (by decide) rfl
theorem s62_20 (h : a < N) (h1 : sm_lay a = .inl 0) : sm_at C X 62 20 ls [.ref a] N I L P = sm_af C X 62 23 ls [] (C 9 [.ref a] N I L P) := st_virt b62 dX6_tenthsOf_20 (n := 1) (rest := []) rfl rfl rfl rfl rfl rfl rfl h h1
theorem s62_23 : sm_at C X 62 23 ls [.int x0] N I L P = some (some (.int x0), N, I, L, P) := st_iret b62 dX6_tenthsOf_23 rfl
theorem b63 : sm_b 63 = cX6_delay := rfl
theorem s63_0 : sm_at C X 63 0 [some (.ref a), l1, l2, l3, l4] st N I L P = sm_at C X 63 1 [some (.ref a), l1, l2, l3, l4] (.ref a :: st) N I L P := st_go b63 dX6_delay_0 (by decide) rfl
theorem s63_1 : sm_at C X 63 1 [l0, some (.int x0), l2, l3, l4] st N I L P = sm_at C X 63 2 [l0, some (.int x0), l2, l3, l4] (.int x0 :: st) N I L P := st_go b63 dX6_delay_1 (by decide) rfl
theorem s63_2 (h : a < N) (h1 : sm_lay a = .inl 6) : sm_at C X 63 2 ls [w1, .ref a] N I L P = sm_af C X 63 5 ls [] (C 61 [.ref a, w1] N I L P) := st_virt b63 dX6_delay_2 (n := 2) (rest := []) rfl rfl rfl rfl rfl rfl rfl h h1
theorem s63_5 : sm_at C X 63 5 [l0, l1, l2, l3, l4] (.int x0 :: st) N I L P = sm_at C X 63 6 [l0, l1, sm_cl l2, some (.int x0), l4] st N I L P := st_go b63 dX6_delay_5 (by decide) rfl
theorem s63_6 : sm_at C X 63 6 [some (.ref a), l1, l2, l3, l4] st N I L P = sm_at C X 63 7 [some (.ref a), l1, l2, l3, l4] (.ref a :: st) N I L P := st_go b63 dX6_delay_6 (by decide) rfl
theorem s63_7 : sm_at C X 63 7 [l0, l1, l2, some (.int x0), l4] st N I L P = sm_at C X 63 8 [l0, l1, l2, some (.int x0), l4] (.int x0 :: st) N I L P := st_go b63 dX6_delay_7 (by decide) rfl
theorem s63_8 (h : a < N) (h1 : sm_lay a = .inl 6) : sm_at C X 63 8 ls [w1, .ref a] N I L P = sm_af C X 63 11 ls [] (C 60 [.ref a, w1] N I L P) := st_virt b63 dX6_delay_8 (n := 2) (rest := []) rfl rfl rfl rfl rfl rfl rfl h h1
theorem s63_11 : sm_at C X 63 11 [l0, l1, l2, l3, l4] (.ref a :: st) N I L P = sm_at C X 63 13 [l0, l1, l2, sm_cl l3, some (.ref a)] st N I L P := st_go b63 dX6_delay_11 (by decide) rfl
theorem s63_11n : sm_at C X 63 11 [l0, l1, l2, l3, l4] (.null :: st) N I L P = sm_at C X 63 13 [l0, l1, l2, sm_cl l3, some .null] st N I L P := st_go b63 dX6_delay_11 (by decide) rfl
theorem s63_13 : sm_at C X 63 13 [l0, l1, l2, l3, some (.ref a)] st N I L P = sm_at C X 63 15 [l0, l1, l2, l3, some (.ref a)] (.ref a :: st) N I L P := st_go b63 dX6_delay_13 (by decide) rfl
theorem s63_13n : sm_at C X 63 13 [l0, l1, l2, l3, some .null] st N I L P = sm_at C X 63 15 [l0, l1, l2, l3, some .null] (.null :: st) N I L P := st_go b63 dX6_delay_13 (by decide) rfl
theorem s63_15 : sm_at C X 63 15 ls (.ref a :: st) N I L P = sm_at C X 63 18 ls st N I L P := st_go b63 dX6_delay_15 (by decide) rfl
theorem s63_15n : sm_at C X 63 15 ls (.null :: st) N I L P = sm_at C X 63 32 ls st N I L P := st_go b63 dX6_delay_15 (by decide) rfl
theorem s63_18 : sm_at C X 63 18 [some (.ref a), l1, l2, l3, l4] st N I L P = sm_at C X 63 19 [some (.ref a), l1, l2, l3, l4] (.ref a :: st) N I L P := st_go b63 dX6_delay_18 (by decide) rfl
theorem s63_19 : sm_at C X 63 19 [l0, l1, some (.int x0), l3, l4] st N I L P = sm_at C X 63 20 [l0, l1, some (.int x0), l3, l4] (.int x0 :: st) N I L P := st_go b63 dX6_delay_19 (by decide) rfl
theorem s63_20 (h : a < N) (h1 : sm_lay a = .inl 6) : sm_at C X 63 20 ls [w1, .ref a] N I L P = sm_af C X 63 23 ls [] (C 61 [.ref a, w1] N I L P) := st_virt b63 dX6_delay_20 (n := 2) (rest := []) rfl rfl rfl rfl rfl rfl rfl h h1
theorem s63_23 : sm_at C X 63 23 [l0, l1, l2, some (.int x0), l4] st N I L P = sm_at C X 63 24 [l0, l1, l2, some (.int x0), l4] (.int x0 :: st) N I L P := st_go b63 dX6_delay_23 (by decide) rfl
theorem s63_24 : sm_at C X 63 24 ls (.int x0 :: .int x1 :: st) N I L P = if ¬ x1 = x0 then sm_at C X 63 32 ls st N I L P else sm_at C X 63 27 ls st N I L P := st_br b63 dX6_delay_24 (by decide) rfl
theorem s63_27 : sm_at C X 63 27 [l0, some (.int x0), l2, l3, l4] st N I L P = sm_at C X 63 28 [l0, some (.int x0), l2, l3, l4] (.int x0 :: st) N I L P := st_go b63 dX6_delay_27 (by decide) rfl
theorem s63_28 : sm_at C X 63 28 [l0, l1, some (.int x0), l3, l4] st N I L P = sm_at C X 63 29 [l0, l1, some (.int x0), l3, l4] (.int x0 :: st) N I L P := st_go b63 dX6_delay_28 (by decide) rfl
theorem s63_29 : sm_at C X 63 29 ls (.int x0 :: .int x1 :: st) N I L P = if ¬ x1 = x0 then sm_at C X 63 34 ls st N I L P else sm_at C X 63 32 ls st N I L P := st_br b63 dX6_delay_29 (by decide) rfl
theorem s63_32 : sm_at C X 63 32 ls st N I L P = sm_at C X 63 33 ls (.int (-1) :: st) N I L P := st_go b63 dX6_delay_32 (by decide) rfl
theorem s63_33 : sm_at C X 63 33 ls [.int x0] N I L P = some (some (.int x0), N, I, L, P) := st_iret b63 dX6_delay_33 rfl
theorem s63_34 : sm_at C X 63 34 [l0, l1, l2, l3, some (.ref a)] st N I L P = sm_at C X 63 36 [l0, l1, l2, l3, some (.ref a)] (.ref a :: st) N I L P := st_go b63 dX6_delay_34 (by decide) rfl
theorem s63_34n : sm_at C X 63 34 [l0, l1, l2, l3, some .null] st N I L P = sm_at C X 63 36 [l0, l1, l2, l3, some .null] (.null :: st) N I L P := st_go b63 dX6_delay_34 (by decide) rfl
theorem s63_36 : sm_at C X 63 36 [l0, l1, l2, l3, some (.ref a)] st N I L P = sm_at C X 63 38 [l0, l1, l2, l3, some (.ref a)] (.ref a :: st) N I L P := st_go b63 dX6_delay_36 (by decide) rfl
theorem s63_36n : sm_at C X 63 36 [l0, l1, l2, l3, some .null] st N I L P = sm_at C X 63 38 [l0, l1, l2, l3, some .null] (.null :: st) N I L P := st_go b63 dX6_delay_36 (by decide) rfl
theorem s63_38 : sm_at C X 63 38 [l0, some (.int x0), l2, l3, l4] st N I L P = sm_at C X 63 39 [l0, some (.int x0), l2, l3, l4] (.int x0 :: st) N I L P := st_go b63 dX6_delay_38 (by decide) rfl
theorem s63_39 (h : a < N) (h1 : sm_lay a = .inl 0) : sm_at C X 63 39 ls [w1, .ref a, v0] N I L P = sm_af C X 63 42 ls [v0] (C 12 [.ref a, w1] N I L P) := st_virt b63 dX6_delay_39 (n := 2) (rest := [v0]) rfl rfl rfl rfl rfl rfl rfl h h1
theorem s63_42 : sm_at C X 63 42 [l0, l1, l2, l3, some (.ref a)] st N I L P = sm_at C X 63 44 [l0, l1, l2, l3, some (.ref a)] (.ref a :: st) N I L P := st_go b63 dX6_delay_42 (by decide) rfl
theorem s63_42n : sm_at C X 63 42 [l0, l1, l2, l3, some .null] st N I L P = sm_at C X 63 44 [l0, l1, l2, l3, some .null] (.null :: st) N I L P := st_go b63 dX6_delay_42 (by decide) rfl
theorem s63_44 : sm_at C X 63 44 [l0, l1, some (.int x0), l3, l4] st N I L P = sm_at C X 63 45 [l0, l1, some (.int x0), l3, l4] (.int x0 :: st) N I L P := st_go b63 dX6_delay_44 (by decide) rfl
theorem s63_45 (h : a < N) (h1 : sm_lay a = .inl 0) : sm_at C X 63 45 ls [w1, .ref a, v1, v0] N I L P = sm_af C X 63 48 ls [v1, v0] (C 12 [.ref a, w1] N I L P) := st_virt b63 dX6_delay_45 (n := 2) (rest := [v1, v0]) rfl rfl rfl rfl rfl rfl rfl h h1
theorem s63_48 (h : a < N) (h1 : sm_lay a = .inl 0) : sm_at C X 63 48 ls [w2, w1, .ref a] N I L P = sm_af C X 63 51 ls [] (C 14 [.ref a, w1, w2] N I L P) := st_virt b63 dX6_delay_48 (n := 3) (rest := []) rfl rfl rfl rfl rfl rfl rfl h h1
theorem s63_51 : sm_at C X 63 51 ls [.int x0] N I L P = some (some (.int x0), N, I, L, P) := st_iret b63 dX6_delay_51 rfl
theorem b64 : sm_b 64 = cX6_beginBirth := rfl
theorem s64_0 : sm_at C X 64 0 [some (.ref a)] st N I L P = sm_at C X 64 1 [some (.ref a)] (.ref a :: st) N I L P := st_go b64 dX6_beginBirth_0 (by decide) rfl
theorem s64_1 (h : a < N) (h1 : sm_lay a = .inl 6) : sm_at C X 64 1 ls (.ref a :: st) N I L P = sm_at C X 64 4 ls (.int (I a 2) :: st) N I L P := st_gfI b64 dX6_beginBirth_1 rfl rfl h h1
theorem s64_4 : sm_at C X 64 4 ls st N I L P = sm_at C X 64 5 ls (.int (nI 5) :: st) N I L P := st_go b64 dX6_beginBirth_4 (by decide) rfl
theorem s64_5 : sm_at C X 64 5 ls (.int x0 :: .int x1 :: st) N I L P = if x1 < x0 then sm_at C X 64 10 ls st N I L P else sm_at C X 64 8 ls st N I L P := st_br b64 dX6_beginBirth_5 (by decide) rfl
theorem s64_8 : sm_at C X 64 8 ls st N I L P = sm_at C X 64 9 ls (.int (nI 0) :: st) N I L P := st_go b64 dX6_beginBirth_8 (by decide) rfl
theorem s64_9 (h : x0 = 0 ∨ x0 = 1) : sm_at C X 64 9 ls [.int x0] N I L P = some (some (.int x0), N, I, L, P) := st_zret b64 dX6_beginBirth_9 rfl h
theorem s64_10 : sm_at C X 64 10 [some (.ref a)] st N I L P = sm_at C X 64 11 [some (.ref a)] (.ref a :: st) N I L P := st_go b64 dX6_beginBirth_10 (by decide) rfl
theorem s64_11 (h : a < N) (h1 : sm_lay a = .inl 6) : sm_at C X 64 11 ls (.ref a :: st) N I L P = sm_at C X 64 14 ls (va_rf (P a 0) :: st) N I L P := st_gfR b64 dX6_beginBirth_11 rfl rfl h h1
theorem s64_14 : sm_at C X 64 14 [some (.ref a)] st N I L P = sm_at C X 64 15 [some (.ref a)] (.ref a :: st) N I L P := st_go b64 dX6_beginBirth_14 (by decide) rfl
theorem s64_15 (h : a < N) (h1 : sm_lay a = .inl 6) : sm_at C X 64 15 ls (.ref a :: st) N I L P = sm_at C X 64 18 ls (.int (I a 2) :: st) N I L P := st_gfI b64 dX6_beginBirth_15 rfl rfl h h1
theorem s64_18 (h : a < N) (h1 : sm_lay a = .inr (.inr 5)) (h2 : k < 5) : sm_at C X 64 18 ls (.int (nI k) :: .ref a :: st) N I L P = sm_at C X 64 19 ls (va_rf (P a k) :: st) N I L P := st_aald b64 dX6_beginBirth_18 h h1 h2
theorem s64_19 (h : a < N) (h1 : sm_lay a = .inl 0) : sm_at C X 64 19 ls [.ref a] N I L P = sm_af C X 64 22 ls [] (C 1 [.ref a] N I L P) := st_virt b64 dX6_beginBirth_19 (n := 1) (rest := []) rfl rfl rfl rfl rfl rfl rfl h h1
theorem s64_22 : sm_at C X 64 22 [some (.ref a)] st N I L P = sm_at C X 64 23 [some (.ref a)] (.ref a :: st) N I L P := st_go b64 dX6_beginBirth_22 (by decide) rfl
theorem s64_23 : sm_at C X 64 23 ls (.ref a :: st) N I L P = sm_at C X 64 24 ls (.ref a :: .ref a :: st) N I L P := st_go b64 dX6_beginBirth_23 (by decide) rfl
theorem s64_24 (h : a < N) (h1 : sm_lay a = .inl 6) : sm_at C X 64 24 ls (.ref a :: st) N I L P = sm_at C X 64 27 ls (.int (I a 2) :: st) N I L P := st_gfI b64 dX6_beginBirth_24 rfl rfl h h1
theorem s64_27 : sm_at C X 64 27 ls st N I L P = sm_at C X 64 28 ls (.int (nI 1) :: st) N I L P := st_go b64 dX6_beginBirth_27 (by decide) rfl
theorem s64_28 : sm_at C X 64 28 ls (.int x0 :: .int x1 :: st) N I L P = sm_at C X 64 29 ls (.int (x1 + x0) :: st) N I L P := st_go b64 dX6_beginBirth_28 (by decide) rfl
theorem s64_29 (h : a < N) (h1 : sm_lay a = .inl 6) : sm_at C X 64 29 ls (.int x0 :: .ref a :: st) N I L P = sm_at C X 64 32 ls st N (sm_up I a 2 x0) L P := st_pfI b64 dX6_beginBirth_29 rfl rfl rfl h h1
theorem s64_32 : sm_at C X 64 32 ls st N I L P = sm_at C X 64 33 ls (.int (nI 1) :: st) N I L P := st_go b64 dX6_beginBirth_32 (by decide) rfl
theorem s64_33 (h : x0 = 0 ∨ x0 = 1) : sm_at C X 64 33 ls [.int x0] N I L P = some (some (.int x0), N, I, L, P) := st_zret b64 dX6_beginBirth_33 rfl h
theorem b65 : sm_b 65 = cX6_take := rfl
theorem s65_0 : sm_at C X 65 0 [some (.ref a), l1, l2] st N I L P = sm_at C X 65 1 [some (.ref a), l1, l2] (.ref a :: st) N I L P := st_go b65 dX6_take_0 (by decide) rfl
theorem s65_1 : sm_at C X 65 1 [some (.ref a), l1, l2] st N I L P = sm_at C X 65 2 [some (.ref a), l1, l2] (.ref a :: st) N I L P := st_go b65 dX6_take_1 (by decide) rfl
theorem s65_2 (h : a < N) (h1 : sm_lay a = .inl 6) : sm_at C X 65 2 ls (.ref a :: st) N I L P = sm_at C X 65 5 ls (.int (I a 2) :: st) N I L P := st_gfI b65 dX6_take_2 rfl rfl h h1
theorem s65_5 : sm_at C X 65 5 ls st N I L P = sm_at C X 65 6 ls (.int (nI 1) :: st) N I L P := st_go b65 dX6_take_5 (by decide) rfl
theorem s65_6 : sm_at C X 65 6 ls (.int x0 :: .int x1 :: st) N I L P = sm_at C X 65 7 ls (.int (x1 - x0) :: st) N I L P := st_go b65 dX6_take_6 (by decide) rfl
theorem s65_7 (h : a < N) (h1 : sm_lay a = .inl 6) : sm_at C X 65 7 ls [w1, .ref a] N I L P = sm_af C X 65 10 ls [] (C 60 [.ref a, w1] N I L P) := st_virt b65 dX6_take_7 (n := 2) (rest := []) rfl rfl rfl rfl rfl rfl rfl h h1
theorem s65_10 : sm_at C X 65 10 [l0, l1, l2] (.ref a :: st) N I L P = sm_at C X 65 11 [l0, sm_cl l1, some (.ref a)] st N I L P := st_go b65 dX6_take_10 (by decide) rfl
theorem s65_10n : sm_at C X 65 10 [l0, l1, l2] (.null :: st) N I L P = sm_at C X 65 11 [l0, sm_cl l1, some .null] st N I L P := st_go b65 dX6_take_10 (by decide) rfl
theorem s65_11 : sm_at C X 65 11 [l0, l1, some (.ref a)] st N I L P = sm_at C X 65 12 [l0, l1, some (.ref a)] (.ref a :: st) N I L P := st_go b65 dX6_take_11 (by decide) rfl
theorem s65_11n : sm_at C X 65 11 [l0, l1, some .null] st N I L P = sm_at C X 65 12 [l0, l1, some .null] (.null :: st) N I L P := st_go b65 dX6_take_11 (by decide) rfl
theorem s65_12 : sm_at C X 65 12 ls (.ref a :: st) N I L P = sm_at C X 65 17 ls st N I L P := st_go b65 dX6_take_12 (by decide) rfl
theorem s65_12n : sm_at C X 65 12 ls (.null :: st) N I L P = sm_at C X 65 15 ls st N I L P := st_go b65 dX6_take_12 (by decide) rfl
theorem s65_15 : sm_at C X 65 15 ls st N I L P = sm_at C X 65 16 ls (.int (nI 0) :: st) N I L P := st_go b65 dX6_take_15 (by decide) rfl
theorem s65_16 (h : x0 = 0 ∨ x0 = 1) : sm_at C X 65 16 ls [.int x0] N I L P = some (some (.int x0), N, I, L, P) := st_zret b65 dX6_take_16 rfl h
theorem s65_17 : sm_at C X 65 17 [l0, some (.int x0), l2] st N I L P = sm_at C X 65 18 [l0, some (.int x0), l2] (.int x0 :: st) N I L P := st_go b65 dX6_take_17 (by decide) rfl
theorem s65_18_0 : sm_at C X 65 18 ls (.int (nI 43) :: st) N I L P = sm_at C X 65 92 ls st N I L P := st_go b65 dX6_take_18 (by decide) rfl
theorem s65_18_1 : sm_at C X 65 18 ls (.int (nI 44) :: st) N I L P = sm_at C X 65 60 ls st N I L P := st_go b65 dX6_take_18 (by decide) rfl
theorem s65_18_2 : sm_at C X 65 18 ls (.int (nI 63) :: st) N I L P = sm_at C X 65 86 ls st N I L P := st_go b65 dX6_take_18 (by decide) rfl
theorem s65_18_3 : sm_at C X 65 18 ls (.int (nI 111) :: st) N I L P = sm_at C X 65 80 ls st N I L P := st_go b65 dX6_take_18 (by decide) rfl
theorem s65_18_d (h0 : ¬ x0 = nI 43) (h1 : ¬ x0 = nI 44) (h2 : ¬ x0 = nI 63) (h3 : ¬ x0 = nI 111) : sm_at C X 65 18 ls (.int x0 :: st) N I L P = sm_at C X 65 98 ls st N I L P := by
  refine st_go b65 dX6_take_18 (by decide) (st_lk (off := 80) rfl ?_ rfl)
  refine (lv_osw h0 rfl).trans ?_
  refine (lv_osw h1 rfl).trans ?_
  refine (lv_osw h2 rfl).trans ?_
  refine (lv_osw h3 rfl).trans ?_
  rfl
theorem s65_60 : sm_at C X 65 60 [l0, l1, some (.ref a)] st N I L P = sm_at C X 65 61 [l0, l1, some (.ref a)] (.ref a :: st) N I L P := st_go b65 dX6_take_60 (by decide) rfl
theorem s65_60n : sm_at C X 65 60 [l0, l1, some .null] st N I L P = sm_at C X 65 61 [l0, l1, some .null] (.null :: st) N I L P := st_go b65 dX6_take_60 (by decide) rfl
theorem s65_61 (h : a < N) (h1 : sm_lay a = .inl 0) : sm_at C X 65 61 ls [.ref a] N I L P = sm_af C X 65 64 ls [] (C 6 [.ref a] N I L P) := st_virt b65 dX6_take_61 (n := 1) (rest := []) rfl rfl rfl rfl rfl rfl rfl h h1
theorem s65_64 : sm_at C X 65 64 ls (.int x0 :: st) N I L P = if x0 = 0 then sm_at C X 65 78 ls st N I L P else sm_at C X 65 67 ls st N I L P := st_br b65 dX6_take_64 (by decide) rfl
theorem s65_67 : sm_at C X 65 67 [some (.ref a), l1, l2] st N I L P = sm_at C X 65 68 [some (.ref a), l1, l2] (.ref a :: st) N I L P := st_go b65 dX6_take_67 (by decide) rfl
theorem s65_68 (h : a < N) (h1 : sm_lay a = .inl 6) : sm_at C X 65 68 ls [.ref a] N I L P = sm_af C X 65 71 ls [] (C 64 [.ref a] N I L P) := st_virt b65 dX6_take_68 (n := 1) (rest := []) rfl rfl rfl rfl rfl rfl rfl h h1
theorem s65_71 : sm_at C X 65 71 ls (.int x0 :: st) N I L P = if x0 = 0 then sm_at C X 65 78 ls st N I L P else sm_at C X 65 74 ls st N I L P := st_br b65 dX6_take_71 (by decide) rfl
theorem s65_74 : sm_at C X 65 74 ls st N I L P = sm_at C X 65 75 ls (.int (nI 1) :: st) N I L P := st_go b65 dX6_take_74 (by decide) rfl
theorem s65_75 : sm_at C X 65 75 ls st N I L P = sm_at C X 65 79 ls st N I L P := st_go b65 dX6_take_75 (by decide) rfl
theorem s65_78 : sm_at C X 65 78 ls st N I L P = sm_at C X 65 79 ls (.int (nI 0) :: st) N I L P := st_go b65 dX6_take_78 (by decide) rfl
theorem s65_79 (h : x0 = 0 ∨ x0 = 1) : sm_at C X 65 79 ls [.int x0] N I L P = some (some (.int x0), N, I, L, P) := st_zret b65 dX6_take_79 rfl h
theorem s65_80 : sm_at C X 65 80 [l0, l1, some (.ref a)] st N I L P = sm_at C X 65 81 [l0, l1, some (.ref a)] (.ref a :: st) N I L P := st_go b65 dX6_take_80 (by decide) rfl
theorem s65_80n : sm_at C X 65 80 [l0, l1, some .null] st N I L P = sm_at C X 65 81 [l0, l1, some .null] (.null :: st) N I L P := st_go b65 dX6_take_80 (by decide) rfl
theorem s65_81 : sm_at C X 65 81 ls st N I L P = sm_at C X 65 82 ls (.int (nI 1) :: st) N I L P := st_go b65 dX6_take_81 (by decide) rfl
theorem s65_82 (h : a < N) (h1 : sm_lay a = .inl 0) : sm_at C X 65 82 ls [w1, .ref a] N I L P = sm_af C X 65 85 ls [] (C 2 [.ref a, w1] N I L P) := st_virt b65 dX6_take_82 (n := 2) (rest := []) rfl rfl rfl rfl rfl rfl rfl h h1
theorem s65_85 (h : x0 = 0 ∨ x0 = 1) : sm_at C X 65 85 ls [.int x0] N I L P = some (some (.int x0), N, I, L, P) := st_zret b65 dX6_take_85 rfl h
theorem s65_86 : sm_at C X 65 86 [l0, l1, some (.ref a)] st N I L P = sm_at C X 65 87 [l0, l1, some (.ref a)] (.ref a :: st) N I L P := st_go b65 dX6_take_86 (by decide) rfl
theorem s65_86n : sm_at C X 65 86 [l0, l1, some .null] st N I L P = sm_at C X 65 87 [l0, l1, some .null] (.null :: st) N I L P := st_go b65 dX6_take_86 (by decide) rfl
theorem s65_87 : sm_at C X 65 87 ls st N I L P = sm_at C X 65 88 ls (.int (nI 2) :: st) N I L P := st_go b65 dX6_take_87 (by decide) rfl
theorem s65_88 (h : a < N) (h1 : sm_lay a = .inl 0) : sm_at C X 65 88 ls [w1, .ref a] N I L P = sm_af C X 65 91 ls [] (C 2 [.ref a, w1] N I L P) := st_virt b65 dX6_take_88 (n := 2) (rest := []) rfl rfl rfl rfl rfl rfl rfl h h1
theorem s65_91 (h : x0 = 0 ∨ x0 = 1) : sm_at C X 65 91 ls [.int x0] N I L P = some (some (.int x0), N, I, L, P) := st_zret b65 dX6_take_91 rfl h
theorem s65_92 : sm_at C X 65 92 [l0, l1, some (.ref a)] st N I L P = sm_at C X 65 93 [l0, l1, some (.ref a)] (.ref a :: st) N I L P := st_go b65 dX6_take_92 (by decide) rfl
theorem s65_92n : sm_at C X 65 92 [l0, l1, some .null] st N I L P = sm_at C X 65 93 [l0, l1, some .null] (.null :: st) N I L P := st_go b65 dX6_take_92 (by decide) rfl
theorem s65_93 : sm_at C X 65 93 ls st N I L P = sm_at C X 65 94 ls (.int (nI 3) :: st) N I L P := st_go b65 dX6_take_93 (by decide) rfl
theorem s65_94 (h : a < N) (h1 : sm_lay a = .inl 0) : sm_at C X 65 94 ls [w1, .ref a] N I L P = sm_af C X 65 97 ls [] (C 2 [.ref a, w1] N I L P) := st_virt b65 dX6_take_94 (n := 2) (rest := []) rfl rfl rfl rfl rfl rfl rfl h h1
theorem s65_97 (h : x0 = 0 ∨ x0 = 1) : sm_at C X 65 97 ls [.int x0] N I L P = some (some (.int x0), N, I, L, P) := st_zret b65 dX6_take_97 rfl h
theorem s65_98 : sm_at C X 65 98 [some (.ref a), l1, l2] st N I L P = sm_at C X 65 99 [some (.ref a), l1, l2] (.ref a :: st) N I L P := st_go b65 dX6_take_98 (by decide) rfl
theorem s65_99 : sm_at C X 65 99 [l0, l1, some (.ref a)] st N I L P = sm_at C X 65 100 [l0, l1, some (.ref a)] (.ref a :: st) N I L P := st_go b65 dX6_take_99 (by decide) rfl
theorem s65_99n : sm_at C X 65 99 [l0, l1, some .null] st N I L P = sm_at C X 65 100 [l0, l1, some .null] (.null :: st) N I L P := st_go b65 dX6_take_99 (by decide) rfl
theorem s65_100 : sm_at C X 65 100 [l0, some (.int x0), l2] st N I L P = sm_at C X 65 101 [l0, some (.int x0), l2] (.int x0 :: st) N I L P := st_go b65 dX6_take_100 (by decide) rfl
theorem s65_101 : sm_at C X 65 101 ls st N I L P = sm_at C X 65 103 ls (.int (nI 48) :: st) N I L P := st_go b65 dX6_take_101 (by decide) rfl
theorem s65_103 : sm_at C X 65 103 ls (.int x0 :: .int x1 :: st) N I L P = sm_at C X 65 104 ls (.int (x1 - x0) :: st) N I L P := st_go b65 dX6_take_103 (by decide) rfl
theorem s65_104 (h : a < N) (h1 : sm_lay a = .inl 6) : sm_at C X 65 104 ls [w2, w1, .ref a] N I L P = sm_af C X 65 107 ls [] (C 66 [.ref a, w1, w2] N I L P) := st_virt b65 dX6_take_104 (n := 3) (rest := []) rfl rfl rfl rfl rfl rfl rfl h h1
theorem s65_107 (h : x0 = 0 ∨ x0 = 1) : sm_at C X 65 107 ls [.int x0] N I L P = some (some (.int x0), N, I, L, P) := st_zret b65 dX6_take_107 rfl h
theorem b66 : sm_b 66 = cX6_takeDigit := rfl
theorem s66_0 : sm_at C X 66 0 [l0, l1, some (.int x0)] st N I L P = sm_at C X 66 1 [l0, l1, some (.int x0)] (.int x0 :: st) N I L P := st_go b66 dX6_takeDigit_0 (by decide) rfl
theorem s66_1 : sm_at C X 66 1 ls [w0] N I L P = sm_af C X 66 4 ls [] (C 133 [w0] N I L P) := st_stat b66 dX6_takeDigit_1 (n := 1) (rest := []) rfl rfl rfl rfl rfl rfl
theorem s66_4 : sm_at C X 66 4 ls (.int x0 :: st) N I L P = if ¬ x0 = 0 then sm_at C X 66 9 ls st N I L P else sm_at C X 66 7 ls st N I L P := st_br b66 dX6_takeDigit_4 (by decide) rfl
theorem s66_7 : sm_at C X 66 7 ls st N I L P = sm_at C X 66 8 ls (.int (nI 0) :: st) N I L P := st_go b66 dX6_takeDigit_7 (by decide) rfl
theorem s66_8 (h : x0 = 0 ∨ x0 = 1) : sm_at C X 66 8 ls [.int x0] N I L P = some (some (.int x0), N, I, L, P) := st_zret b66 dX6_takeDigit_8 rfl h
theorem s66_9 : sm_at C X 66 9 [l0, some (.ref a), l2] st N I L P = sm_at C X 66 10 [l0, some (.ref a), l2] (.ref a :: st) N I L P := st_go b66 dX6_takeDigit_9 (by decide) rfl
theorem s66_9n : sm_at C X 66 9 [l0, some .null, l2] st N I L P = sm_at C X 66 10 [l0, some .null, l2] (.null :: st) N I L P := st_go b66 dX6_takeDigit_9 (by decide) rfl
theorem s66_10 (h : a < N) (h1 : sm_lay a = .inl 0) : sm_at C X 66 10 ls [.ref a] N I L P = sm_af C X 66 13 ls [] (C 3 [.ref a] N I L P) := st_virt b66 dX6_takeDigit_10 (n := 1) (rest := []) rfl rfl rfl rfl rfl rfl rfl h h1
theorem s66_13 : sm_at C X 66 13 ls (.int x0 :: st) N I L P = if x0 = 0 then sm_at C X 66 22 ls st N I L P else sm_at C X 66 16 ls st N I L P := st_br b66 dX6_takeDigit_13 (by decide) rfl
theorem s66_16 : sm_at C X 66 16 [l0, some (.ref a), l2] st N I L P = sm_at C X 66 17 [l0, some (.ref a), l2] (.ref a :: st) N I L P := st_go b66 dX6_takeDigit_16 (by decide) rfl
theorem s66_16n : sm_at C X 66 16 [l0, some .null, l2] st N I L P = sm_at C X 66 17 [l0, some .null, l2] (.null :: st) N I L P := st_go b66 dX6_takeDigit_16 (by decide) rfl
theorem s66_17 : sm_at C X 66 17 [l0, l1, some (.int x0)] st N I L P = sm_at C X 66 18 [l0, l1, some (.int x0)] (.int x0 :: st) N I L P := st_go b66 dX6_takeDigit_17 (by decide) rfl
theorem s66_18 (h : a < N) (h1 : sm_lay a = .inl 0) : sm_at C X 66 18 ls [w1, .ref a] N I L P = sm_af C X 66 21 ls [] (C 4 [.ref a, w1] N I L P) := st_virt b66 dX6_takeDigit_18 (n := 2) (rest := []) rfl rfl rfl rfl rfl rfl rfl h h1
theorem s66_21 (h : x0 = 0 ∨ x0 = 1) : sm_at C X 66 21 ls [.int x0] N I L P = some (some (.int x0), N, I, L, P) := st_zret b66 dX6_takeDigit_21 rfl h
theorem s66_22 : sm_at C X 66 22 [some (.ref a), l1, l2] st N I L P = sm_at C X 66 23 [some (.ref a), l1, l2] (.ref a :: st) N I L P := st_go b66 dX6_takeDigit_22 (by decide) rfl
theorem s66_23 (h : a < N) (h1 : sm_lay a = .inl 6) : sm_at C X 66 23 ls (.ref a :: st) N I L P = sm_at C X 66 26 ls (va_rf (P a 1) :: st) N I L P := st_gfR b66 dX6_takeDigit_23 rfl rfl h h1
theorem s66_26 : sm_at C X 66 26 [l0, l1, some (.int x0)] st N I L P = sm_at C X 66 27 [l0, l1, some (.int x0)] (.int x0 :: st) N I L P := st_go b66 dX6_takeDigit_26 (by decide) rfl
theorem s66_27 (h : a < N) (h1 : k < sm_al a) : sm_at C X 66 27 ls (.int (nI k) :: .ref a :: st) N I L P = sm_at C X 66 28 ls (.int (I a k) :: st) N I L P := st_iald b66 dX6_takeDigit_27 h h1
theorem s66_28 : sm_at C X 66 28 ls st N I L P = sm_at C X 66 29 ls (.int (-1) :: st) N I L P := st_go b66 dX6_takeDigit_28 (by decide) rfl
theorem s66_29 : sm_at C X 66 29 ls (.int x0 :: .int x1 :: st) N I L P = if ¬ x1 = x0 then sm_at C X 66 40 ls st N I L P else sm_at C X 66 32 ls st N I L P := st_br b66 dX6_takeDigit_29 (by decide) rfl
theorem s66_32 : sm_at C X 66 32 [l0, some (.ref a), l2] st N I L P = sm_at C X 66 33 [l0, some (.ref a), l2] (.ref a :: st) N I L P := st_go b66 dX6_takeDigit_32 (by decide) rfl
theorem s66_32n : sm_at C X 66 32 [l0, some .null, l2] st N I L P = sm_at C X 66 33 [l0, some .null, l2] (.null :: st) N I L P := st_go b66 dX6_takeDigit_32 (by decide) rfl
theorem s66_33 : sm_at C X 66 33 [l0, l1, some (.int x0)] st N I L P = sm_at C X 66 34 [l0, l1, some (.int x0)] (.int x0 :: st) N I L P := st_go b66 dX6_takeDigit_33 (by decide) rfl
theorem s66_34 (h : a < N) (h1 : sm_lay a = .inl 0) : sm_at C X 66 34 ls [w1, .ref a] N I L P = sm_af C X 66 37 ls [] (C 5 [.ref a, w1] N I L P) := st_virt b66 dX6_takeDigit_34 (n := 2) (rest := []) rfl rfl rfl rfl rfl rfl rfl h h1
theorem s66_37 : sm_at C X 66 37 ls (.int x0 :: st) N I L P = if ¬ x0 = 0 then sm_at C X 66 42 ls st N I L P else sm_at C X 66 40 ls st N I L P := st_br b66 dX6_takeDigit_37 (by decide) rfl
theorem s66_40 : sm_at C X 66 40 ls st N I L P = sm_at C X 66 41 ls (.int (nI 0) :: st) N I L P := st_go b66 dX6_takeDigit_40 (by decide) rfl
theorem s66_41 (h : x0 = 0 ∨ x0 = 1) : sm_at C X 66 41 ls [.int x0] N I L P = some (some (.int x0), N, I, L, P) := st_zret b66 dX6_takeDigit_41 rfl h
theorem s66_42 : sm_at C X 66 42 [some (.ref a), l1, l2] st N I L P = sm_at C X 66 43 [some (.ref a), l1, l2] (.ref a :: st) N I L P := st_go b66 dX6_takeDigit_42 (by decide) rfl
theorem s66_43 (h : a < N) (h1 : sm_lay a = .inl 6) : sm_at C X 66 43 ls (.ref a :: st) N I L P = sm_at C X 66 46 ls (va_rf (P a 1) :: st) N I L P := st_gfR b66 dX6_takeDigit_43 rfl rfl h h1
theorem s66_46 : sm_at C X 66 46 [l0, l1, some (.int x0)] st N I L P = sm_at C X 66 47 [l0, l1, some (.int x0)] (.int x0 :: st) N I L P := st_go b66 dX6_takeDigit_46 (by decide) rfl
theorem s66_47 : sm_at C X 66 47 [some (.ref a), l1, l2] st N I L P = sm_at C X 66 48 [some (.ref a), l1, l2] (.ref a :: st) N I L P := st_go b66 dX6_takeDigit_47 (by decide) rfl
theorem s66_48 (h : a < N) (h1 : sm_lay a = .inl 6) : sm_at C X 66 48 ls (.ref a :: st) N I L P = sm_at C X 66 51 ls (.int (I a 2) :: st) N I L P := st_gfI b66 dX6_takeDigit_48 rfl rfl h h1
theorem s66_51 : sm_at C X 66 51 ls st N I L P = sm_at C X 66 52 ls (.int (nI 1) :: st) N I L P := st_go b66 dX6_takeDigit_51 (by decide) rfl
theorem s66_52 : sm_at C X 66 52 ls (.int x0 :: .int x1 :: st) N I L P = sm_at C X 66 53 ls (.int (x1 - x0) :: st) N I L P := st_go b66 dX6_takeDigit_52 (by decide) rfl
theorem s66_53 (h : a < N) (h1 : k < sm_al a) : sm_at C X 66 53 ls (.int x0 :: .int (nI k) :: .ref a :: st) N I L P = sm_at C X 66 54 ls st N (sm_up I a k x0) L P := st_iast b66 dX6_takeDigit_53 h h1
theorem s66_54 : sm_at C X 66 54 ls st N I L P = sm_at C X 66 55 ls (.int (nI 1) :: st) N I L P := st_go b66 dX6_takeDigit_54 (by decide) rfl
theorem s66_55 (h : x0 = 0 ∨ x0 = 1) : sm_at C X 66 55 ls [.int x0] N I L P = some (some (.int x0), N, I, L, P) := st_zret b66 dX6_takeDigit_55 rfl h
end STX6
