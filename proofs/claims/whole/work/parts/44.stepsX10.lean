section STX10
variable {C : sm_Cf} {X : sm_Xs} {ls : List (Option Value)} {st : List Value} {N : Nat} {I : sm_Im} {L : sm_Lm} {P : sm_Pm} {x0 x1 x2 : Int32} {z0 z1 : Int64} {a a2 k n : Nat} {f : Nat → Int32} {w0 w1 w2 w3 w4 w5 w6 v0 v1 v2 v3 v4 : Value} {l0 l1 l2 l3 l4 l5 l6 l7 l8 l9 l10 l11 l12 l13 l14 l15 l16 : Option Value}
theorem b93 : sm_b 93 = cX10_init := rfl
theorem s93_0 : sm_at C X 93 0 [some (.ref a)] st N I L P = sm_at C X 93 1 [some (.ref a)] (.ref a :: st) N I L P := st_go b93 dX10_init_0 (by decide) rfl
theorem s93_1 : sm_at C X 93 1 ls (.ref a :: []) N I L P = sm_at C X 93 4 ls [] N I L P := st_go b93 dX10_init_1 (by decide) rfl
theorem s93_4 : sm_at C X 93 4 [some (.ref a)] st N I L P = sm_at C X 93 5 [some (.ref a)] (.ref a :: st) N I L P := st_go b93 dX10_init_4 (by decide) rfl
theorem s93_5 (h : N < 81) (h1 : sm_lay N = .inl 5) : sm_at C X 93 5 ls st N I L P = sm_at C X 93 8 ls (.ref N :: st) (N + 1) (sm_z I N 0) (sm_z L N 0) (sm_z P N none) := st_new b93 dX10_init_5 rfl h h1
theorem s93_8 : sm_at C X 93 8 ls (.ref a :: st) N I L P = sm_at C X 93 9 ls (.ref a :: .ref a :: st) N I L P := st_go b93 dX10_init_8 (by decide) rfl
theorem s93_9 (h : a < N) (h1 : sm_lay a = .inl 5) : sm_at C X 93 9 ls [.ref a, v1, v0] N I L P = sm_af C X 93 12 ls [v1, v0] (C 49 [.ref a] N I L P) := st_spec b93 dX10_init_9 (n := 1) (rest := [v1, v0]) rfl rfl rfl rfl rfl rfl rfl h h1
theorem s93_12 (h : a < N) (h1 : sm_lay a = .inl 10) : sm_at C X 93 12 ls (.ref a2 :: .ref a :: st) N I L P = sm_at C X 93 15 ls st N I L (sm_up P a 0 (some a2)) := st_pfR b93 dX10_init_12 rfl rfl (Or.inr ⟨rfl, rfl⟩) h h1
theorem s93_15 : sm_at C X 93 15 [some (.ref a)] st N I L P = sm_at C X 93 16 [some (.ref a)] (.ref a :: st) N I L P := st_go b93 dX10_init_15 (by decide) rfl
theorem s93_16 (h : N < 81) (h1 : sm_lay N = .inl 8) : sm_at C X 93 16 ls st N I L P = sm_at C X 93 19 ls (.ref N :: st) (N + 1) (sm_z I N 0) (sm_z L N 0) (sm_z P N none) := st_new b93 dX10_init_16 rfl h h1
theorem s93_19 : sm_at C X 93 19 ls (.ref a :: st) N I L P = sm_at C X 93 20 ls (.ref a :: .ref a :: st) N I L P := st_go b93 dX10_init_19 (by decide) rfl
theorem s93_20 (h : a < N) (h1 : sm_lay a = .inl 8) : sm_at C X 93 20 ls [.ref a, v1, v0] N I L P = sm_af C X 93 23 ls [v1, v0] (C 73 [.ref a] N I L P) := st_spec b93 dX10_init_20 (n := 1) (rest := [v1, v0]) rfl rfl rfl rfl rfl rfl rfl h h1
theorem s93_23 (h : a < N) (h1 : sm_lay a = .inl 10) : sm_at C X 93 23 ls (.ref a2 :: .ref a :: st) N I L P = sm_at C X 93 26 ls st N I L (sm_up P a 1 (some a2)) := st_pfR b93 dX10_init_23 rfl rfl (Or.inr ⟨rfl, rfl⟩) h h1
theorem s93_26 : sm_at C X 93 26 [some (.ref a)] st N I L P = sm_at C X 93 27 [some (.ref a)] (.ref a :: st) N I L P := st_go b93 dX10_init_26 (by decide) rfl
theorem s93_27 (h : N < 81) (h1 : sm_lay N = .inl 4) : sm_at C X 93 27 ls st N I L P = sm_at C X 93 30 ls (.ref N :: st) (N + 1) (sm_z I N 0) (sm_z L N 0) (sm_z P N none) := st_new b93 dX10_init_27 rfl h h1
theorem s93_30 : sm_at C X 93 30 ls (.ref a :: st) N I L P = sm_at C X 93 31 ls (.ref a :: .ref a :: st) N I L P := st_go b93 dX10_init_30 (by decide) rfl
theorem s93_31 (h : a < N) (h1 : sm_lay a = .inl 4) : sm_at C X 93 31 ls [.ref a, v1, v0] N I L P = sm_af C X 93 34 ls [v1, v0] (C 38 [.ref a] N I L P) := st_spec b93 dX10_init_31 (n := 1) (rest := [v1, v0]) rfl rfl rfl rfl rfl rfl rfl h h1
theorem s93_34 (h : a < N) (h1 : sm_lay a = .inl 10) : sm_at C X 93 34 ls (.ref a2 :: .ref a :: st) N I L P = sm_at C X 93 37 ls st N I L (sm_up P a 2 (some a2)) := st_pfR b93 dX10_init_34 rfl rfl (Or.inr ⟨rfl, rfl⟩) h h1
theorem s93_37 : sm_at C X 93 37 [some (.ref a)] st N I L P = sm_at C X 93 38 [some (.ref a)] (.ref a :: st) N I L P := st_go b93 dX10_init_37 (by decide) rfl
theorem s93_38 (h : N < 81) (h1 : sm_lay N = .inl 1) : sm_at C X 93 38 ls st N I L P = sm_at C X 93 41 ls (.ref N :: st) (N + 1) (sm_z I N 0) (sm_z L N 0) (sm_z P N none) := st_new b93 dX10_init_38 rfl h h1
theorem s93_41 : sm_at C X 93 41 ls (.ref a :: st) N I L P = sm_at C X 93 42 ls (.ref a :: .ref a :: st) N I L P := st_go b93 dX10_init_41 (by decide) rfl
theorem s93_42 (h : a < N) (h1 : sm_lay a = .inl 1) : sm_at C X 93 42 ls [.ref a, v1, v0] N I L P = sm_af C X 93 45 ls [v1, v0] (C 15 [.ref a] N I L P) := st_spec b93 dX10_init_42 (n := 1) (rest := [v1, v0]) rfl rfl rfl rfl rfl rfl rfl h h1
theorem s93_45 (h : a < N) (h1 : sm_lay a = .inl 10) : sm_at C X 93 45 ls (.ref a2 :: .ref a :: st) N I L P = sm_at C X 93 48 ls st N I L (sm_up P a 3 (some a2)) := st_pfR b93 dX10_init_45 rfl rfl (Or.inr ⟨rfl, rfl⟩) h h1
theorem s93_48 : sm_at C X 93 48 [some (.ref a)] st N I L P = sm_at C X 93 49 [some (.ref a)] (.ref a :: st) N I L P := st_go b93 dX10_init_48 (by decide) rfl
theorem s93_49 (h : N < 81) (h1 : sm_lay N = .inl 2) : sm_at C X 93 49 ls st N I L P = sm_at C X 93 52 ls (.ref N :: st) (N + 1) (sm_z I N 0) (sm_z L N 0) (sm_z P N none) := st_new b93 dX10_init_49 rfl h h1
theorem s93_52 : sm_at C X 93 52 ls (.ref a :: st) N I L P = sm_at C X 93 53 ls (.ref a :: .ref a :: st) N I L P := st_go b93 dX10_init_52 (by decide) rfl
theorem s93_53 (h : a < N) (h1 : sm_lay a = .inl 2) : sm_at C X 93 53 ls [.ref a, v1, v0] N I L P = sm_af C X 93 56 ls [v1, v0] (C 22 [.ref a] N I L P) := st_spec b93 dX10_init_53 (n := 1) (rest := [v1, v0]) rfl rfl rfl rfl rfl rfl rfl h h1
theorem s93_56 (h : a < N) (h1 : sm_lay a = .inl 10) : sm_at C X 93 56 ls (.ref a2 :: .ref a :: st) N I L P = sm_at C X 93 59 ls st N I L (sm_up P a 4 (some a2)) := st_pfR b93 dX10_init_56 rfl rfl (Or.inr ⟨rfl, rfl⟩) h h1
theorem s93_59 : sm_at C X 93 59 [some (.ref a)] st N I L P = sm_at C X 93 60 [some (.ref a)] (.ref a :: st) N I L P := st_go b93 dX10_init_59 (by decide) rfl
theorem s93_60 (h : N < 81) (h1 : sm_lay N = .inl 7) : sm_at C X 93 60 ls st N I L P = sm_at C X 93 63 ls (.ref N :: st) (N + 1) (sm_z I N 0) (sm_z L N 0) (sm_z P N none) := st_new b93 dX10_init_60 rfl h h1
theorem s93_63 : sm_at C X 93 63 ls (.ref a :: st) N I L P = sm_at C X 93 64 ls (.ref a :: .ref a :: st) N I L P := st_go b93 dX10_init_63 (by decide) rfl
theorem s93_64 (h : a < N) (h1 : sm_lay a = .inl 7) : sm_at C X 93 64 ls [.ref a, v1, v0] N I L P = sm_af C X 93 67 ls [v1, v0] (C 67 [.ref a] N I L P) := st_spec b93 dX10_init_64 (n := 1) (rest := [v1, v0]) rfl rfl rfl rfl rfl rfl rfl h h1
theorem s93_67 (h : a < N) (h1 : sm_lay a = .inl 10) : sm_at C X 93 67 ls (.ref a2 :: .ref a :: st) N I L P = sm_at C X 93 70 ls st N I L (sm_up P a 5 (some a2)) := st_pfR b93 dX10_init_67 rfl rfl (Or.inr ⟨rfl, rfl⟩) h h1
theorem s93_70 : sm_at C X 93 70 [some (.ref a)] st N I L P = sm_at C X 93 71 [some (.ref a)] (.ref a :: st) N I L P := st_go b93 dX10_init_70 (by decide) rfl
theorem s93_71 (h : N < 81) (h1 : sm_lay N = .inl 3) : sm_at C X 93 71 ls st N I L P = sm_at C X 93 74 ls (.ref N :: st) (N + 1) (sm_z I N 0) (sm_z L N 0) (sm_z P N none) := st_new b93 dX10_init_71 rfl h h1
theorem s93_74 : sm_at C X 93 74 ls (.ref a :: st) N I L P = sm_at C X 93 75 ls (.ref a :: .ref a :: st) N I L P := st_go b93 dX10_init_74 (by decide) rfl
theorem s93_75 (h : a < N) (h1 : sm_lay a = .inl 3) : sm_at C X 93 75 ls [.ref a, v1, v0] N I L P = sm_af C X 93 78 ls [v1, v0] (C 33 [.ref a] N I L P) := st_spec b93 dX10_init_75 (n := 1) (rest := [v1, v0]) rfl rfl rfl rfl rfl rfl rfl h h1
theorem s93_78 (h : a < N) (h1 : sm_lay a = .inl 10) : sm_at C X 93 78 ls (.ref a2 :: .ref a :: st) N I L P = sm_at C X 93 81 ls st N I L (sm_up P a 6 (some a2)) := st_pfR b93 dX10_init_78 rfl rfl (Or.inr ⟨rfl, rfl⟩) h h1
theorem s93_81 : sm_at C X 93 81 [some (.ref a)] st N I L P = sm_at C X 93 82 [some (.ref a)] (.ref a :: st) N I L P := st_go b93 dX10_init_81 (by decide) rfl
theorem s93_82 : sm_at C X 93 82 ls st N I L P = sm_at C X 93 84 ls (.int (nI 10) :: st) N I L P := st_go b93 dX10_init_82 (by decide) rfl
theorem s93_84 (h : N < 81) (h1 : sm_lay N = .inr (.inl k)) (h2 : k < 1000) : sm_at C X 93 84 ls (.int (nI k) :: st) N I L P = sm_at C X 93 86 ls (.ref N :: st) (N + 1) (sm_z I N 0) L P := st_newa b93 dX10_init_84 h h1 h2
theorem s93_86 (h : a < N) (h1 : sm_lay a = .inl 10) : sm_at C X 93 86 ls (.ref a2 :: .ref a :: st) N I L P = sm_at C X 93 89 ls st N I L (sm_up P a 7 (some a2)) := st_pfR b93 dX10_init_86 rfl rfl (Or.inr ⟨rfl, rfl⟩) h h1
theorem s93_89 : sm_at C X 93 89 [some (.ref a)] st N I L P = sm_at C X 93 90 [some (.ref a)] (.ref a :: st) N I L P := st_go b93 dX10_init_89 (by decide) rfl
theorem s93_90 (h : N < 81) (h1 : sm_lay N = .inl 6) : sm_at C X 93 90 ls st N I L P = sm_at C X 93 93 ls (.ref N :: st) (N + 1) (sm_z I N 0) (sm_z L N 0) (sm_z P N none) := st_new b93 dX10_init_90 rfl h h1
theorem s93_93 : sm_at C X 93 93 ls (.ref a :: st) N I L P = sm_at C X 93 94 ls (.ref a :: .ref a :: st) N I L P := st_go b93 dX10_init_93 (by decide) rfl
theorem s93_94 (h : a < N) (h1 : sm_lay a = .inl 6) : sm_at C X 93 94 ls [.ref a, v1, v0] N I L P = sm_af C X 93 97 ls [v1, v0] (C 56 [.ref a] N I L P) := st_spec b93 dX10_init_94 (n := 1) (rest := [v1, v0]) rfl rfl rfl rfl rfl rfl rfl h h1
theorem s93_97 (h : a < N) (h1 : sm_lay a = .inl 10) : sm_at C X 93 97 ls (.ref a2 :: .ref a :: st) N I L P = sm_at C X 93 100 ls st N I L (sm_up P a 8 (some a2)) := st_pfR b93 dX10_init_97 rfl rfl (Or.inl rfl) h h1
theorem s93_100 : sm_at C X 93 100 [some (.ref a)] st N I L P = sm_at C X 93 101 [some (.ref a)] (.ref a :: st) N I L P := st_go b93 dX10_init_100 (by decide) rfl
theorem s93_101 (h : N < 81) (h1 : sm_lay N = .inl 6) : sm_at C X 93 101 ls st N I L P = sm_at C X 93 104 ls (.ref N :: st) (N + 1) (sm_z I N 0) (sm_z L N 0) (sm_z P N none) := st_new b93 dX10_init_101 rfl h h1
theorem s93_104 : sm_at C X 93 104 ls (.ref a :: st) N I L P = sm_at C X 93 105 ls (.ref a :: .ref a :: st) N I L P := st_go b93 dX10_init_104 (by decide) rfl
theorem s93_105 (h : a < N) (h1 : sm_lay a = .inl 6) : sm_at C X 93 105 ls [.ref a, v1, v0] N I L P = sm_af C X 93 108 ls [v1, v0] (C 56 [.ref a] N I L P) := st_spec b93 dX10_init_105 (n := 1) (rest := [v1, v0]) rfl rfl rfl rfl rfl rfl rfl h h1
theorem s93_108 (h : a < N) (h1 : sm_lay a = .inl 10) : sm_at C X 93 108 ls (.ref a2 :: .ref a :: st) N I L P = sm_at C X 93 111 ls st N I L (sm_up P a 9 (some a2)) := st_pfR b93 dX10_init_108 rfl rfl (Or.inl rfl) h h1
theorem s93_111 : sm_at C X 93 111 ls [] N I L P = some (none, N, I, L, P) := st_ret b93 dX10_init_111 (by decide) rfl
theorem b94 : sm_b 94 = cX10_road := rfl
theorem s94_0 : sm_at C X 94 0 [l0, some (.int x0), l2, l3] st N I L P = sm_at C X 94 1 [l0, some (.int x0), l2, l3] (.int x0 :: st) N I L P := st_go b94 dX10_road_0 (by decide) rfl
theorem s94_1 : sm_at C X 94 1 ls [w0] N I L P = sm_af C X 94 4 ls [] (C 134 [w0] N I L P) := st_stat b94 dX10_road_1 (n := 1) (rest := []) rfl rfl rfl rfl rfl rfl
theorem s94_4 : sm_at C X 94 4 ls (.int x0 :: st) N I L P = if x0 = 0 then sm_at C X 94 19 ls st N I L P else sm_at C X 94 7 ls st N I L P := st_br b94 dX10_road_4 (by decide) rfl
theorem s94_7 : sm_at C X 94 7 [l0, l1, some (.int x0), l3] st N I L P = sm_at C X 94 8 [l0, l1, some (.int x0), l3] (.int x0 :: st) N I L P := st_go b94 dX10_road_7 (by decide) rfl
theorem s94_8 : sm_at C X 94 8 ls [w0] N I L P = sm_af C X 94 11 ls [] (C 134 [w0] N I L P) := st_stat b94 dX10_road_8 (n := 1) (rest := []) rfl rfl rfl rfl rfl rfl
theorem s94_11 : sm_at C X 94 11 ls (.int x0 :: st) N I L P = if x0 = 0 then sm_at C X 94 19 ls st N I L P else sm_at C X 94 14 ls st N I L P := st_br b94 dX10_road_11 (by decide) rfl
theorem s94_14 : sm_at C X 94 14 [l0, some (.int x0), l2, l3] st N I L P = sm_at C X 94 15 [l0, some (.int x0), l2, l3] (.int x0 :: st) N I L P := st_go b94 dX10_road_14 (by decide) rfl
theorem s94_15 : sm_at C X 94 15 [l0, l1, some (.int x0), l3] st N I L P = sm_at C X 94 16 [l0, l1, some (.int x0), l3] (.int x0 :: st) N I L P := st_go b94 dX10_road_15 (by decide) rfl
theorem s94_16 : sm_at C X 94 16 ls (.int x0 :: .int x1 :: st) N I L P = if ¬ x1 = x0 then sm_at C X 94 22 ls st N I L P else sm_at C X 94 19 ls st N I L P := st_br b94 dX10_road_16 (by decide) rfl
theorem s94_19 : sm_at C X 94 19 ls st N I L P = sm_at C X 94 21 ls (.int (-101) :: st) N I L P := st_go b94 dX10_road_19 (by decide) rfl
theorem s94_21 : sm_at C X 94 21 ls [.int x0] N I L P = some (some (.int x0), N, I, L, P) := st_iret b94 dX10_road_21 rfl
theorem s94_22 : sm_at C X 94 22 [l0, l1, l2, some (.int x0)] st N I L P = sm_at C X 94 23 [l0, l1, l2, some (.int x0)] (.int x0 :: st) N I L P := st_go b94 dX10_road_22 (by decide) rfl
theorem s94_23 : sm_at C X 94 23 ls st N I L P = sm_at C X 94 24 ls (.int (nI 0) :: st) N I L P := st_go b94 dX10_road_23 (by decide) rfl
theorem s94_24 : sm_at C X 94 24 ls st N I L P = sm_at C X 94 26 ls (.int (nI 99) :: st) N I L P := st_go b94 dX10_road_24 (by decide) rfl
theorem s94_26 : sm_at C X 94 26 ls [w2, w1, w0] N I L P = sm_af C X 94 29 ls [] (C 132 [w0, w1, w2] N I L P) := st_stat b94 dX10_road_26 (n := 3) (rest := []) rfl rfl rfl rfl rfl rfl
theorem s94_29 : sm_at C X 94 29 ls (.int x0 :: st) N I L P = if ¬ x0 = 0 then sm_at C X 94 35 ls st N I L P else sm_at C X 94 32 ls st N I L P := st_br b94 dX10_road_29 (by decide) rfl
theorem s94_32 : sm_at C X 94 32 ls st N I L P = sm_at C X 94 34 ls (.int (-102) :: st) N I L P := st_go b94 dX10_road_32 (by decide) rfl
theorem s94_34 : sm_at C X 94 34 ls [.int x0] N I L P = some (some (.int x0), N, I, L, P) := st_iret b94 dX10_road_34 rfl
theorem s94_35 : sm_at C X 94 35 [some (.ref a), l1, l2, l3] st N I L P = sm_at C X 94 36 [some (.ref a), l1, l2, l3] (.ref a :: st) N I L P := st_go b94 dX10_road_35 (by decide) rfl
theorem s94_36 (h : a < N) (h1 : sm_lay a = .inl 10) : sm_at C X 94 36 ls (.ref a :: st) N I L P = sm_at C X 94 39 ls (va_rf (P a 2) :: st) N I L P := st_gfR b94 dX10_road_36 rfl rfl h h1
theorem s94_39 : sm_at C X 94 39 [l0, some (.int x0), l2, l3] st N I L P = sm_at C X 94 40 [l0, some (.int x0), l2, l3] (.int x0 :: st) N I L P := st_go b94 dX10_road_39 (by decide) rfl
theorem s94_40 : sm_at C X 94 40 [l0, l1, some (.int x0), l3] st N I L P = sm_at C X 94 41 [l0, l1, some (.int x0), l3] (.int x0 :: st) N I L P := st_go b94 dX10_road_40 (by decide) rfl
theorem s94_41 : sm_at C X 94 41 [l0, l1, l2, some (.int x0)] st N I L P = sm_at C X 94 42 [l0, l1, l2, some (.int x0)] (.int x0 :: st) N I L P := st_go b94 dX10_road_41 (by decide) rfl
theorem s94_42 (h : a < N) (h1 : sm_lay a = .inl 4) : sm_at C X 94 42 ls [w3, w2, w1, .ref a] N I L P = sm_af C X 94 45 ls [] (C 39 [.ref a, w1, w2, w3] N I L P) := st_virt b94 dX10_road_42 (n := 4) (rest := []) rfl rfl rfl rfl rfl rfl rfl h h1
theorem s94_45 : sm_at C X 94 45 ls [.int x0] N I L P = some (some (.int x0), N, I, L, P) := st_iret b94 dX10_road_45 rfl
theorem b95 : sm_b 95 = cX10_town := rfl
theorem s95_0 : sm_at C X 95 0 [l0, some (.int x0), l2, l3] st N I L P = sm_at C X 95 1 [l0, some (.int x0), l2, l3] (.int x0 :: st) N I L P := st_go b95 dX10_town_0 (by decide) rfl
theorem s95_1 : sm_at C X 95 1 ls [w0] N I L P = sm_af C X 95 4 ls [] (C 133 [w0] N I L P) := st_stat b95 dX10_town_1 (n := 1) (rest := []) rfl rfl rfl rfl rfl rfl
theorem s95_4 : sm_at C X 95 4 ls (.int x0 :: st) N I L P = if x0 = 0 then sm_at C X 95 14 ls st N I L P else sm_at C X 95 7 ls st N I L P := st_br b95 dX10_town_4 (by decide) rfl
theorem s95_7 : sm_at C X 95 7 [l0, l1, some (.int x0), l3] st N I L P = sm_at C X 95 8 [l0, l1, some (.int x0), l3] (.int x0 :: st) N I L P := st_go b95 dX10_town_7 (by decide) rfl
theorem s95_8 : sm_at C X 95 8 ls [w0] N I L P = sm_af C X 95 11 ls [] (C 134 [w0] N I L P) := st_stat b95 dX10_town_8 (n := 1) (rest := []) rfl rfl rfl rfl rfl rfl
theorem s95_11 : sm_at C X 95 11 ls (.int x0 :: st) N I L P = if ¬ x0 = 0 then sm_at C X 95 17 ls st N I L P else sm_at C X 95 14 ls st N I L P := st_br b95 dX10_town_11 (by decide) rfl
theorem s95_14 : sm_at C X 95 14 ls st N I L P = sm_at C X 95 16 ls (.int (-101) :: st) N I L P := st_go b95 dX10_town_14 (by decide) rfl
theorem s95_16 : sm_at C X 95 16 ls [.int x0] N I L P = some (some (.int x0), N, I, L, P) := st_iret b95 dX10_town_16 rfl
theorem s95_17 : sm_at C X 95 17 [some (.ref a), l1, l2, l3] st N I L P = sm_at C X 95 18 [some (.ref a), l1, l2, l3] (.ref a :: st) N I L P := st_go b95 dX10_town_17 (by decide) rfl
theorem s95_18 (h : a < N) (h1 : sm_lay a = .inl 10) : sm_at C X 95 18 ls (.ref a :: st) N I L P = sm_at C X 95 21 ls (va_rf (P a 7) :: st) N I L P := st_gfR b95 dX10_town_18 rfl rfl h h1
theorem s95_21 : sm_at C X 95 21 [l0, some (.int x0), l2, l3] st N I L P = sm_at C X 95 22 [l0, some (.int x0), l2, l3] (.int x0 :: st) N I L P := st_go b95 dX10_town_21 (by decide) rfl
theorem s95_22 (h : a < N) (h1 : k < sm_al a) : sm_at C X 95 22 ls (.int (nI k) :: .ref a :: st) N I L P = sm_at C X 95 23 ls (.int (I a k) :: st) N I L P := st_iald b95 dX10_town_22 h h1
theorem s95_23 : sm_at C X 95 23 [l0, l1, l2, l3] (.int x0 :: st) N I L P = sm_at C X 95 24 [l0, l1, sm_cl l2, some (.int x0)] st N I L P := st_go b95 dX10_town_23 (by decide) rfl
theorem s95_24 : sm_at C X 95 24 [some (.ref a), l1, l2, l3] st N I L P = sm_at C X 95 25 [some (.ref a), l1, l2, l3] (.ref a :: st) N I L P := st_go b95 dX10_town_24 (by decide) rfl
theorem s95_25 (h : a < N) (h1 : sm_lay a = .inl 10) : sm_at C X 95 25 ls (.ref a :: st) N I L P = sm_at C X 95 28 ls (va_rf (P a 7) :: st) N I L P := st_gfR b95 dX10_town_25 rfl rfl h h1
theorem s95_28 : sm_at C X 95 28 [l0, some (.int x0), l2, l3] st N I L P = sm_at C X 95 29 [l0, some (.int x0), l2, l3] (.int x0 :: st) N I L P := st_go b95 dX10_town_28 (by decide) rfl
theorem s95_29 : sm_at C X 95 29 [l0, l1, some (.int x0), l3] st N I L P = sm_at C X 95 30 [l0, l1, some (.int x0), l3] (.int x0 :: st) N I L P := st_go b95 dX10_town_29 (by decide) rfl
theorem s95_30 (h : a < N) (h1 : k < sm_al a) : sm_at C X 95 30 ls (.int x0 :: .int (nI k) :: .ref a :: st) N I L P = sm_at C X 95 31 ls st N (sm_up I a k x0) L P := st_iast b95 dX10_town_30 h h1
theorem s95_31 : sm_at C X 95 31 [l0, l1, l2, some (.int x0)] st N I L P = sm_at C X 95 32 [l0, l1, l2, some (.int x0)] (.int x0 :: st) N I L P := st_go b95 dX10_town_31 (by decide) rfl
theorem s95_32 : sm_at C X 95 32 ls [.int x0] N I L P = some (some (.int x0), N, I, L, P) := st_iret b95 dX10_town_32 rfl
theorem b96 : sm_b 96 = cX10_letters := rfl
theorem s96_0 : sm_at C X 96 0 [some (.ref a), l1, l2] st N I L P = sm_at C X 96 1 [some (.ref a), l1, l2] (.ref a :: st) N I L P := st_go b96 dX10_letters_0 (by decide) rfl
theorem s96_1 (h : a < N) (h1 : sm_lay a = .inl 10) : sm_at C X 96 1 ls (.ref a :: st) N I L P = sm_at C X 96 4 ls (va_rf (P a 0) :: st) N I L P := st_gfR b96 dX10_letters_1 rfl rfl h h1
theorem s96_4 : sm_at C X 96 4 [l0, some (.long z0), l2] st N I L P = sm_at C X 96 5 [l0, some (.long z0), l2] (.long z0 :: st) N I L P := st_go b96 dX10_letters_4 (by decide) rfl
theorem s96_5 (h : a < N) (h1 : sm_lay a = .inl 5) : sm_at C X 96 5 ls [w1, .ref a] N I L P = sm_af C X 96 8 ls [] (C 53 [.ref a, w1] N I L P) := st_virt b96 dX10_letters_5 (n := 2) (rest := []) rfl rfl rfl rfl rfl rfl rfl h h1
theorem s96_8 : sm_at C X 96 8 ls [.int x0] N I L P = some (some (.int x0), N, I, L, P) := st_iret b96 dX10_letters_8 rfl
theorem b97 : sm_b 97 = cX10_blank := rfl
theorem s97_0 : sm_at C X 97 0 [some (.ref a), l1] st N I L P = sm_at C X 97 1 [some (.ref a), l1] (.ref a :: st) N I L P := st_go b97 dX10_blank_0 (by decide) rfl
theorem s97_1 (h : a < N) (h1 : sm_lay a = .inl 10) : sm_at C X 97 1 ls (.ref a :: st) N I L P = sm_at C X 97 4 ls (va_rf (P a 0) :: st) N I L P := st_gfR b97 dX10_blank_1 rfl rfl h h1
theorem s97_4 (h : a < N) (h1 : sm_lay a = .inl 5) : sm_at C X 97 4 ls [.ref a] N I L P = sm_af C X 97 7 ls [] (C 50 [.ref a] N I L P) := st_virt b97 dX10_blank_4 (n := 1) (rest := []) rfl rfl rfl rfl rfl rfl rfl h h1
theorem s97_7 : sm_at C X 97 7 [l0, l1] (.int x0 :: st) N I L P = sm_at C X 97 8 [sm_cl l0, some (.int x0)] st N I L P := st_go b97 dX10_blank_7 (by decide) rfl
theorem s97_8 : sm_at C X 97 8 [some (.ref a), l1] st N I L P = sm_at C X 97 9 [some (.ref a), l1] (.ref a :: st) N I L P := st_go b97 dX10_blank_8 (by decide) rfl
theorem s97_9 (h : a < N) (h1 : sm_lay a = .inl 10) : sm_at C X 97 9 ls (.ref a :: st) N I L P = sm_at C X 97 12 ls (va_rf (P a 0) :: st) N I L P := st_gfR b97 dX10_blank_9 rfl rfl h h1
theorem s97_12 (h : a < N) (h1 : sm_lay a = .inl 5) : sm_at C X 97 12 ls [.ref a] N I L P = sm_af C X 97 15 ls [] (C 52 [.ref a] N I L P) := st_virt b97 dX10_blank_12 (n := 1) (rest := []) rfl rfl rfl rfl rfl rfl rfl h h1
theorem s97_15 : sm_at C X 97 15 [l0, some (.int x0)] st N I L P = sm_at C X 97 16 [l0, some (.int x0)] (.int x0 :: st) N I L P := st_go b97 dX10_blank_15 (by decide) rfl
theorem s97_16 : sm_at C X 97 16 ls [.int x0] N I L P = some (some (.int x0), N, I, L, P) := st_iret b97 dX10_blank_16 rfl
theorem b98 : sm_b 98 = cX10_fault := rfl
theorem s98_0 : sm_at C X 98 0 [some (.ref a)] st N I L P = sm_at C X 98 1 [some (.ref a)] (.ref a :: st) N I L P := st_go b98 dX10_fault_0 (by decide) rfl
theorem s98_1 (h : a < N) (h1 : sm_lay a = .inl 10) : sm_at C X 98 1 ls (.ref a :: st) N I L P = sm_at C X 98 4 ls (va_rf (P a 9) :: st) N I L P := st_gfR b98 dX10_fault_1 rfl rfl h h1
theorem s98_4 : sm_at C X 98 4 [some (.ref a)] st N I L P = sm_at C X 98 5 [some (.ref a)] (.ref a :: st) N I L P := st_go b98 dX10_fault_4 (by decide) rfl
theorem s98_5 (h : a < N) (h1 : sm_lay a = .inl 10) : sm_at C X 98 5 ls (.ref a :: st) N I L P = sm_at C X 98 8 ls (va_rf (P a 0) :: st) N I L P := st_gfR b98 dX10_fault_5 rfl rfl h h1
theorem s98_8 (h : a < N) (h1 : sm_lay a = .inl 6) : sm_at C X 98 8 ls [w1, .ref a] N I L P = sm_af C X 98 11 ls [] (C 57 [.ref a, w1] N I L P) := st_virt b98 dX10_fault_8 (n := 2) (rest := []) rfl rfl rfl rfl rfl rfl rfl h h1
theorem s98_11 : sm_at C X 98 11 ls [.int x0] N I L P = some (some (.int x0), N, I, L, P) := st_iret b98 dX10_fault_11 rfl
theorem b99 : sm_b 99 = cX10_births := rfl
theorem s99_0 : sm_at C X 99 0 [some (.ref a), l1] st N I L P = sm_at C X 99 1 [some (.ref a), l1] (.ref a :: st) N I L P := st_go b99 dX10_births_0 (by decide) rfl
theorem s99_1 (h : a < N) (h1 : sm_lay a = .inl 10) : sm_at C X 99 1 ls (.ref a :: st) N I L P = sm_at C X 99 4 ls (va_rf (P a 9) :: st) N I L P := st_gfR b99 dX10_births_1 rfl rfl h h1
theorem s99_4 : sm_at C X 99 4 [some (.ref a), l1] st N I L P = sm_at C X 99 5 [some (.ref a), l1] (.ref a :: st) N I L P := st_go b99 dX10_births_4 (by decide) rfl
theorem s99_5 (h : a < N) (h1 : sm_lay a = .inl 10) : sm_at C X 99 5 ls (.ref a :: st) N I L P = sm_at C X 99 8 ls (va_rf (P a 0) :: st) N I L P := st_gfR b99 dX10_births_5 rfl rfl h h1
theorem s99_8 (h : a < N) (h1 : sm_lay a = .inl 6) : sm_at C X 99 8 ls [w1, .ref a] N I L P = sm_af C X 99 11 ls [] (C 57 [.ref a, w1] N I L P) := st_virt b99 dX10_births_8 (n := 2) (rest := []) rfl rfl rfl rfl rfl rfl rfl h h1
theorem s99_11 : sm_at C X 99 11 [some (.ref a), l1] st N I L P = sm_at C X 99 12 [some (.ref a), l1] (.ref a :: st) N I L P := st_go b99 dX10_births_11 (by decide) rfl
theorem s99_12 (h : a < N) (h1 : sm_lay a = .inl 10) : sm_at C X 99 12 ls (.ref a :: st) N I L P = sm_at C X 99 15 ls (va_rf (P a 0) :: st) N I L P := st_gfR b99 dX10_births_12 rfl rfl h h1
theorem s99_15 (h : a < N) (h1 : sm_lay a = .inl 5) : sm_at C X 99 15 ls [.ref a, v0] N I L P = sm_af C X 99 18 ls [v0] (C 50 [.ref a] N I L P) := st_virt b99 dX10_births_15 (n := 1) (rest := [v0]) rfl rfl rfl rfl rfl rfl rfl h h1
theorem s99_18 : sm_at C X 99 18 ls (.int x0 :: .int x1 :: st) N I L P = if x1 < x0 then sm_at C X 99 31 ls st N I L P else sm_at C X 99 21 ls st N I L P := st_br b99 dX10_births_18 (by decide) rfl
theorem s99_21 : sm_at C X 99 21 [some (.ref a), l1] st N I L P = sm_at C X 99 22 [some (.ref a), l1] (.ref a :: st) N I L P := st_go b99 dX10_births_21 (by decide) rfl
theorem s99_22 (h : a < N) (h1 : sm_lay a = .inl 10) : sm_at C X 99 22 ls (.ref a :: st) N I L P = sm_at C X 99 25 ls (va_rf (P a 9) :: st) N I L P := st_gfR b99 dX10_births_22 rfl rfl h h1
theorem s99_25 (h : a < N) (h1 : sm_lay a = .inl 6) : sm_at C X 99 25 ls [.ref a] N I L P = sm_af C X 99 28 ls [] (C 58 [.ref a] N I L P) := st_virt b99 dX10_births_25 (n := 1) (rest := []) rfl rfl rfl rfl rfl rfl rfl h h1
theorem s99_28 : sm_at C X 99 28 ls (.int x0 :: st) N I L P = if ¬ x0 = 0 then sm_at C X 99 34 ls st N I L P else sm_at C X 99 31 ls st N I L P := st_br b99 dX10_births_28 (by decide) rfl
theorem s99_31 : sm_at C X 99 31 ls st N I L P = sm_at C X 99 33 ls (.int (-103) :: st) N I L P := st_go b99 dX10_births_31 (by decide) rfl
theorem s99_33 : sm_at C X 99 33 ls [.int x0] N I L P = some (some (.int x0), N, I, L, P) := st_iret b99 dX10_births_33 rfl
theorem s99_34 : sm_at C X 99 34 [some (.ref a), l1] st N I L P = sm_at C X 99 35 [some (.ref a), l1] (.ref a :: st) N I L P := st_go b99 dX10_births_34 (by decide) rfl
theorem s99_35 (h : a < N) (h1 : sm_lay a = .inl 10) : sm_at C X 99 35 ls (.ref a :: st) N I L P = sm_at C X 99 38 ls (va_rf (P a 8) :: st) N I L P := st_gfR b99 dX10_births_35 rfl rfl h h1
theorem s99_38 : sm_at C X 99 38 [l0, l1] (.ref a :: st) N I L P = sm_at C X 99 39 [sm_cl l0, some (.ref a)] st N I L P := st_go b99 dX10_births_38 (by decide) rfl
theorem s99_38n : sm_at C X 99 38 [l0, l1] (.null :: st) N I L P = sm_at C X 99 39 [sm_cl l0, some .null] st N I L P := st_go b99 dX10_births_38 (by decide) rfl
theorem s99_39 : sm_at C X 99 39 [some (.ref a), l1] st N I L P = sm_at C X 99 40 [some (.ref a), l1] (.ref a :: st) N I L P := st_go b99 dX10_births_39 (by decide) rfl
theorem s99_40 : sm_at C X 99 40 [some (.ref a), l1] st N I L P = sm_at C X 99 41 [some (.ref a), l1] (.ref a :: st) N I L P := st_go b99 dX10_births_40 (by decide) rfl
theorem s99_41 (h : a < N) (h1 : sm_lay a = .inl 10) : sm_at C X 99 41 ls (.ref a :: st) N I L P = sm_at C X 99 44 ls (va_rf (P a 9) :: st) N I L P := st_gfR b99 dX10_births_41 rfl rfl h h1
theorem s99_44 (h : a < N) (h1 : sm_lay a = .inl 10) : sm_at C X 99 44 ls (.ref a2 :: .ref a :: st) N I L P = sm_at C X 99 47 ls st N I L (sm_up P a 8 (some a2)) := st_pfR b99 dX10_births_44 rfl rfl (Or.inl rfl) h h1
theorem s99_47 : sm_at C X 99 47 [some (.ref a), l1] st N I L P = sm_at C X 99 48 [some (.ref a), l1] (.ref a :: st) N I L P := st_go b99 dX10_births_47 (by decide) rfl
theorem s99_48 : sm_at C X 99 48 [l0, some (.ref a)] st N I L P = sm_at C X 99 49 [l0, some (.ref a)] (.ref a :: st) N I L P := st_go b99 dX10_births_48 (by decide) rfl
theorem s99_48n : sm_at C X 99 48 [l0, some .null] st N I L P = sm_at C X 99 49 [l0, some .null] (.null :: st) N I L P := st_go b99 dX10_births_48 (by decide) rfl
theorem s99_49 (h : a < N) (h1 : sm_lay a = .inl 10) : sm_at C X 99 49 ls (.ref a2 :: .ref a :: st) N I L P = sm_at C X 99 52 ls st N I L (sm_up P a 9 (some a2)) := st_pfR b99 dX10_births_49 rfl rfl (Or.inl rfl) h h1
theorem s99_52 : sm_at C X 99 52 [some (.ref a), l1] st N I L P = sm_at C X 99 53 [some (.ref a), l1] (.ref a :: st) N I L P := st_go b99 dX10_births_52 (by decide) rfl
theorem s99_53 (h : a < N) (h1 : sm_lay a = .inl 10) : sm_at C X 99 53 ls (.ref a :: st) N I L P = sm_at C X 99 56 ls (va_rf (P a 0) :: st) N I L P := st_gfR b99 dX10_births_53 rfl rfl h h1
theorem s99_56 (h : a < N) (h1 : sm_lay a = .inl 5) : sm_at C X 99 56 ls [.ref a] N I L P = sm_af C X 99 59 ls [] (C 52 [.ref a] N I L P) := st_virt b99 dX10_births_56 (n := 1) (rest := []) rfl rfl rfl rfl rfl rfl rfl h h1
theorem s99_59 : sm_at C X 99 59 [some (.ref a), l1] st N I L P = sm_at C X 99 60 [some (.ref a), l1] (.ref a :: st) N I L P := st_go b99 dX10_births_59 (by decide) rfl
theorem s99_60 (h : a < N) (h1 : sm_lay a = .inl 10) : sm_at C X 99 60 ls (.ref a :: st) N I L P = sm_at C X 99 63 ls (va_rf (P a 1) :: st) N I L P := st_gfR b99 dX10_births_60 rfl rfl h h1
theorem s99_63 (h : a < N) (h1 : sm_lay a = .inl 8) : sm_at C X 99 63 ls [.ref a] N I L P = sm_af C X 99 66 ls [] (C 75 [.ref a] N I L P) := st_virt b99 dX10_births_63 (n := 1) (rest := []) rfl rfl rfl rfl rfl rfl rfl h h1
theorem s99_66 : sm_at C X 99 66 [some (.ref a), l1] st N I L P = sm_at C X 99 67 [some (.ref a), l1] (.ref a :: st) N I L P := st_go b99 dX10_births_66 (by decide) rfl
theorem s99_67 (h : a < N) (h1 : sm_lay a = .inl 10) : sm_at C X 99 67 ls (.ref a :: st) N I L P = sm_at C X 99 70 ls (va_rf (P a 6) :: st) N I L P := st_gfR b99 dX10_births_67 rfl rfl h h1
theorem s99_70 (h : a < N) (h1 : sm_lay a = .inl 3) : sm_at C X 99 70 ls [.ref a] N I L P = sm_af C X 99 73 ls [] (C 35 [.ref a] N I L P) := st_virt b99 dX10_births_70 (n := 1) (rest := []) rfl rfl rfl rfl rfl rfl rfl h h1
theorem s99_73 : sm_at C X 99 73 [some (.ref a), l1] st N I L P = sm_at C X 99 74 [some (.ref a), l1] (.ref a :: st) N I L P := st_go b99 dX10_births_73 (by decide) rfl
theorem s99_74 : sm_at C X 99 74 ls (.ref a :: st) N I L P = sm_at C X 99 75 ls (.ref a :: .ref a :: st) N I L P := st_go b99 dX10_births_74 (by decide) rfl
theorem s99_75 (h : a < N) (h1 : sm_lay a = .inl 10) : sm_at C X 99 75 ls (.ref a :: st) N I L P = sm_at C X 99 78 ls (.int (I a 10) :: st) N I L P := st_gfI b99 dX10_births_75 rfl rfl h h1
theorem s99_78 : sm_at C X 99 78 ls st N I L P = sm_at C X 99 79 ls (.int (nI 1) :: st) N I L P := st_go b99 dX10_births_78 (by decide) rfl
theorem s99_79 : sm_at C X 99 79 ls (.int x0 :: .int x1 :: st) N I L P = sm_at C X 99 80 ls (.int (x1 + x0) :: st) N I L P := st_go b99 dX10_births_79 (by decide) rfl
theorem s99_80 (h : a < N) (h1 : sm_lay a = .inl 10) : sm_at C X 99 80 ls (.int x0 :: .ref a :: st) N I L P = sm_at C X 99 83 ls st N (sm_up I a 10 x0) L P := st_pfI b99 dX10_births_80 rfl rfl rfl h h1
theorem s99_83 : sm_at C X 99 83 [some (.ref a), l1] st N I L P = sm_at C X 99 84 [some (.ref a), l1] (.ref a :: st) N I L P := st_go b99 dX10_births_83 (by decide) rfl
theorem s99_84 (h : a < N) (h1 : sm_lay a = .inl 10) : sm_at C X 99 84 ls (.ref a :: st) N I L P = sm_at C X 99 87 ls (va_rf (P a 8) :: st) N I L P := st_gfR b99 dX10_births_84 rfl rfl h h1
theorem s99_87 (h : a < N) (h1 : sm_lay a = .inl 6) : sm_at C X 99 87 ls [.ref a] N I L P = sm_af C X 99 90 ls [] (C 59 [.ref a] N I L P) := st_virt b99 dX10_births_87 (n := 1) (rest := []) rfl rfl rfl rfl rfl rfl rfl h h1
theorem s99_90 : sm_at C X 99 90 ls [.int x0] N I L P = some (some (.int x0), N, I, L, P) := st_iret b99 dX10_births_90 rfl
theorem b100 : sm_b 100 = cX10_birth := rfl
theorem s100_0 : sm_at C X 100 0 [some (.ref a), l1, l2, l3] st N I L P = sm_at C X 100 1 [some (.ref a), l1, l2, l3] (.ref a :: st) N I L P := st_go b100 dX10_birth_0 (by decide) rfl
theorem s100_1 (h : a < N) (h1 : sm_lay a = .inl 10) : sm_at C X 100 1 ls (.ref a :: st) N I L P = sm_at C X 100 4 ls (va_rf (P a 8) :: st) N I L P := st_gfR b100 dX10_birth_1 rfl rfl h h1
theorem s100_4 : sm_at C X 100 4 [l0, some (.int x0), l2, l3] st N I L P = sm_at C X 100 5 [l0, some (.int x0), l2, l3] (.int x0 :: st) N I L P := st_go b100 dX10_birth_4 (by decide) rfl
theorem s100_5 (h : a < N) (h1 : sm_lay a = .inl 6) : sm_at C X 100 5 ls [w1, .ref a] N I L P = sm_af C X 100 8 ls [] (C 60 [.ref a, w1] N I L P) := st_virt b100 dX10_birth_5 (n := 2) (rest := []) rfl rfl rfl rfl rfl rfl rfl h h1
theorem s100_8 : sm_at C X 100 8 [l0, l1, l2, l3] (.ref a :: st) N I L P = sm_at C X 100 9 [l0, l1, sm_cl l2, some (.ref a)] st N I L P := st_go b100 dX10_birth_8 (by decide) rfl
theorem s100_8n : sm_at C X 100 8 [l0, l1, l2, l3] (.null :: st) N I L P = sm_at C X 100 9 [l0, l1, sm_cl l2, some .null] st N I L P := st_go b100 dX10_birth_8 (by decide) rfl
theorem s100_9 : sm_at C X 100 9 [l0, l1, l2, some (.ref a)] st N I L P = sm_at C X 100 10 [l0, l1, l2, some (.ref a)] (.ref a :: st) N I L P := st_go b100 dX10_birth_9 (by decide) rfl
theorem s100_9n : sm_at C X 100 9 [l0, l1, l2, some .null] st N I L P = sm_at C X 100 10 [l0, l1, l2, some .null] (.null :: st) N I L P := st_go b100 dX10_birth_9 (by decide) rfl
theorem s100_10 : sm_at C X 100 10 ls (.ref a :: st) N I L P = sm_at C X 100 16 ls st N I L P := st_go b100 dX10_birth_10 (by decide) rfl
theorem s100_10n : sm_at C X 100 10 ls (.null :: st) N I L P = sm_at C X 100 13 ls st N I L P := st_go b100 dX10_birth_10 (by decide) rfl
theorem s100_13 : sm_at C X 100 13 ls st N I L P = sm_at C X 100 15 ls (.int (-101) :: st) N I L P := st_go b100 dX10_birth_13 (by decide) rfl
theorem s100_15 : sm_at C X 100 15 ls [.int x0] N I L P = some (some (.int x0), N, I, L, P) := st_iret b100 dX10_birth_15 rfl
theorem s100_16 : sm_at C X 100 16 [l0, l1, some (.int x0), l3] st N I L P = sm_at C X 100 17 [l0, l1, some (.int x0), l3] (.int x0 :: st) N I L P := st_go b100 dX10_birth_16 (by decide) rfl
theorem s100_17 : sm_at C X 100 17 ls st N I L P = sm_at C X 100 18 ls (.int (nI 0) :: st) N I L P := st_go b100 dX10_birth_17 (by decide) rfl
theorem s100_18 : sm_at C X 100 18 ls st N I L P = sm_at C X 100 20 ls (.int (nI 6) :: st) N I L P := st_go b100 dX10_birth_18 (by decide) rfl
theorem s100_20 : sm_at C X 100 20 ls [w2, w1, w0] N I L P = sm_af C X 100 23 ls [] (C 132 [w0, w1, w2] N I L P) := st_stat b100 dX10_birth_20 (n := 3) (rest := []) rfl rfl rfl rfl rfl rfl
theorem s100_23 : sm_at C X 100 23 ls (.int x0 :: st) N I L P = if ¬ x0 = 0 then sm_at C X 100 29 ls st N I L P else sm_at C X 100 26 ls st N I L P := st_br b100 dX10_birth_23 (by decide) rfl
theorem s100_26 : sm_at C X 100 26 ls st N I L P = sm_at C X 100 28 ls (.int (-102) :: st) N I L P := st_go b100 dX10_birth_26 (by decide) rfl
theorem s100_28 : sm_at C X 100 28 ls [.int x0] N I L P = some (some (.int x0), N, I, L, P) := st_iret b100 dX10_birth_28 rfl
theorem s100_29 : sm_at C X 100 29 [l0, l1, l2, some (.ref a)] st N I L P = sm_at C X 100 30 [l0, l1, l2, some (.ref a)] (.ref a :: st) N I L P := st_go b100 dX10_birth_29 (by decide) rfl
theorem s100_29n : sm_at C X 100 29 [l0, l1, l2, some .null] st N I L P = sm_at C X 100 30 [l0, l1, l2, some .null] (.null :: st) N I L P := st_go b100 dX10_birth_29 (by decide) rfl
theorem s100_30 : sm_at C X 100 30 [l0, l1, some (.int x0), l3] st N I L P = sm_at C X 100 31 [l0, l1, some (.int x0), l3] (.int x0 :: st) N I L P := st_go b100 dX10_birth_30 (by decide) rfl
theorem s100_31 (h : a < N) (h1 : sm_lay a = .inl 0) : sm_at C X 100 31 ls [w1, .ref a] N I L P = sm_af C X 100 34 ls [] (C 10 [.ref a, w1] N I L P) := st_virt b100 dX10_birth_31 (n := 2) (rest := []) rfl rfl rfl rfl rfl rfl rfl h h1
theorem s100_34 : sm_at C X 100 34 ls [.int x0] N I L P = some (some (.int x0), N, I, L, P) := st_iret b100 dX10_birth_34 rfl
theorem b101 : sm_b 101 = cX10_as := rfl
theorem s101_0 : sm_at C X 101 0 [some (.ref a), l1, l2, l3] st N I L P = sm_at C X 101 1 [some (.ref a), l1, l2, l3] (.ref a :: st) N I L P := st_go b101 dX10_as_0 (by decide) rfl
theorem s101_1 (h : a < N) (h1 : sm_lay a = .inl 10) : sm_at C X 101 1 ls (.ref a :: st) N I L P = sm_at C X 101 4 ls (va_rf (P a 8) :: st) N I L P := st_gfR b101 dX10_as_1 rfl rfl h h1
theorem s101_4 : sm_at C X 101 4 [l0, some (.int x0), l2, l3] st N I L P = sm_at C X 101 5 [l0, some (.int x0), l2, l3] (.int x0 :: st) N I L P := st_go b101 dX10_as_4 (by decide) rfl
theorem s101_5 (h : a < N) (h1 : sm_lay a = .inl 6) : sm_at C X 101 5 ls [w1, .ref a] N I L P = sm_af C X 101 8 ls [] (C 60 [.ref a, w1] N I L P) := st_virt b101 dX10_as_5 (n := 2) (rest := []) rfl rfl rfl rfl rfl rfl rfl h h1
theorem s101_8 : sm_at C X 101 8 [l0, l1, l2, l3] (.ref a :: st) N I L P = sm_at C X 101 9 [l0, l1, sm_cl l2, some (.ref a)] st N I L P := st_go b101 dX10_as_8 (by decide) rfl
theorem s101_8n : sm_at C X 101 8 [l0, l1, l2, l3] (.null :: st) N I L P = sm_at C X 101 9 [l0, l1, sm_cl l2, some .null] st N I L P := st_go b101 dX10_as_8 (by decide) rfl
theorem s101_9 : sm_at C X 101 9 [l0, l1, l2, some (.ref a)] st N I L P = sm_at C X 101 10 [l0, l1, l2, some (.ref a)] (.ref a :: st) N I L P := st_go b101 dX10_as_9 (by decide) rfl
theorem s101_9n : sm_at C X 101 9 [l0, l1, l2, some .null] st N I L P = sm_at C X 101 10 [l0, l1, l2, some .null] (.null :: st) N I L P := st_go b101 dX10_as_9 (by decide) rfl
theorem s101_10 : sm_at C X 101 10 ls (.ref a :: st) N I L P = sm_at C X 101 16 ls st N I L P := st_go b101 dX10_as_10 (by decide) rfl
theorem s101_10n : sm_at C X 101 10 ls (.null :: st) N I L P = sm_at C X 101 13 ls st N I L P := st_go b101 dX10_as_10 (by decide) rfl
theorem s101_13 : sm_at C X 101 13 ls st N I L P = sm_at C X 101 15 ls (.int (-101) :: st) N I L P := st_go b101 dX10_as_13 (by decide) rfl
theorem s101_15 : sm_at C X 101 15 ls [.int x0] N I L P = some (some (.int x0), N, I, L, P) := st_iret b101 dX10_as_15 rfl
theorem s101_16 : sm_at C X 101 16 [l0, l1, some (.int x0), l3] st N I L P = sm_at C X 101 17 [l0, l1, some (.int x0), l3] (.int x0 :: st) N I L P := st_go b101 dX10_as_16 (by decide) rfl
theorem s101_17 : sm_at C X 101 17 ls st N I L P = sm_at C X 101 18 ls (.int (nI 0) :: st) N I L P := st_go b101 dX10_as_17 (by decide) rfl
theorem s101_18 : sm_at C X 101 18 ls st N I L P = sm_at C X 101 19 ls (.int (nI 3) :: st) N I L P := st_go b101 dX10_as_18 (by decide) rfl
theorem s101_19 : sm_at C X 101 19 ls [w2, w1, w0] N I L P = sm_af C X 101 22 ls [] (C 132 [w0, w1, w2] N I L P) := st_stat b101 dX10_as_19 (n := 3) (rest := []) rfl rfl rfl rfl rfl rfl
theorem s101_22 : sm_at C X 101 22 ls (.int x0 :: st) N I L P = if ¬ x0 = 0 then sm_at C X 101 28 ls st N I L P else sm_at C X 101 25 ls st N I L P := st_br b101 dX10_as_22 (by decide) rfl
theorem s101_25 : sm_at C X 101 25 ls st N I L P = sm_at C X 101 27 ls (.int (-102) :: st) N I L P := st_go b101 dX10_as_25 (by decide) rfl
theorem s101_27 : sm_at C X 101 27 ls [.int x0] N I L P = some (some (.int x0), N, I, L, P) := st_iret b101 dX10_as_27 rfl
theorem s101_28 : sm_at C X 101 28 [l0, l1, l2, some (.ref a)] st N I L P = sm_at C X 101 29 [l0, l1, l2, some (.ref a)] (.ref a :: st) N I L P := st_go b101 dX10_as_28 (by decide) rfl
theorem s101_28n : sm_at C X 101 28 [l0, l1, l2, some .null] st N I L P = sm_at C X 101 29 [l0, l1, l2, some .null] (.null :: st) N I L P := st_go b101 dX10_as_28 (by decide) rfl
theorem s101_29 : sm_at C X 101 29 [l0, l1, some (.int x0), l3] st N I L P = sm_at C X 101 30 [l0, l1, some (.int x0), l3] (.int x0 :: st) N I L P := st_go b101 dX10_as_29 (by decide) rfl
theorem s101_30 (h : a < N) (h1 : sm_lay a = .inl 0) : sm_at C X 101 30 ls [w1, .ref a] N I L P = sm_af C X 101 33 ls [] (C 7 [.ref a, w1] N I L P) := st_virt b101 dX10_as_30 (n := 2) (rest := []) rfl rfl rfl rfl rfl rfl rfl h h1
theorem s101_33 : sm_at C X 101 33 ls (.int x0 :: st) N I L P = if x0 = 0 then sm_at C X 101 40 ls st N I L P else sm_at C X 101 36 ls st N I L P := st_br b101 dX10_as_33 (by decide) rfl
theorem s101_36 : sm_at C X 101 36 [l0, some (.int x0), l2, l3] st N I L P = sm_at C X 101 37 [l0, some (.int x0), l2, l3] (.int x0 :: st) N I L P := st_go b101 dX10_as_36 (by decide) rfl
theorem s101_37 : sm_at C X 101 37 ls st N I L P = sm_at C X 101 41 ls st N I L P := st_go b101 dX10_as_37 (by decide) rfl
theorem s101_40 : sm_at C X 101 40 ls st N I L P = sm_at C X 101 41 ls (.int (-1) :: st) N I L P := st_go b101 dX10_as_40 (by decide) rfl
theorem s101_41 : sm_at C X 101 41 ls [.int x0] N I L P = some (some (.int x0), N, I, L, P) := st_iret b101 dX10_as_41 rfl
theorem b102 : sm_b 102 = cX10_about := rfl
theorem s102_0 : sm_at C X 102 0 [l0, some (.int x0), l2] st N I L P = sm_at C X 102 1 [l0, some (.int x0), l2] (.int x0 :: st) N I L P := st_go b102 dX10_about_0 (by decide) rfl
theorem s102_1 : sm_at C X 102 1 ls [w0] N I L P = sm_af C X 102 4 ls [] (C 133 [w0] N I L P) := st_stat b102 dX10_about_1 (n := 1) (rest := []) rfl rfl rfl rfl rfl rfl
theorem s102_4 : sm_at C X 102 4 ls (.int x0 :: st) N I L P = if ¬ x0 = 0 then sm_at C X 102 10 ls st N I L P else sm_at C X 102 7 ls st N I L P := st_br b102 dX10_about_4 (by decide) rfl
theorem s102_7 : sm_at C X 102 7 ls st N I L P = sm_at C X 102 9 ls (.int (-101) :: st) N I L P := st_go b102 dX10_about_7 (by decide) rfl
theorem s102_9 : sm_at C X 102 9 ls [.int x0] N I L P = some (some (.int x0), N, I, L, P) := st_iret b102 dX10_about_9 rfl
theorem s102_10 : sm_at C X 102 10 [l0, l1, some (.int x0)] st N I L P = sm_at C X 102 11 [l0, l1, some (.int x0)] (.int x0 :: st) N I L P := st_go b102 dX10_about_10 (by decide) rfl
theorem s102_11_0 : sm_at C X 102 11 ls (.int (nI 0) :: st) N I L P = sm_at C X 102 36 ls st N I L P := st_go b102 dX10_about_11 (by decide) rfl
theorem s102_11_1 : sm_at C X 102 11 ls (.int (nI 1) :: st) N I L P = sm_at C X 102 43 ls st N I L P := st_go b102 dX10_about_11 (by decide) rfl
theorem s102_11_2 : sm_at C X 102 11 ls (.int (nI 2) :: st) N I L P = sm_at C X 102 52 ls st N I L P := st_go b102 dX10_about_11 (by decide) rfl
theorem s102_11_d (h : x0.toInt < 0 ∨ 2 < x0.toInt) : sm_at C X 102 11 ls (.int x0 :: st) N I L P = sm_at C X 102 61 ls st N I L P := st_tab b102 dX10_about_11 rfl h
theorem s102_36 : sm_at C X 102 36 [some (.ref a), l1, l2] st N I L P = sm_at C X 102 37 [some (.ref a), l1, l2] (.ref a :: st) N I L P := st_go b102 dX10_about_36 (by decide) rfl
theorem s102_37 (h : a < N) (h1 : sm_lay a = .inl 10) : sm_at C X 102 37 ls (.ref a :: st) N I L P = sm_at C X 102 40 ls (va_rf (P a 7) :: st) N I L P := st_gfR b102 dX10_about_37 rfl rfl h h1
theorem s102_40 : sm_at C X 102 40 [l0, some (.int x0), l2] st N I L P = sm_at C X 102 41 [l0, some (.int x0), l2] (.int x0 :: st) N I L P := st_go b102 dX10_about_40 (by decide) rfl
theorem s102_41 (h : a < N) (h1 : k < sm_al a) : sm_at C X 102 41 ls (.int (nI k) :: .ref a :: st) N I L P = sm_at C X 102 42 ls (.int (I a k) :: st) N I L P := st_iald b102 dX10_about_41 h h1
theorem s102_42 : sm_at C X 102 42 ls [.int x0] N I L P = some (some (.int x0), N, I, L, P) := st_iret b102 dX10_about_42 rfl
theorem s102_43 : sm_at C X 102 43 [some (.ref a), l1, l2] st N I L P = sm_at C X 102 44 [some (.ref a), l1, l2] (.ref a :: st) N I L P := st_go b102 dX10_about_43 (by decide) rfl
theorem s102_44 (h : a < N) (h1 : sm_lay a = .inl 10) : sm_at C X 102 44 ls (.ref a :: st) N I L P = sm_at C X 102 47 ls (va_rf (P a 8) :: st) N I L P := st_gfR b102 dX10_about_44 rfl rfl h h1
theorem s102_47 : sm_at C X 102 47 [l0, some (.int x0), l2] st N I L P = sm_at C X 102 48 [l0, some (.int x0), l2] (.int x0 :: st) N I L P := st_go b102 dX10_about_47 (by decide) rfl
theorem s102_48 (h : a < N) (h1 : sm_lay a = .inl 6) : sm_at C X 102 48 ls [w1, .ref a] N I L P = sm_af C X 102 51 ls [] (C 61 [.ref a, w1] N I L P) := st_virt b102 dX10_about_48 (n := 2) (rest := []) rfl rfl rfl rfl rfl rfl rfl h h1
theorem s102_51 : sm_at C X 102 51 ls [.int x0] N I L P = some (some (.int x0), N, I, L, P) := st_iret b102 dX10_about_51 rfl
theorem s102_52 : sm_at C X 102 52 [some (.ref a), l1, l2] st N I L P = sm_at C X 102 53 [some (.ref a), l1, l2] (.ref a :: st) N I L P := st_go b102 dX10_about_52 (by decide) rfl
theorem s102_53 (h : a < N) (h1 : sm_lay a = .inl 10) : sm_at C X 102 53 ls (.ref a :: st) N I L P = sm_at C X 102 56 ls (va_rf (P a 1) :: st) N I L P := st_gfR b102 dX10_about_53 rfl rfl h h1
theorem s102_56 : sm_at C X 102 56 [l0, some (.int x0), l2] st N I L P = sm_at C X 102 57 [l0, some (.int x0), l2] (.int x0 :: st) N I L P := st_go b102 dX10_about_56 (by decide) rfl
theorem s102_57 (h : a < N) (h1 : sm_lay a = .inl 8) : sm_at C X 102 57 ls [w1, .ref a] N I L P = sm_af C X 102 60 ls [] (C 78 [.ref a, w1] N I L P) := st_virt b102 dX10_about_57 (n := 2) (rest := []) rfl rfl rfl rfl rfl rfl rfl h h1
theorem s102_60 : sm_at C X 102 60 ls [.int x0] N I L P = some (some (.int x0), N, I, L, P) := st_iret b102 dX10_about_60 rfl
theorem s102_61 : sm_at C X 102 61 ls st N I L P = sm_at C X 102 63 ls (.int (-102) :: st) N I L P := st_go b102 dX10_about_61 (by decide) rfl
theorem s102_63 : sm_at C X 102 63 ls [.int x0] N I L P = some (some (.int x0), N, I, L, P) := st_iret b102 dX10_about_63 rfl
theorem b103 : sm_b 103 = cX10_touch := rfl
theorem s103_0 : sm_at C X 103 0 [l0, some (.int x0), l2] st N I L P = sm_at C X 103 1 [l0, some (.int x0), l2] (.int x0 :: st) N I L P := st_go b103 dX10_touch_0 (by decide) rfl
theorem s103_1 : sm_at C X 103 1 ls [w0] N I L P = sm_af C X 103 4 ls [] (C 133 [w0] N I L P) := st_stat b103 dX10_touch_1 (n := 1) (rest := []) rfl rfl rfl rfl rfl rfl
theorem s103_4 : sm_at C X 103 4 ls (.int x0 :: st) N I L P = if ¬ x0 = 0 then sm_at C X 103 10 ls st N I L P else sm_at C X 103 7 ls st N I L P := st_br b103 dX10_touch_4 (by decide) rfl
theorem s103_7 : sm_at C X 103 7 ls st N I L P = sm_at C X 103 9 ls (.int (-101) :: st) N I L P := st_go b103 dX10_touch_7 (by decide) rfl
theorem s103_9 : sm_at C X 103 9 ls [.int x0] N I L P = some (some (.int x0), N, I, L, P) := st_iret b103 dX10_touch_9 rfl
theorem s103_10 : sm_at C X 103 10 [l0, l1, some (.int x0)] st N I L P = sm_at C X 103 11 [l0, l1, some (.int x0)] (.int x0 :: st) N I L P := st_go b103 dX10_touch_10 (by decide) rfl
theorem s103_11 : sm_at C X 103 11 ls st N I L P = sm_at C X 103 12 ls (.int (nI 0) :: st) N I L P := st_go b103 dX10_touch_11 (by decide) rfl
theorem s103_12 : sm_at C X 103 12 ls st N I L P = sm_at C X 103 15 ls (.int (nI 999) :: st) N I L P := st_go b103 dX10_touch_12 (by decide) rfl
theorem s103_15 : sm_at C X 103 15 ls [w2, w1, w0] N I L P = sm_af C X 103 18 ls [] (C 132 [w0, w1, w2] N I L P) := st_stat b103 dX10_touch_15 (n := 3) (rest := []) rfl rfl rfl rfl rfl rfl
theorem s103_18 : sm_at C X 103 18 ls (.int x0 :: st) N I L P = if ¬ x0 = 0 then sm_at C X 103 24 ls st N I L P else sm_at C X 103 21 ls st N I L P := st_br b103 dX10_touch_18 (by decide) rfl
theorem s103_21 : sm_at C X 103 21 ls st N I L P = sm_at C X 103 23 ls (.int (-102) :: st) N I L P := st_go b103 dX10_touch_21 (by decide) rfl
theorem s103_23 : sm_at C X 103 23 ls [.int x0] N I L P = some (some (.int x0), N, I, L, P) := st_iret b103 dX10_touch_23 rfl
theorem s103_24 : sm_at C X 103 24 [some (.ref a), l1, l2] st N I L P = sm_at C X 103 25 [some (.ref a), l1, l2] (.ref a :: st) N I L P := st_go b103 dX10_touch_24 (by decide) rfl
theorem s103_25 (h : a < N) (h1 : sm_lay a = .inl 10) : sm_at C X 103 25 ls (.ref a :: st) N I L P = sm_at C X 103 28 ls (va_rf (P a 1) :: st) N I L P := st_gfR b103 dX10_touch_25 rfl rfl h h1
theorem s103_28 : sm_at C X 103 28 [l0, some (.int x0), l2] st N I L P = sm_at C X 103 29 [l0, some (.int x0), l2] (.int x0 :: st) N I L P := st_go b103 dX10_touch_28 (by decide) rfl
theorem s103_29 : sm_at C X 103 29 [l0, l1, some (.int x0)] st N I L P = sm_at C X 103 30 [l0, l1, some (.int x0)] (.int x0 :: st) N I L P := st_go b103 dX10_touch_29 (by decide) rfl
theorem s103_30 (h : a < N) (h1 : sm_lay a = .inl 8) : sm_at C X 103 30 ls [w2, w1, .ref a] N I L P = sm_af C X 103 33 ls [] (C 76 [.ref a, w1, w2] N I L P) := st_virt b103 dX10_touch_30 (n := 3) (rest := []) rfl rfl rfl rfl rfl rfl rfl h h1
theorem s103_33 : sm_at C X 103 33 ls [.int x0] N I L P = some (some (.int x0), N, I, L, P) := st_iret b103 dX10_touch_33 rfl
theorem b104 : sm_b 104 = cX10_forget := rfl
theorem s104_0 : sm_at C X 104 0 [some (.ref a), l1] st N I L P = sm_at C X 104 1 [some (.ref a), l1] (.ref a :: st) N I L P := st_go b104 dX10_forget_0 (by decide) rfl
theorem s104_1 (h : a < N) (h1 : sm_lay a = .inl 10) : sm_at C X 104 1 ls (.ref a :: st) N I L P = sm_at C X 104 4 ls (va_rf (P a 1) :: st) N I L P := st_gfR b104 dX10_forget_1 rfl rfl h h1
theorem s104_4 (h : a < N) (h1 : sm_lay a = .inl 8) : sm_at C X 104 4 ls [.ref a] N I L P = sm_af C X 104 7 ls [] (C 74 [.ref a] N I L P) := st_virt b104 dX10_forget_4 (n := 1) (rest := []) rfl rfl rfl rfl rfl rfl rfl h h1
theorem s104_7 : sm_at C X 104 7 [l0, l1] (.int x0 :: st) N I L P = sm_at C X 104 8 [sm_cl l0, some (.int x0)] st N I L P := st_go b104 dX10_forget_7 (by decide) rfl
theorem s104_8 : sm_at C X 104 8 [some (.ref a), l1] st N I L P = sm_at C X 104 9 [some (.ref a), l1] (.ref a :: st) N I L P := st_go b104 dX10_forget_8 (by decide) rfl
theorem s104_9 (h : a < N) (h1 : sm_lay a = .inl 10) : sm_at C X 104 9 ls (.ref a :: st) N I L P = sm_at C X 104 12 ls (va_rf (P a 1) :: st) N I L P := st_gfR b104 dX10_forget_9 rfl rfl h h1
theorem s104_12 (h : a < N) (h1 : sm_lay a = .inl 8) : sm_at C X 104 12 ls [.ref a] N I L P = sm_af C X 104 15 ls [] (C 75 [.ref a] N I L P) := st_virt b104 dX10_forget_12 (n := 1) (rest := []) rfl rfl rfl rfl rfl rfl rfl h h1
theorem s104_15 : sm_at C X 104 15 [l0, some (.int x0)] st N I L P = sm_at C X 104 16 [l0, some (.int x0)] (.int x0 :: st) N I L P := st_go b104 dX10_forget_15 (by decide) rfl
theorem s104_16 : sm_at C X 104 16 ls [.int x0] N I L P = some (some (.int x0), N, I, L, P) := st_iret b104 dX10_forget_16 rfl
theorem b105 : sm_b 105 = cX10_felt := rfl
theorem s105_0 : sm_at C X 105 0 [l0, some (.int x0), l2, l3] st N I L P = sm_at C X 105 1 [l0, some (.int x0), l2, l3] (.int x0 :: st) N I L P := st_go b105 dX10_felt_0 (by decide) rfl
theorem s105_1 : sm_at C X 105 1 ls [w0] N I L P = sm_af C X 105 4 ls [] (C 133 [w0] N I L P) := st_stat b105 dX10_felt_1 (n := 1) (rest := []) rfl rfl rfl rfl rfl rfl
theorem s105_4 : sm_at C X 105 4 ls (.int x0 :: st) N I L P = if ¬ x0 = 0 then sm_at C X 105 10 ls st N I L P else sm_at C X 105 7 ls st N I L P := st_br b105 dX10_felt_4 (by decide) rfl
theorem s105_7 : sm_at C X 105 7 ls st N I L P = sm_at C X 105 9 ls (.int (-101) :: st) N I L P := st_go b105 dX10_felt_7 (by decide) rfl
theorem s105_9 : sm_at C X 105 9 ls [.int x0] N I L P = some (some (.int x0), N, I, L, P) := st_iret b105 dX10_felt_9 rfl
theorem s105_10 : sm_at C X 105 10 [l0, l1, some (.int x0), l3] st N I L P = sm_at C X 105 11 [l0, l1, some (.int x0), l3] (.int x0 :: st) N I L P := st_go b105 dX10_felt_10 (by decide) rfl
theorem s105_11 : sm_at C X 105 11 [l0, l1, l2, some (.int x0)] st N I L P = sm_at C X 105 12 [l0, l1, l2, some (.int x0)] (.int x0 :: st) N I L P := st_go b105 dX10_felt_11 (by decide) rfl
theorem s105_12 : sm_at C X 105 12 ls [w1, w0] N I L P = sm_af C X 105 15 ls [] (C 135 [w0, w1] N I L P) := st_stat b105 dX10_felt_12 (n := 2) (rest := []) rfl rfl rfl rfl rfl rfl
theorem s105_15 : sm_at C X 105 15 ls (.int x0 :: st) N I L P = if ¬ x0 = 0 then sm_at C X 105 21 ls st N I L P else sm_at C X 105 18 ls st N I L P := st_br b105 dX10_felt_15 (by decide) rfl
theorem s105_18 : sm_at C X 105 18 ls st N I L P = sm_at C X 105 20 ls (.int (-102) :: st) N I L P := st_go b105 dX10_felt_18 (by decide) rfl
theorem s105_20 : sm_at C X 105 20 ls [.int x0] N I L P = some (some (.int x0), N, I, L, P) := st_iret b105 dX10_felt_20 rfl
theorem s105_21 : sm_at C X 105 21 [some (.ref a), l1, l2, l3] st N I L P = sm_at C X 105 22 [some (.ref a), l1, l2, l3] (.ref a :: st) N I L P := st_go b105 dX10_felt_21 (by decide) rfl
theorem s105_22 (h : a < N) (h1 : sm_lay a = .inl 10) : sm_at C X 105 22 ls (.ref a :: st) N I L P = sm_at C X 105 25 ls (va_rf (P a 1) :: st) N I L P := st_gfR b105 dX10_felt_22 rfl rfl h h1
theorem s105_25 : sm_at C X 105 25 [some (.ref a), l1, l2, l3] st N I L P = sm_at C X 105 26 [some (.ref a), l1, l2, l3] (.ref a :: st) N I L P := st_go b105 dX10_felt_25 (by decide) rfl
theorem s105_26 (h : a < N) (h1 : sm_lay a = .inl 10) : sm_at C X 105 26 ls (.ref a :: st) N I L P = sm_at C X 105 29 ls (va_rf (P a 8) :: st) N I L P := st_gfR b105 dX10_felt_26 rfl rfl h h1
theorem s105_29 : sm_at C X 105 29 [l0, some (.int x0), l2, l3] st N I L P = sm_at C X 105 30 [l0, some (.int x0), l2, l3] (.int x0 :: st) N I L P := st_go b105 dX10_felt_29 (by decide) rfl
theorem s105_30 : sm_at C X 105 30 [l0, l1, some (.int x0), l3] st N I L P = sm_at C X 105 31 [l0, l1, some (.int x0), l3] (.int x0 :: st) N I L P := st_go b105 dX10_felt_30 (by decide) rfl
theorem s105_31 : sm_at C X 105 31 [l0, l1, l2, some (.int x0)] st N I L P = sm_at C X 105 32 [l0, l1, l2, some (.int x0)] (.int x0 :: st) N I L P := st_go b105 dX10_felt_31 (by decide) rfl
theorem s105_32 (h : a < N) (h1 : sm_lay a = .inl 8) : sm_at C X 105 32 ls [w4, w3, w2, w1, .ref a] N I L P = sm_af C X 105 35 ls [] (C 79 [.ref a, w1, w2, w3, w4] N I L P) := st_virt b105 dX10_felt_32 (n := 5) (rest := []) rfl rfl rfl rfl rfl rfl rfl h h1
theorem s105_35 : sm_at C X 105 35 ls [.int x0] N I L P = some (some (.int x0), N, I, L, P) := st_iret b105 dX10_felt_35 rfl
theorem b106 : sm_b 106 = cX10_surely := rfl
theorem s106_0 : sm_at C X 106 0 [l0, some (.int x0), l2, l3, l4, l5, l6, l7, l8, l9] st N I L P = sm_at C X 106 1 [l0, some (.int x0), l2, l3, l4, l5, l6, l7, l8, l9] (.int x0 :: st) N I L P := st_go b106 dX10_surely_0 (by decide) rfl
theorem s106_1 : sm_at C X 106 1 ls [w0] N I L P = sm_af C X 106 4 ls [] (C 133 [w0] N I L P) := st_stat b106 dX10_surely_1 (n := 1) (rest := []) rfl rfl rfl rfl rfl rfl
theorem s106_4 : sm_at C X 106 4 ls (.int x0 :: st) N I L P = if ¬ x0 = 0 then sm_at C X 106 11 ls st N I L P else sm_at C X 106 7 ls st N I L P := st_br b106 dX10_surely_4 (by decide) rfl
theorem s106_7 : sm_at C X 106 7 ls st N I L P = sm_at C X 106 10 ls (.long (-101) :: st) N I L P := st_go b106 dX10_surely_7 (by decide) rfl
theorem s106_10 : sm_at C X 106 10 ls [.long z0] N I L P = some (some (.long z0), N, I, L, P) := st_ret b106 dX10_surely_10 (by decide) rfl
theorem s106_11 : sm_at C X 106 11 [l0, l1, some (.int x0), l3, l4, l5, l6, l7, l8, l9] st N I L P = sm_at C X 106 12 [l0, l1, some (.int x0), l3, l4, l5, l6, l7, l8, l9] (.int x0 :: st) N I L P := st_go b106 dX10_surely_11 (by decide) rfl
theorem s106_12 : sm_at C X 106 12 [l0, l1, l2, some (.int x0), l4, l5, l6, l7, l8, l9] st N I L P = sm_at C X 106 13 [l0, l1, l2, some (.int x0), l4, l5, l6, l7, l8, l9] (.int x0 :: st) N I L P := st_go b106 dX10_surely_12 (by decide) rfl
theorem s106_13 : sm_at C X 106 13 ls [w1, w0] N I L P = sm_af C X 106 16 ls [] (C 135 [w0, w1] N I L P) := st_stat b106 dX10_surely_13 (n := 2) (rest := []) rfl rfl rfl rfl rfl rfl
theorem s106_16 : sm_at C X 106 16 ls (.int x0 :: st) N I L P = if x0 = 0 then sm_at C X 106 27 ls st N I L P else sm_at C X 106 19 ls st N I L P := st_br b106 dX10_surely_16 (by decide) rfl
theorem s106_19 : sm_at C X 106 19 [l0, l1, l2, l3, some (.int x0), l5, l6, l7, l8, l9] st N I L P = sm_at C X 106 21 [l0, l1, l2, l3, some (.int x0), l5, l6, l7, l8, l9] (.int x0 :: st) N I L P := st_go b106 dX10_surely_19 (by decide) rfl
theorem s106_21 : sm_at C X 106 21 ls [w0] N I L P = sm_af C X 106 24 ls [] (C 136 [w0] N I L P) := st_stat b106 dX10_surely_21 (n := 1) (rest := []) rfl rfl rfl rfl rfl rfl
theorem s106_24 : sm_at C X 106 24 ls (.int x0 :: st) N I L P = if ¬ x0 = 0 then sm_at C X 106 31 ls st N I L P else sm_at C X 106 27 ls st N I L P := st_br b106 dX10_surely_24 (by decide) rfl
theorem s106_27 : sm_at C X 106 27 ls st N I L P = sm_at C X 106 30 ls (.long (-102) :: st) N I L P := st_go b106 dX10_surely_27 (by decide) rfl
theorem s106_30 : sm_at C X 106 30 ls [.long z0] N I L P = some (some (.long z0), N, I, L, P) := st_ret b106 dX10_surely_30 (by decide) rfl
theorem s106_31 : sm_at C X 106 31 [some (.ref a), l1, l2, l3, l4, l5, l6, l7, l8, l9] st N I L P = sm_at C X 106 32 [some (.ref a), l1, l2, l3, l4, l5, l6, l7, l8, l9] (.ref a :: st) N I L P := st_go b106 dX10_surely_31 (by decide) rfl
theorem s106_32 (h : a < N) (h1 : sm_lay a = .inl 10) : sm_at C X 106 32 ls (.ref a :: st) N I L P = sm_at C X 106 35 ls (va_rf (P a 1) :: st) N I L P := st_gfR b106 dX10_surely_32 rfl rfl h h1
theorem s106_35 : sm_at C X 106 35 [some (.ref a), l1, l2, l3, l4, l5, l6, l7, l8, l9] st N I L P = sm_at C X 106 36 [some (.ref a), l1, l2, l3, l4, l5, l6, l7, l8, l9] (.ref a :: st) N I L P := st_go b106 dX10_surely_35 (by decide) rfl
theorem s106_36 (h : a < N) (h1 : sm_lay a = .inl 10) : sm_at C X 106 36 ls (.ref a :: st) N I L P = sm_at C X 106 39 ls (va_rf (P a 8) :: st) N I L P := st_gfR b106 dX10_surely_36 rfl rfl h h1
theorem s106_39 : sm_at C X 106 39 [l0, some (.int x0), l2, l3, l4, l5, l6, l7, l8, l9] st N I L P = sm_at C X 106 40 [l0, some (.int x0), l2, l3, l4, l5, l6, l7, l8, l9] (.int x0 :: st) N I L P := st_go b106 dX10_surely_39 (by decide) rfl
theorem s106_40 : sm_at C X 106 40 [l0, l1, some (.int x0), l3, l4, l5, l6, l7, l8, l9] st N I L P = sm_at C X 106 41 [l0, l1, some (.int x0), l3, l4, l5, l6, l7, l8, l9] (.int x0 :: st) N I L P := st_go b106 dX10_surely_40 (by decide) rfl
theorem s106_41 : sm_at C X 106 41 [l0, l1, l2, some (.int x0), l4, l5, l6, l7, l8, l9] st N I L P = sm_at C X 106 42 [l0, l1, l2, some (.int x0), l4, l5, l6, l7, l8, l9] (.int x0 :: st) N I L P := st_go b106 dX10_surely_41 (by decide) rfl
theorem s106_42 (h : a < N) (h1 : sm_lay a = .inl 8) : sm_at C X 106 42 ls [w4, w3, w2, w1, .ref a] N I L P = sm_af C X 106 45 ls [] (C 79 [.ref a, w1, w2, w3, w4] N I L P) := st_virt b106 dX10_surely_42 (n := 5) (rest := []) rfl rfl rfl rfl rfl rfl rfl h h1
theorem s106_45 : sm_at C X 106 45 [l0, l1, l2, l3, l4, l5, l6, l7, l8, l9] (.int x0 :: st) N I L P = sm_at C X 106 47 [l0, l1, l2, l3, sm_cl l4, some (.int x0), l6, l7, l8, l9] st N I L P := st_go b106 dX10_surely_45 (by decide) rfl
theorem s106_47 : sm_at C X 106 47 ls st N I L P = sm_at C X 106 50 ls (.long (lN 10) :: st) N I L P := st_go b106 dX10_surely_47 (by decide) rfl
theorem s106_50 : sm_at C X 106 50 [l0, l1, l2, l3, l4, some (.int x0), l6, l7, l8, l9] st N I L P = sm_at C X 106 52 [l0, l1, l2, l3, l4, some (.int x0), l6, l7, l8, l9] (.int x0 :: st) N I L P := st_go b106 dX10_surely_50 (by decide) rfl
theorem s106_52 : sm_at C X 106 52 ls [w1, w0] N I L P = sm_af C X 106 55 ls [] (C 142 [w0, w1] N I L P) := st_stat b106 dX10_surely_52 (n := 2) (rest := []) rfl rfl rfl rfl rfl rfl
theorem s106_55 : sm_at C X 106 55 [l0, l1, l2, l3, l4, l5, l6, l7, l8, l9] (.long z0 :: st) N I L P = sm_at C X 106 57 [l0, l1, l2, l3, l4, sm_cl l5, some (.long z0), none, l8, l9] st N I L P := st_go b106 dX10_surely_55 (by decide) rfl
theorem s106_57 : sm_at C X 106 57 ls st N I L P = sm_at C X 106 59 ls (.int (nI 10) :: st) N I L P := st_go b106 dX10_surely_57 (by decide) rfl
theorem s106_59 : sm_at C X 106 59 [some (.ref a), l1, l2, l3, l4, l5, l6, l7, l8, l9] st N I L P = sm_at C X 106 60 [some (.ref a), l1, l2, l3, l4, l5, l6, l7, l8, l9] (.ref a :: st) N I L P := st_go b106 dX10_surely_59 (by decide) rfl
theorem s106_60 (h : a < N) (h1 : sm_lay a = .inl 10) : sm_at C X 106 60 ls (.ref a :: st) N I L P = sm_at C X 106 63 ls (va_rf (P a 8) :: st) N I L P := st_gfR b106 dX10_surely_60 rfl rfl h h1
theorem s106_63 : sm_at C X 106 63 [l0, some (.int x0), l2, l3, l4, l5, l6, l7, l8, l9] st N I L P = sm_at C X 106 64 [l0, some (.int x0), l2, l3, l4, l5, l6, l7, l8, l9] (.int x0 :: st) N I L P := st_go b106 dX10_surely_63 (by decide) rfl
theorem s106_64 (h : a < N) (h1 : sm_lay a = .inl 6) : sm_at C X 106 64 ls [w1, .ref a, v0] N I L P = sm_af C X 106 67 ls [v0] (C 62 [.ref a, w1] N I L P) := st_virt b106 dX10_surely_64 (n := 2) (rest := [v0]) rfl rfl rfl rfl rfl rfl rfl h h1
theorem s106_67 : sm_at C X 106 67 ls (.int x0 :: .int x1 :: st) N I L P = sm_at C X 106 68 ls (.int (x1 - x0) :: st) N I L P := st_go b106 dX10_surely_67 (by decide) rfl
theorem s106_68 : sm_at C X 106 68 ls (.int x0 :: st) N I L P = sm_at C X 106 69 ls (.long x0.toInt64 :: st) N I L P := st_go b106 dX10_surely_68 (by decide) rfl
theorem s106_69 : sm_at C X 106 69 [l0, l1, l2, l3, l4, some (.int x0), l6, l7, l8, l9] st N I L P = sm_at C X 106 71 [l0, l1, l2, l3, l4, some (.int x0), l6, l7, l8, l9] (.int x0 :: st) N I L P := st_go b106 dX10_surely_69 (by decide) rfl
theorem s106_71 : sm_at C X 106 71 ls [w1, w0] N I L P = sm_af C X 106 74 ls [] (C 142 [w0, w1] N I L P) := st_stat b106 dX10_surely_71 (n := 2) (rest := []) rfl rfl rfl rfl rfl rfl
theorem s106_74 : sm_at C X 106 74 [l0, l1, l2, l3, l4, l5, l6, l7, l8, l9] (.long z0 :: st) N I L P = sm_at C X 106 76 [l0, l1, l2, l3, l4, l5, l6, sm_cl l7, some (.long z0), none] st N I L P := st_go b106 dX10_surely_74 (by decide) rfl
theorem s106_76 : sm_at C X 106 76 [l0, l1, l2, l3, l4, l5, some (.long z0), l7, l8, l9] st N I L P = sm_at C X 106 78 [l0, l1, l2, l3, l4, l5, some (.long z0), l7, l8, l9] (.long z0 :: st) N I L P := st_go b106 dX10_surely_76 (by decide) rfl
theorem s106_78 : sm_at C X 106 78 [l0, l1, l2, l3, l4, l5, l6, l7, some (.long z0), l9] st N I L P = sm_at C X 106 80 [l0, l1, l2, l3, l4, l5, l6, l7, some (.long z0), l9] (.long z0 :: st) N I L P := st_go b106 dX10_surely_78 (by decide) rfl
theorem s106_80 : sm_at C X 106 80 ls (.long z0 :: .long z1 :: st) N I L P = sm_at C X 106 81 ls (.long (z1 - z0) :: st) N I L P := st_go b106 dX10_surely_80 (by decide) rfl
theorem s106_81 : sm_at C X 106 81 [l0, l1, l2, l3, l4, l5, some (.long z0), l7, l8, l9] st N I L P = sm_at C X 106 83 [l0, l1, l2, l3, l4, l5, some (.long z0), l7, l8, l9] (.long z0 :: st) N I L P := st_go b106 dX10_surely_81 (by decide) rfl
theorem s106_83 : sm_at C X 106 83 [l0, l1, l2, l3, some (.int x0), l5, l6, l7, l8, l9] st N I L P = sm_at C X 106 85 [l0, l1, l2, l3, some (.int x0), l5, l6, l7, l8, l9] (.int x0 :: st) N I L P := st_go b106 dX10_surely_83 (by decide) rfl
theorem s106_85 : sm_at C X 106 85 ls [w2, w1, w0] N I L P = sm_af C X 106 88 ls [] (C 143 [w0, w1, w2] N I L P) := st_stat b106 dX10_surely_85 (n := 3) (rest := []) rfl rfl rfl rfl rfl rfl
theorem s106_88 : sm_at C X 106 88 ls [.long z0] N I L P = some (some (.long z0), N, I, L, P) := st_ret b106 dX10_surely_88 (by decide) rfl
theorem b107 : sm_b 107 = cX10_over := rfl
theorem s107_0 : sm_at C X 107 0 [some (.ref a)] st N I L P = sm_at C X 107 1 [some (.ref a)] (.ref a :: st) N I L P := st_go b107 dX10_over_0 (by decide) rfl
theorem s107_1 (h : a < N) (h1 : sm_lay a = .inl 10) : sm_at C X 107 1 ls (.ref a :: st) N I L P = sm_at C X 107 4 ls (va_rf (P a 1) :: st) N I L P := st_gfR b107 dX10_over_1 rfl rfl h h1
theorem s107_4 : sm_at C X 107 4 [some (.ref a)] st N I L P = sm_at C X 107 5 [some (.ref a)] (.ref a :: st) N I L P := st_go b107 dX10_over_4 (by decide) rfl
theorem s107_5 (h : a < N) (h1 : sm_lay a = .inl 10) : sm_at C X 107 5 ls (.ref a :: st) N I L P = sm_at C X 107 8 ls (va_rf (P a 8) :: st) N I L P := st_gfR b107 dX10_over_5 rfl rfl h h1
theorem s107_8 (h : a < N) (h1 : sm_lay a = .inl 8) : sm_at C X 107 8 ls [w1, .ref a] N I L P = sm_af C X 107 11 ls [] (C 80 [.ref a, w1] N I L P) := st_virt b107 dX10_over_8 (n := 2) (rest := []) rfl rfl rfl rfl rfl rfl rfl h h1
theorem s107_11 : sm_at C X 107 11 ls [.int x0] N I L P = some (some (.int x0), N, I, L, P) := st_iret b107 dX10_over_11 rfl
theorem b108 : sm_b 108 = cX10_soonest := rfl
theorem s108_0 : sm_at C X 108 0 [l0, some (.int x0), l2] st N I L P = sm_at C X 108 1 [l0, some (.int x0), l2] (.int x0 :: st) N I L P := st_go b108 dX10_soonest_0 (by decide) rfl
theorem s108_1 : sm_at C X 108 1 ls [w0] N I L P = sm_af C X 108 4 ls [] (C 134 [w0] N I L P) := st_stat b108 dX10_soonest_1 (n := 1) (rest := []) rfl rfl rfl rfl rfl rfl
theorem s108_4 : sm_at C X 108 4 ls (.int x0 :: st) N I L P = if x0 = 0 then sm_at C X 108 14 ls st N I L P else sm_at C X 108 7 ls st N I L P := st_br b108 dX10_soonest_4 (by decide) rfl
theorem s108_7 : sm_at C X 108 7 [l0, l1, some (.int x0)] st N I L P = sm_at C X 108 8 [l0, l1, some (.int x0)] (.int x0 :: st) N I L P := st_go b108 dX10_soonest_7 (by decide) rfl
theorem s108_8 : sm_at C X 108 8 ls [w0] N I L P = sm_af C X 108 11 ls [] (C 134 [w0] N I L P) := st_stat b108 dX10_soonest_8 (n := 1) (rest := []) rfl rfl rfl rfl rfl rfl
theorem s108_11 : sm_at C X 108 11 ls (.int x0 :: st) N I L P = if ¬ x0 = 0 then sm_at C X 108 17 ls st N I L P else sm_at C X 108 14 ls st N I L P := st_br b108 dX10_soonest_11 (by decide) rfl
theorem s108_14 : sm_at C X 108 14 ls st N I L P = sm_at C X 108 16 ls (.int (-101) :: st) N I L P := st_go b108 dX10_soonest_14 (by decide) rfl
theorem s108_16 : sm_at C X 108 16 ls [.int x0] N I L P = some (some (.int x0), N, I, L, P) := st_iret b108 dX10_soonest_16 rfl
theorem s108_17 : sm_at C X 108 17 [some (.ref a), l1, l2] st N I L P = sm_at C X 108 18 [some (.ref a), l1, l2] (.ref a :: st) N I L P := st_go b108 dX10_soonest_17 (by decide) rfl
theorem s108_18 (h : a < N) (h1 : sm_lay a = .inl 10) : sm_at C X 108 18 ls (.ref a :: st) N I L P = sm_at C X 108 21 ls (va_rf (P a 2) :: st) N I L P := st_gfR b108 dX10_soonest_18 rfl rfl h h1
theorem s108_21 : sm_at C X 108 21 [some (.ref a), l1, l2] st N I L P = sm_at C X 108 22 [some (.ref a), l1, l2] (.ref a :: st) N I L P := st_go b108 dX10_soonest_21 (by decide) rfl
theorem s108_22 (h : a < N) (h1 : sm_lay a = .inl 10) : sm_at C X 108 22 ls (.ref a :: st) N I L P = sm_at C X 108 25 ls (va_rf (P a 8) :: st) N I L P := st_gfR b108 dX10_soonest_22 rfl rfl h h1
theorem s108_25 : sm_at C X 108 25 [some (.ref a), l1, l2] st N I L P = sm_at C X 108 26 [some (.ref a), l1, l2] (.ref a :: st) N I L P := st_go b108 dX10_soonest_25 (by decide) rfl
theorem s108_26 (h : a < N) (h1 : sm_lay a = .inl 10) : sm_at C X 108 26 ls (.ref a :: st) N I L P = sm_at C X 108 29 ls (va_rf (P a 7) :: st) N I L P := st_gfR b108 dX10_soonest_26 rfl rfl h h1
theorem s108_29 : sm_at C X 108 29 ls st N I L P = sm_at C X 108 30 ls (.int (nI 0) :: st) N I L P := st_go b108 dX10_soonest_29 (by decide) rfl
theorem s108_30 (h : a < N) (h1 : sm_lay a = .inl 4) : sm_at C X 108 30 ls [w3, w2, w1, .ref a] N I L P = sm_af C X 108 33 ls [] (C 41 [.ref a, w1, w2, w3] N I L P) := st_virt b108 dX10_soonest_30 (n := 4) (rest := []) rfl rfl rfl rfl rfl rfl rfl h h1
theorem s108_33 : sm_at C X 108 33 [some (.ref a), l1, l2] st N I L P = sm_at C X 108 34 [some (.ref a), l1, l2] (.ref a :: st) N I L P := st_go b108 dX10_soonest_33 (by decide) rfl
theorem s108_34 (h : a < N) (h1 : sm_lay a = .inl 10) : sm_at C X 108 34 ls (.ref a :: st) N I L P = sm_at C X 108 37 ls (va_rf (P a 2) :: st) N I L P := st_gfR b108 dX10_soonest_34 rfl rfl h h1
theorem s108_37 : sm_at C X 108 37 [l0, some (.int x0), l2] st N I L P = sm_at C X 108 38 [l0, some (.int x0), l2] (.int x0 :: st) N I L P := st_go b108 dX10_soonest_37 (by decide) rfl
theorem s108_38 : sm_at C X 108 38 [l0, l1, some (.int x0)] st N I L P = sm_at C X 108 39 [l0, l1, some (.int x0)] (.int x0 :: st) N I L P := st_go b108 dX10_soonest_38 (by decide) rfl
theorem s108_39 (h : a < N) (h1 : sm_lay a = .inl 4) : sm_at C X 108 39 ls [w2, w1, .ref a] N I L P = sm_af C X 108 42 ls [] (C 43 [.ref a, w1, w2] N I L P) := st_virt b108 dX10_soonest_39 (n := 3) (rest := []) rfl rfl rfl rfl rfl rfl rfl h h1
theorem s108_42 : sm_at C X 108 42 ls [.int x0] N I L P = some (some (.int x0), N, I, L, P) := st_iret b108 dX10_soonest_42 rfl
theorem b109 : sm_b 109 = cX10_unseen := rfl
theorem s109_0 : sm_at C X 109 0 [l0, some (.int x0), l2, l3] st N I L P = sm_at C X 109 1 [l0, some (.int x0), l2, l3] (.int x0 :: st) N I L P := st_go b109 dX10_unseen_0 (by decide) rfl
theorem s109_1 : sm_at C X 109 1 ls [w0] N I L P = sm_af C X 109 4 ls [] (C 134 [w0] N I L P) := st_stat b109 dX10_unseen_1 (n := 1) (rest := []) rfl rfl rfl rfl rfl rfl
theorem s109_4 : sm_at C X 109 4 ls (.int x0 :: st) N I L P = if x0 = 0 then sm_at C X 109 14 ls st N I L P else sm_at C X 109 7 ls st N I L P := st_br b109 dX10_unseen_4 (by decide) rfl
theorem s109_7 : sm_at C X 109 7 [l0, l1, some (.int x0), l3] st N I L P = sm_at C X 109 8 [l0, l1, some (.int x0), l3] (.int x0 :: st) N I L P := st_go b109 dX10_unseen_7 (by decide) rfl
theorem s109_8 : sm_at C X 109 8 ls [w0] N I L P = sm_af C X 109 11 ls [] (C 134 [w0] N I L P) := st_stat b109 dX10_unseen_8 (n := 1) (rest := []) rfl rfl rfl rfl rfl rfl
theorem s109_11 : sm_at C X 109 11 ls (.int x0 :: st) N I L P = if ¬ x0 = 0 then sm_at C X 109 17 ls st N I L P else sm_at C X 109 14 ls st N I L P := st_br b109 dX10_unseen_11 (by decide) rfl
theorem s109_14 : sm_at C X 109 14 ls st N I L P = sm_at C X 109 16 ls (.int (-101) :: st) N I L P := st_go b109 dX10_unseen_14 (by decide) rfl
theorem s109_16 : sm_at C X 109 16 ls [.int x0] N I L P = some (some (.int x0), N, I, L, P) := st_iret b109 dX10_unseen_16 rfl
theorem s109_17 : sm_at C X 109 17 [l0, l1, l2, some (.int x0)] st N I L P = sm_at C X 109 18 [l0, l1, l2, some (.int x0)] (.int x0 :: st) N I L P := st_go b109 dX10_unseen_17 (by decide) rfl
theorem s109_18 : sm_at C X 109 18 ls st N I L P = sm_at C X 109 20 ls (.int (nI 10) :: st) N I L P := st_go b109 dX10_unseen_18 (by decide) rfl
theorem s109_20 : sm_at C X 109 20 ls [w1, w0] N I L P = sm_af C X 109 23 ls [] (C 138 [w0, w1] N I L P) := st_stat b109 dX10_unseen_20 (n := 2) (rest := []) rfl rfl rfl rfl rfl rfl
theorem s109_23 : sm_at C X 109 23 ls (.int x0 :: st) N I L P = if ¬ x0 = 0 then sm_at C X 109 29 ls st N I L P else sm_at C X 109 26 ls st N I L P := st_br b109 dX10_unseen_23 (by decide) rfl
theorem s109_26 : sm_at C X 109 26 ls st N I L P = sm_at C X 109 28 ls (.int (-102) :: st) N I L P := st_go b109 dX10_unseen_26 (by decide) rfl
theorem s109_28 : sm_at C X 109 28 ls [.int x0] N I L P = some (some (.int x0), N, I, L, P) := st_iret b109 dX10_unseen_28 rfl
theorem s109_29 : sm_at C X 109 29 [some (.ref a), l1, l2, l3] st N I L P = sm_at C X 109 30 [some (.ref a), l1, l2, l3] (.ref a :: st) N I L P := st_go b109 dX10_unseen_29 (by decide) rfl
theorem s109_30 (h : a < N) (h1 : sm_lay a = .inl 10) : sm_at C X 109 30 ls (.ref a :: st) N I L P = sm_at C X 109 33 ls (va_rf (P a 2) :: st) N I L P := st_gfR b109 dX10_unseen_30 rfl rfl h h1
theorem s109_33 : sm_at C X 109 33 [some (.ref a), l1, l2, l3] st N I L P = sm_at C X 109 34 [some (.ref a), l1, l2, l3] (.ref a :: st) N I L P := st_go b109 dX10_unseen_33 (by decide) rfl
theorem s109_34 (h : a < N) (h1 : sm_lay a = .inl 10) : sm_at C X 109 34 ls (.ref a :: st) N I L P = sm_at C X 109 37 ls (va_rf (P a 8) :: st) N I L P := st_gfR b109 dX10_unseen_34 rfl rfl h h1
theorem s109_37 : sm_at C X 109 37 [some (.ref a), l1, l2, l3] st N I L P = sm_at C X 109 38 [some (.ref a), l1, l2, l3] (.ref a :: st) N I L P := st_go b109 dX10_unseen_37 (by decide) rfl
theorem s109_38 (h : a < N) (h1 : sm_lay a = .inl 10) : sm_at C X 109 38 ls (.ref a :: st) N I L P = sm_at C X 109 41 ls (va_rf (P a 7) :: st) N I L P := st_gfR b109 dX10_unseen_38 rfl rfl h h1
theorem s109_41 : sm_at C X 109 41 [l0, l1, l2, some (.int x0)] st N I L P = sm_at C X 109 42 [l0, l1, l2, some (.int x0)] (.int x0 :: st) N I L P := st_go b109 dX10_unseen_41 (by decide) rfl
theorem s109_42 (h : a < N) (h1 : sm_lay a = .inl 4) : sm_at C X 109 42 ls [w3, w2, w1, .ref a] N I L P = sm_af C X 109 45 ls [] (C 41 [.ref a, w1, w2, w3] N I L P) := st_virt b109 dX10_unseen_42 (n := 4) (rest := []) rfl rfl rfl rfl rfl rfl rfl h h1
theorem s109_45 : sm_at C X 109 45 [some (.ref a), l1, l2, l3] st N I L P = sm_at C X 109 46 [some (.ref a), l1, l2, l3] (.ref a :: st) N I L P := st_go b109 dX10_unseen_45 (by decide) rfl
theorem s109_46 (h : a < N) (h1 : sm_lay a = .inl 10) : sm_at C X 109 46 ls (.ref a :: st) N I L P = sm_at C X 109 49 ls (va_rf (P a 2) :: st) N I L P := st_gfR b109 dX10_unseen_46 rfl rfl h h1
theorem s109_49 : sm_at C X 109 49 [l0, some (.int x0), l2, l3] st N I L P = sm_at C X 109 50 [l0, some (.int x0), l2, l3] (.int x0 :: st) N I L P := st_go b109 dX10_unseen_49 (by decide) rfl
theorem s109_50 : sm_at C X 109 50 [l0, l1, some (.int x0), l3] st N I L P = sm_at C X 109 51 [l0, l1, some (.int x0), l3] (.int x0 :: st) N I L P := st_go b109 dX10_unseen_50 (by decide) rfl
theorem s109_51 (h : a < N) (h1 : sm_lay a = .inl 4) : sm_at C X 109 51 ls [w2, w1, .ref a] N I L P = sm_af C X 109 54 ls [] (C 43 [.ref a, w1, w2] N I L P) := st_virt b109 dX10_unseen_51 (n := 3) (rest := []) rfl rfl rfl rfl rfl rfl rfl h h1
theorem s109_54 : sm_at C X 109 54 ls [.int x0] N I L P = some (some (.int x0), N, I, L, P) := st_iret b109 dX10_unseen_54 rfl
theorem b110 : sm_b 110 = cX10_kept := rfl
theorem s110_0 : sm_at C X 110 0 [l0, some (.int x0), l2, l3] st N I L P = sm_at C X 110 1 [l0, some (.int x0), l2, l3] (.int x0 :: st) N I L P := st_go b110 dX10_kept_0 (by decide) rfl
theorem s110_1 : sm_at C X 110 1 ls st N I L P = sm_at C X 110 2 ls (.int (nI 0) :: st) N I L P := st_go b110 dX10_kept_1 (by decide) rfl
theorem s110_2 : sm_at C X 110 2 ls st N I L P = sm_at C X 110 5 ls (.int (nI 999) :: st) N I L P := st_go b110 dX10_kept_2 (by decide) rfl
theorem s110_5 : sm_at C X 110 5 ls [w2, w1, w0] N I L P = sm_af C X 110 8 ls [] (C 132 [w0, w1, w2] N I L P) := st_stat b110 dX10_kept_5 (n := 3) (rest := []) rfl rfl rfl rfl rfl rfl
theorem s110_8 : sm_at C X 110 8 ls (.int x0 :: st) N I L P = if x0 = 0 then sm_at C X 110 20 ls st N I L P else sm_at C X 110 11 ls st N I L P := st_br b110 dX10_kept_8 (by decide) rfl
theorem s110_11 : sm_at C X 110 11 [l0, l1, some (.int x0), l3] st N I L P = sm_at C X 110 12 [l0, l1, some (.int x0), l3] (.int x0 :: st) N I L P := st_go b110 dX10_kept_11 (by decide) rfl
theorem s110_12 : sm_at C X 110 12 ls st N I L P = sm_at C X 110 13 ls (.int (nI 0) :: st) N I L P := st_go b110 dX10_kept_12 (by decide) rfl
theorem s110_13 : sm_at C X 110 13 ls st N I L P = sm_at C X 110 14 ls (.int (nI 4) :: st) N I L P := st_go b110 dX10_kept_13 (by decide) rfl
theorem s110_14 : sm_at C X 110 14 ls [w2, w1, w0] N I L P = sm_af C X 110 17 ls [] (C 132 [w0, w1, w2] N I L P) := st_stat b110 dX10_kept_14 (n := 3) (rest := []) rfl rfl rfl rfl rfl rfl
theorem s110_17 : sm_at C X 110 17 ls (.int x0 :: st) N I L P = if ¬ x0 = 0 then sm_at C X 110 23 ls st N I L P else sm_at C X 110 20 ls st N I L P := st_br b110 dX10_kept_17 (by decide) rfl
theorem s110_20 : sm_at C X 110 20 ls st N I L P = sm_at C X 110 22 ls (.int (-102) :: st) N I L P := st_go b110 dX10_kept_20 (by decide) rfl
theorem s110_22 : sm_at C X 110 22 ls [.int x0] N I L P = some (some (.int x0), N, I, L, P) := st_iret b110 dX10_kept_22 rfl
theorem s110_23 : sm_at C X 110 23 [some (.ref a), l1, l2, l3] st N I L P = sm_at C X 110 24 [some (.ref a), l1, l2, l3] (.ref a :: st) N I L P := st_go b110 dX10_kept_23 (by decide) rfl
theorem s110_24 (h : a < N) (h1 : sm_lay a = .inl 10) : sm_at C X 110 24 ls (.ref a :: st) N I L P = sm_at C X 110 27 ls (.int (I a 11) :: st) N I L P := st_gfI b110 dX10_kept_24 rfl rfl h h1
theorem s110_27 : sm_at C X 110 27 ls st N I L P = sm_at C X 110 29 ls (.int (nI 20) :: st) N I L P := st_go b110 dX10_kept_27 (by decide) rfl
theorem s110_29 : sm_at C X 110 29 ls (.int x0 :: .int x1 :: st) N I L P = if x1 < x0 then sm_at C X 110 35 ls st N I L P else sm_at C X 110 32 ls st N I L P := st_br b110 dX10_kept_29 (by decide) rfl
theorem s110_32 : sm_at C X 110 32 ls st N I L P = sm_at C X 110 34 ls (.int (-103) :: st) N I L P := st_go b110 dX10_kept_32 (by decide) rfl
theorem s110_34 : sm_at C X 110 34 ls [.int x0] N I L P = some (some (.int x0), N, I, L, P) := st_iret b110 dX10_kept_34 rfl
theorem s110_35 : sm_at C X 110 35 [some (.ref a), l1, l2, l3] st N I L P = sm_at C X 110 36 [some (.ref a), l1, l2, l3] (.ref a :: st) N I L P := st_go b110 dX10_kept_35 (by decide) rfl
theorem s110_36 : sm_at C X 110 36 ls (.ref a :: st) N I L P = sm_at C X 110 37 ls (.ref a :: .ref a :: st) N I L P := st_go b110 dX10_kept_36 (by decide) rfl
theorem s110_37 (h : a < N) (h1 : sm_lay a = .inl 10) : sm_at C X 110 37 ls (.ref a :: st) N I L P = sm_at C X 110 40 ls (.int (I a 11) :: st) N I L P := st_gfI b110 dX10_kept_37 rfl rfl h h1
theorem s110_40 : sm_at C X 110 40 ls st N I L P = sm_at C X 110 41 ls (.int (nI 1) :: st) N I L P := st_go b110 dX10_kept_40 (by decide) rfl
theorem s110_41 : sm_at C X 110 41 ls (.int x0 :: .int x1 :: st) N I L P = sm_at C X 110 42 ls (.int (x1 + x0) :: st) N I L P := st_go b110 dX10_kept_41 (by decide) rfl
theorem s110_42 (h : a < N) (h1 : sm_lay a = .inl 10) : sm_at C X 110 42 ls (.int x0 :: .ref a :: st) N I L P = sm_at C X 110 45 ls st N (sm_up I a 11 x0) L P := st_pfI b110 dX10_kept_42 rfl rfl rfl h h1
theorem s110_45 : sm_at C X 110 45 [some (.ref a), l1, l2, l3] st N I L P = sm_at C X 110 46 [some (.ref a), l1, l2, l3] (.ref a :: st) N I L P := st_go b110 dX10_kept_45 (by decide) rfl
theorem s110_46 (h : a < N) (h1 : sm_lay a = .inl 10) : sm_at C X 110 46 ls (.ref a :: st) N I L P = sm_at C X 110 49 ls (va_rf (P a 2) :: st) N I L P := st_gfR b110 dX10_kept_46 rfl rfl h h1
theorem s110_49 : sm_at C X 110 49 [some (.ref a), l1, l2, l3] st N I L P = sm_at C X 110 50 [some (.ref a), l1, l2, l3] (.ref a :: st) N I L P := st_go b110 dX10_kept_49 (by decide) rfl
theorem s110_50 (h : a < N) (h1 : sm_lay a = .inl 10) : sm_at C X 110 50 ls (.ref a :: st) N I L P = sm_at C X 110 53 ls (va_rf (P a 8) :: st) N I L P := st_gfR b110 dX10_kept_50 rfl rfl h h1
theorem s110_53 : sm_at C X 110 53 [some (.ref a), l1, l2, l3] st N I L P = sm_at C X 110 54 [some (.ref a), l1, l2, l3] (.ref a :: st) N I L P := st_go b110 dX10_kept_53 (by decide) rfl
theorem s110_54 (h : a < N) (h1 : sm_lay a = .inl 10) : sm_at C X 110 54 ls (.ref a :: st) N I L P = sm_at C X 110 57 ls (va_rf (P a 7) :: st) N I L P := st_gfR b110 dX10_kept_54 rfl rfl h h1
theorem s110_57 : sm_at C X 110 57 ls st N I L P = sm_at C X 110 58 ls (.int (nI 0) :: st) N I L P := st_go b110 dX10_kept_57 (by decide) rfl
theorem s110_58 (h : a < N) (h1 : sm_lay a = .inl 4) : sm_at C X 110 58 ls [w3, w2, w1, .ref a] N I L P = sm_af C X 110 61 ls [] (C 41 [.ref a, w1, w2, w3] N I L P) := st_virt b110 dX10_kept_58 (n := 4) (rest := []) rfl rfl rfl rfl rfl rfl rfl h h1
theorem s110_61 : sm_at C X 110 61 [some (.ref a), l1, l2, l3] st N I L P = sm_at C X 110 62 [some (.ref a), l1, l2, l3] (.ref a :: st) N I L P := st_go b110 dX10_kept_61 (by decide) rfl
theorem s110_62 (h : a < N) (h1 : sm_lay a = .inl 10) : sm_at C X 110 62 ls (.ref a :: st) N I L P = sm_at C X 110 65 ls (va_rf (P a 2) :: st) N I L P := st_gfR b110 dX10_kept_62 rfl rfl h h1
theorem s110_65 : sm_at C X 110 65 [l0, some (.int x0), l2, l3] st N I L P = sm_at C X 110 66 [l0, some (.int x0), l2, l3] (.int x0 :: st) N I L P := st_go b110 dX10_kept_65 (by decide) rfl
theorem s110_66 (h : a < N) (h1 : sm_lay a = .inl 4) : sm_at C X 110 66 ls [w1, .ref a] N I L P = sm_af C X 110 69 ls [] (C 45 [.ref a, w1] N I L P) := st_virt b110 dX10_kept_66 (n := 2) (rest := []) rfl rfl rfl rfl rfl rfl rfl h h1
theorem s110_69 : sm_at C X 110 69 [l0, l1, l2, l3] (.int x0 :: st) N I L P = sm_at C X 110 70 [l0, l1, sm_cl l2, some (.int x0)] st N I L P := st_go b110 dX10_kept_69 (by decide) rfl
theorem s110_70 : sm_at C X 110 70 [l0, l1, some (.int x0), l3] st N I L P = sm_at C X 110 71 [l0, l1, some (.int x0), l3] (.int x0 :: st) N I L P := st_go b110 dX10_kept_70 (by decide) rfl
theorem s110_71 : sm_at C X 110 71 ls (.int x0 :: st) N I L P = if ¬ x0 = 0 then sm_at C X 110 78 ls st N I L P else sm_at C X 110 74 ls st N I L P := st_br b110 dX10_kept_71 (by decide) rfl
theorem s110_74 : sm_at C X 110 74 [l0, l1, l2, some (.int x0)] st N I L P = sm_at C X 110 75 [l0, l1, l2, some (.int x0)] (.int x0 :: st) N I L P := st_go b110 dX10_kept_74 (by decide) rfl
theorem s110_75 : sm_at C X 110 75 ls st N I L P = sm_at C X 110 88 ls st N I L P := st_go b110 dX10_kept_75 (by decide) rfl
theorem s110_78 : sm_at C X 110 78 [some (.ref a), l1, l2, l3] st N I L P = sm_at C X 110 79 [some (.ref a), l1, l2, l3] (.ref a :: st) N I L P := st_go b110 dX10_kept_78 (by decide) rfl
theorem s110_79 (h : a < N) (h1 : sm_lay a = .inl 10) : sm_at C X 110 79 ls (.ref a :: st) N I L P = sm_at C X 110 82 ls (va_rf (P a 2) :: st) N I L P := st_gfR b110 dX10_kept_79 rfl rfl h h1
theorem s110_82 : sm_at C X 110 82 [l0, l1, some (.int x0), l3] st N I L P = sm_at C X 110 83 [l0, l1, some (.int x0), l3] (.int x0 :: st) N I L P := st_go b110 dX10_kept_82 (by decide) rfl
theorem s110_83 : sm_at C X 110 83 ls st N I L P = sm_at C X 110 84 ls (.int (nI 1) :: st) N I L P := st_go b110 dX10_kept_83 (by decide) rfl
theorem s110_84 : sm_at C X 110 84 ls (.int x0 :: .int x1 :: st) N I L P = sm_at C X 110 85 ls (.int (x1 - x0) :: st) N I L P := st_go b110 dX10_kept_84 (by decide) rfl
theorem s110_85 (h : a < N) (h1 : sm_lay a = .inl 4) : sm_at C X 110 85 ls [w1, .ref a] N I L P = sm_af C X 110 88 ls [] (C 44 [.ref a, w1] N I L P) := st_virt b110 dX10_kept_85 (n := 2) (rest := []) rfl rfl rfl rfl rfl rfl rfl h h1
theorem s110_88 : sm_at C X 110 88 ls [.int x0] N I L P = some (some (.int x0), N, I, L, P) := st_iret b110 dX10_kept_88 rfl
theorem b111 : sm_b 111 = cX10_words := rfl
theorem s111_0 : sm_at C X 111 0 [l0, some (.int x0), l2, l3] st N I L P = sm_at C X 111 1 [l0, some (.int x0), l2, l3] (.int x0 :: st) N I L P := st_go b111 dX10_words_0 (by decide) rfl
theorem s111_1 : sm_at C X 111 1 ls st N I L P = sm_at C X 111 2 ls (.int (nI 1) :: st) N I L P := st_go b111 dX10_words_1 (by decide) rfl
theorem s111_2 : sm_at C X 111 2 ls st N I L P = sm_at C X 111 4 ls (.int (nI 8) :: st) N I L P := st_go b111 dX10_words_2 (by decide) rfl
theorem s111_4 : sm_at C X 111 4 ls [w2, w1, w0] N I L P = sm_af C X 111 7 ls [] (C 132 [w0, w1, w2] N I L P) := st_stat b111 dX10_words_4 (n := 3) (rest := []) rfl rfl rfl rfl rfl rfl
theorem s111_7 : sm_at C X 111 7 ls (.int x0 :: st) N I L P = if x0 = 0 then sm_at C X 111 18 ls st N I L P else sm_at C X 111 10 ls st N I L P := st_br b111 dX10_words_7 (by decide) rfl
theorem s111_10 : sm_at C X 111 10 [l0, l1, some (.int x0), l3] st N I L P = sm_at C X 111 11 [l0, l1, some (.int x0), l3] (.int x0 :: st) N I L P := st_go b111 dX10_words_10 (by decide) rfl
theorem s111_11 : sm_at C X 111 11 [l0, l1, l2, some (.int x0)] st N I L P = sm_at C X 111 12 [l0, l1, l2, some (.int x0)] (.int x0 :: st) N I L P := st_go b111 dX10_words_11 (by decide) rfl
theorem s111_12 : sm_at C X 111 12 ls [w1, w0] N I L P = sm_af C X 111 15 ls [] (C 139 [w0, w1] N I L P) := st_stat b111 dX10_words_12 (n := 2) (rest := []) rfl rfl rfl rfl rfl rfl
theorem s111_15 : sm_at C X 111 15 ls (.int x0 :: st) N I L P = if ¬ x0 = 0 then sm_at C X 111 21 ls st N I L P else sm_at C X 111 18 ls st N I L P := st_br b111 dX10_words_15 (by decide) rfl
theorem s111_18 : sm_at C X 111 18 ls st N I L P = sm_at C X 111 20 ls (.int (-102) :: st) N I L P := st_go b111 dX10_words_18 (by decide) rfl
theorem s111_20 : sm_at C X 111 20 ls [.int x0] N I L P = some (some (.int x0), N, I, L, P) := st_iret b111 dX10_words_20 rfl
theorem s111_21 : sm_at C X 111 21 [l0, some (.int x0), l2, l3] st N I L P = sm_at C X 111 22 [l0, some (.int x0), l2, l3] (.int x0 :: st) N I L P := st_go b111 dX10_words_21 (by decide) rfl
theorem s111_22 : sm_at C X 111 22 [l0, l1, some (.int x0), l3] st N I L P = sm_at C X 111 23 [l0, l1, some (.int x0), l3] (.int x0 :: st) N I L P := st_go b111 dX10_words_22 (by decide) rfl
theorem s111_23 : sm_at C X 111 23 [l0, l1, l2, some (.int x0)] st N I L P = sm_at C X 111 24 [l0, l1, l2, some (.int x0)] (.int x0 :: st) N I L P := st_go b111 dX10_words_23 (by decide) rfl
theorem s111_24 : sm_at C X 111 24 ls [w2, w1, w0] N I L P = sm_af C X 111 27 ls [] (C 141 [w0, w1, w2] N I L P) := st_stat b111 dX10_words_24 (n := 3) (rest := []) rfl rfl rfl rfl rfl rfl
theorem s111_27 : sm_at C X 111 27 ls [.int x0] N I L P = some (some (.int x0), N, I, L, P) := st_iret b111 dX10_words_27 rfl
theorem b112 : sm_b 112 = cX10_least := rfl
theorem s112_0 : sm_at C X 112 0 [l0, some (.int x0), l2, l3, l4] st N I L P = sm_at C X 112 1 [l0, some (.int x0), l2, l3, l4] (.int x0 :: st) N I L P := st_go b112 dX10_least_0 (by decide) rfl
theorem s112_1 : sm_at C X 112 1 ls st N I L P = sm_at C X 112 2 ls (.int (nI 1) :: st) N I L P := st_go b112 dX10_least_1 (by decide) rfl
theorem s112_2 : sm_at C X 112 2 ls st N I L P = sm_at C X 112 4 ls (.int (nI 99999) :: st) N I L P := st_go b112 dX10_least_2 (by decide) rfl
theorem s112_4 : sm_at C X 112 4 ls [w2, w1, w0] N I L P = sm_af C X 112 7 ls [] (C 132 [w0, w1, w2] N I L P) := st_stat b112 dX10_least_4 (n := 3) (rest := []) rfl rfl rfl rfl rfl rfl
theorem s112_7 : sm_at C X 112 7 ls (.int x0 :: st) N I L P = if x0 = 0 then sm_at C X 112 18 ls st N I L P else sm_at C X 112 10 ls st N I L P := st_br b112 dX10_least_7 (by decide) rfl
theorem s112_10 : sm_at C X 112 10 [l0, l1, some (.int x0), l3, l4] st N I L P = sm_at C X 112 11 [l0, l1, some (.int x0), l3, l4] (.int x0 :: st) N I L P := st_go b112 dX10_least_10 (by decide) rfl
theorem s112_11 : sm_at C X 112 11 [l0, l1, l2, some (.int x0), l4] st N I L P = sm_at C X 112 12 [l0, l1, l2, some (.int x0), l4] (.int x0 :: st) N I L P := st_go b112 dX10_least_11 (by decide) rfl
theorem s112_12 : sm_at C X 112 12 ls [w1, w0] N I L P = sm_af C X 112 15 ls [] (C 139 [w0, w1] N I L P) := st_stat b112 dX10_least_12 (n := 2) (rest := []) rfl rfl rfl rfl rfl rfl
theorem s112_15 : sm_at C X 112 15 ls (.int x0 :: st) N I L P = if ¬ x0 = 0 then sm_at C X 112 21 ls st N I L P else sm_at C X 112 18 ls st N I L P := st_br b112 dX10_least_15 (by decide) rfl
theorem s112_18 : sm_at C X 112 18 ls st N I L P = sm_at C X 112 20 ls (.int (-102) :: st) N I L P := st_go b112 dX10_least_18 (by decide) rfl
theorem s112_20 : sm_at C X 112 20 ls [.int x0] N I L P = some (some (.int x0), N, I, L, P) := st_iret b112 dX10_least_20 rfl
theorem s112_21 : sm_at C X 112 21 ls st N I L P = sm_at C X 112 22 ls (.int (nI 1) :: st) N I L P := st_go b112 dX10_least_21 (by decide) rfl
theorem s112_22 : sm_at C X 112 22 [l0, l1, l2, l3, l4] (.int x0 :: st) N I L P = sm_at C X 112 24 [l0, l1, l2, sm_cl l3, some (.int x0)] st N I L P := st_go b112 dX10_least_22 (by decide) rfl
theorem s112_24 : sm_at C X 112 24 [l0, l1, l2, l3, some (.int x0)] st N I L P = sm_at C X 112 26 [l0, l1, l2, l3, some (.int x0)] (.int x0 :: st) N I L P := st_go b112 dX10_least_24 (by decide) rfl
theorem s112_26 : sm_at C X 112 26 ls st N I L P = sm_at C X 112 28 ls (.int (nI 8) :: st) N I L P := st_go b112 dX10_least_26 (by decide) rfl
theorem s112_28 : sm_at C X 112 28 ls (.int x0 :: .int x1 :: st) N I L P = if x0 < x1 then sm_at C X 112 51 ls st N I L P else sm_at C X 112 31 ls st N I L P := st_br b112 dX10_least_28 (by decide) rfl
theorem s112_31 : sm_at C X 112 31 [l0, l1, l2, l3, some (.int x0)] st N I L P = sm_at C X 112 33 [l0, l1, l2, l3, some (.int x0)] (.int x0 :: st) N I L P := st_go b112 dX10_least_31 (by decide) rfl
theorem s112_33 : sm_at C X 112 33 [l0, l1, some (.int x0), l3, l4] st N I L P = sm_at C X 112 34 [l0, l1, some (.int x0), l3, l4] (.int x0 :: st) N I L P := st_go b112 dX10_least_33 (by decide) rfl
theorem s112_34 : sm_at C X 112 34 [l0, l1, l2, some (.int x0), l4] st N I L P = sm_at C X 112 35 [l0, l1, l2, some (.int x0), l4] (.int x0 :: st) N I L P := st_go b112 dX10_least_34 (by decide) rfl
theorem s112_35 : sm_at C X 112 35 ls [w2, w1, w0] N I L P = sm_af C X 112 38 ls [] (C 141 [w0, w1, w2] N I L P) := st_stat b112 dX10_least_35 (n := 3) (rest := []) rfl rfl rfl rfl rfl rfl
theorem s112_38 : sm_at C X 112 38 [l0, some (.int x0), l2, l3, l4] st N I L P = sm_at C X 112 39 [l0, some (.int x0), l2, l3, l4] (.int x0 :: st) N I L P := st_go b112 dX10_least_38 (by decide) rfl
theorem s112_39 : sm_at C X 112 39 ls (.int x0 :: .int x1 :: st) N I L P = if x1 < x0 then sm_at C X 112 45 ls st N I L P else sm_at C X 112 42 ls st N I L P := st_br b112 dX10_least_39 (by decide) rfl
theorem s112_42 : sm_at C X 112 42 [l0, l1, l2, l3, some (.int x0)] st N I L P = sm_at C X 112 44 [l0, l1, l2, l3, some (.int x0)] (.int x0 :: st) N I L P := st_go b112 dX10_least_42 (by decide) rfl
theorem s112_44 : sm_at C X 112 44 ls [.int x0] N I L P = some (some (.int x0), N, I, L, P) := st_iret b112 dX10_least_44 rfl
theorem s112_45 : sm_at C X 112 45 [l0, l1, l2, l3, some (.int x0)] st N I L P = sm_at C X 112 48 [l0, l1, l2, sm_cl l3, some (.int (x0 + (nI 1)))] st N I L P := st_go b112 dX10_least_45 (by decide) rfl
theorem s112_48 : sm_at C X 112 48 ls st N I L P = sm_at C X 112 24 ls st N I L P := st_go b112 dX10_least_48 (by decide) rfl
theorem s112_51 : sm_at C X 112 51 ls st N I L P = sm_at C X 112 52 ls (.int (-1) :: st) N I L P := st_go b112 dX10_least_51 (by decide) rfl
theorem s112_52 : sm_at C X 112 52 ls [.int x0] N I L P = some (some (.int x0), N, I, L, P) := st_iret b112 dX10_least_52 rfl
theorem b113 : sm_b 113 = cX10_missed := rfl
theorem s113_0 : sm_at C X 113 0 [l0, some (.int x0), l2, l3] st N I L P = sm_at C X 113 1 [l0, some (.int x0), l2, l3] (.int x0 :: st) N I L P := st_go b113 dX10_missed_0 (by decide) rfl
theorem s113_1 : sm_at C X 113 1 ls st N I L P = sm_at C X 113 2 ls (.int (nI 1) :: st) N I L P := st_go b113 dX10_missed_1 (by decide) rfl
theorem s113_2 : sm_at C X 113 2 ls st N I L P = sm_at C X 113 3 ls (.int (nI 4) :: st) N I L P := st_go b113 dX10_missed_2 (by decide) rfl
theorem s113_3 : sm_at C X 113 3 ls [w2, w1, w0] N I L P = sm_af C X 113 6 ls [] (C 132 [w0, w1, w2] N I L P) := st_stat b113 dX10_missed_3 (n := 3) (rest := []) rfl rfl rfl rfl rfl rfl
theorem s113_6 : sm_at C X 113 6 ls (.int x0 :: st) N I L P = if x0 = 0 then sm_at C X 113 27 ls st N I L P else sm_at C X 113 9 ls st N I L P := st_br b113 dX10_missed_6 (by decide) rfl
theorem s113_9 : sm_at C X 113 9 [l0, l1, some (.int x0), l3] st N I L P = sm_at C X 113 10 [l0, l1, some (.int x0), l3] (.int x0 :: st) N I L P := st_go b113 dX10_missed_9 (by decide) rfl
theorem s113_10 : sm_at C X 113 10 ls st N I L P = sm_at C X 113 11 ls (.int (nI 0) :: st) N I L P := st_go b113 dX10_missed_10 (by decide) rfl
theorem s113_11 : sm_at C X 113 11 ls st N I L P = sm_at C X 113 12 ls (.int (nI 4) :: st) N I L P := st_go b113 dX10_missed_11 (by decide) rfl
theorem s113_12 : sm_at C X 113 12 ls [w2, w1, w0] N I L P = sm_af C X 113 15 ls [] (C 132 [w0, w1, w2] N I L P) := st_stat b113 dX10_missed_12 (n := 3) (rest := []) rfl rfl rfl rfl rfl rfl
theorem s113_15 : sm_at C X 113 15 ls (.int x0 :: st) N I L P = if x0 = 0 then sm_at C X 113 27 ls st N I L P else sm_at C X 113 18 ls st N I L P := st_br b113 dX10_missed_15 (by decide) rfl
theorem s113_18 : sm_at C X 113 18 [l0, l1, l2, some (.int x0)] st N I L P = sm_at C X 113 19 [l0, l1, l2, some (.int x0)] (.int x0 :: st) N I L P := st_go b113 dX10_missed_18 (by decide) rfl
theorem s113_19 : sm_at C X 113 19 ls st N I L P = sm_at C X 113 20 ls (.int (nI 0) :: st) N I L P := st_go b113 dX10_missed_19 (by decide) rfl
theorem s113_20 : sm_at C X 113 20 ls st N I L P = sm_at C X 113 21 ls (.int (nI 1) :: st) N I L P := st_go b113 dX10_missed_20 (by decide) rfl
theorem s113_21 : sm_at C X 113 21 ls [w2, w1, w0] N I L P = sm_af C X 113 24 ls [] (C 132 [w0, w1, w2] N I L P) := st_stat b113 dX10_missed_21 (n := 3) (rest := []) rfl rfl rfl rfl rfl rfl
theorem s113_24 : sm_at C X 113 24 ls (.int x0 :: st) N I L P = if ¬ x0 = 0 then sm_at C X 113 30 ls st N I L P else sm_at C X 113 27 ls st N I L P := st_br b113 dX10_missed_24 (by decide) rfl
theorem s113_27 : sm_at C X 113 27 ls st N I L P = sm_at C X 113 29 ls (.int (-102) :: st) N I L P := st_go b113 dX10_missed_27 (by decide) rfl
theorem s113_29 : sm_at C X 113 29 ls [.int x0] N I L P = some (some (.int x0), N, I, L, P) := st_iret b113 dX10_missed_29 rfl
theorem s113_30 : sm_at C X 113 30 [some (.ref a), l1, l2, l3] st N I L P = sm_at C X 113 31 [some (.ref a), l1, l2, l3] (.ref a :: st) N I L P := st_go b113 dX10_missed_30 (by decide) rfl
theorem s113_31 (h : a < N) (h1 : sm_lay a = .inl 10) : sm_at C X 113 31 ls (.ref a :: st) N I L P = sm_at C X 113 34 ls (va_rf (P a 5) :: st) N I L P := st_gfR b113 dX10_missed_31 rfl rfl h h1
theorem s113_34 : sm_at C X 113 34 [l0, some (.int x0), l2, l3] st N I L P = sm_at C X 113 35 [l0, some (.int x0), l2, l3] (.int x0 :: st) N I L P := st_go b113 dX10_missed_34 (by decide) rfl
theorem s113_35 : sm_at C X 113 35 [l0, l1, some (.int x0), l3] st N I L P = sm_at C X 113 36 [l0, l1, some (.int x0), l3] (.int x0 :: st) N I L P := st_go b113 dX10_missed_35 (by decide) rfl
theorem s113_36 (h : a < N) (h1 : sm_lay a = .inl 7) : sm_at C X 113 36 ls [w2, w1, .ref a] N I L P = sm_af C X 113 39 ls [] (C 70 [.ref a, w1, w2] N I L P) := st_virt b113 dX10_missed_36 (n := 3) (rest := []) rfl rfl rfl rfl rfl rfl rfl h h1
theorem s113_39 : sm_at C X 113 39 [l0, l1, l2, some (.int x0)] st N I L P = sm_at C X 113 40 [l0, l1, l2, some (.int x0)] (.int x0 :: st) N I L P := st_go b113 dX10_missed_39 (by decide) rfl
theorem s113_40 : sm_at C X 113 40 ls (.int x0 :: st) N I L P = if ¬ x0 = 0 then sm_at C X 113 53 ls st N I L P else sm_at C X 113 43 ls st N I L P := st_br b113 dX10_missed_40 (by decide) rfl
theorem s113_43 : sm_at C X 113 43 [some (.ref a), l1, l2, l3] st N I L P = sm_at C X 113 44 [some (.ref a), l1, l2, l3] (.ref a :: st) N I L P := st_go b113 dX10_missed_43 (by decide) rfl
theorem s113_44 (h : a < N) (h1 : sm_lay a = .inl 10) : sm_at C X 113 44 ls (.ref a :: st) N I L P = sm_at C X 113 47 ls (va_rf (P a 5) :: st) N I L P := st_gfR b113 dX10_missed_44 rfl rfl h h1
theorem s113_47 (h : a < N) (h1 : sm_lay a = .inl 7) : sm_at C X 113 47 ls [.ref a] N I L P = sm_af C X 113 50 ls [] (C 68 [.ref a] N I L P) := st_virt b113 dX10_missed_47 (n := 1) (rest := []) rfl rfl rfl rfl rfl rfl rfl h h1
theorem s113_50 : sm_at C X 113 50 ls st N I L P = sm_at C X 113 60 ls st N I L P := st_go b113 dX10_missed_50 (by decide) rfl
theorem s113_53 : sm_at C X 113 53 [some (.ref a), l1, l2, l3] st N I L P = sm_at C X 113 54 [some (.ref a), l1, l2, l3] (.ref a :: st) N I L P := st_go b113 dX10_missed_53 (by decide) rfl
theorem s113_54 (h : a < N) (h1 : sm_lay a = .inl 10) : sm_at C X 113 54 ls (.ref a :: st) N I L P = sm_at C X 113 57 ls (va_rf (P a 5) :: st) N I L P := st_gfR b113 dX10_missed_54 rfl rfl h h1
theorem s113_57 (h : a < N) (h1 : sm_lay a = .inl 7) : sm_at C X 113 57 ls [.ref a] N I L P = sm_af C X 113 60 ls [] (C 69 [.ref a] N I L P) := st_virt b113 dX10_missed_57 (n := 1) (rest := []) rfl rfl rfl rfl rfl rfl rfl h h1
theorem s113_60 : sm_at C X 113 60 ls [.int x0] N I L P = some (some (.int x0), N, I, L, P) := st_iret b113 dX10_missed_60 rfl
theorem b114 : sm_b 114 = cX10_book := rfl
theorem s114_0 : sm_at C X 114 0 [l0, some (.int x0)] st N I L P = sm_at C X 114 1 [l0, some (.int x0)] (.int x0 :: st) N I L P := st_go b114 dX10_book_0 (by decide) rfl
theorem s114_1 : sm_at C X 114 1 ls st N I L P = sm_at C X 114 3 ls (.int (nI 8) :: st) N I L P := st_go b114 dX10_book_1 (by decide) rfl
theorem s114_3 : sm_at C X 114 3 ls [w1, w0] N I L P = sm_af C X 114 6 ls [] (C 138 [w0, w1] N I L P) := st_stat b114 dX10_book_3 (n := 2) (rest := []) rfl rfl rfl rfl rfl rfl
theorem s114_6 : sm_at C X 114 6 ls (.int x0 :: st) N I L P = if ¬ x0 = 0 then sm_at C X 114 12 ls st N I L P else sm_at C X 114 9 ls st N I L P := st_br b114 dX10_book_6 (by decide) rfl
theorem s114_9 : sm_at C X 114 9 ls st N I L P = sm_at C X 114 11 ls (.int (-102) :: st) N I L P := st_go b114 dX10_book_9 (by decide) rfl
theorem s114_11 : sm_at C X 114 11 ls [.int x0] N I L P = some (some (.int x0), N, I, L, P) := st_iret b114 dX10_book_11 rfl
theorem s114_12 : sm_at C X 114 12 [some (.ref a), l1] st N I L P = sm_at C X 114 13 [some (.ref a), l1] (.ref a :: st) N I L P := st_go b114 dX10_book_12 (by decide) rfl
theorem s114_13 (h : a < N) (h1 : sm_lay a = .inl 10) : sm_at C X 114 13 ls (.ref a :: st) N I L P = sm_at C X 114 16 ls (va_rf (P a 3) :: st) N I L P := st_gfR b114 dX10_book_13 rfl rfl h h1
theorem s114_16 : sm_at C X 114 16 [l0, some (.int x0)] st N I L P = sm_at C X 114 17 [l0, some (.int x0)] (.int x0 :: st) N I L P := st_go b114 dX10_book_16 (by decide) rfl
theorem s114_17 (h : a < N) (h1 : sm_lay a = .inl 1) : sm_at C X 114 17 ls [w1, .ref a] N I L P = sm_af C X 114 20 ls [] (C 18 [.ref a, w1] N I L P) := st_virt b114 dX10_book_17 (n := 2) (rest := []) rfl rfl rfl rfl rfl rfl rfl h h1
theorem s114_20 : sm_at C X 114 20 ls [.int x0] N I L P = some (some (.int x0), N, I, L, P) := st_iret b114 dX10_book_20 rfl
theorem b115 : sm_b 115 = cX10_read := rfl
theorem s115_0 : sm_at C X 115 0 [l0, some (.int x0), l2, l3, l4, l5, l6] st N I L P = sm_at C X 115 1 [l0, some (.int x0), l2, l3, l4, l5, l6] (.int x0 :: st) N I L P := st_go b115 dX10_read_0 (by decide) rfl
theorem s115_1 : sm_at C X 115 1 ls st N I L P = sm_at C X 115 2 ls (.int (nI 0) :: st) N I L P := st_go b115 dX10_read_1 (by decide) rfl
theorem s115_2 : sm_at C X 115 2 [some (.ref a), l1, l2, l3, l4, l5, l6] st N I L P = sm_at C X 115 3 [some (.ref a), l1, l2, l3, l4, l5, l6] (.ref a :: st) N I L P := st_go b115 dX10_read_2 (by decide) rfl
theorem s115_3 (h : a < N) (h1 : sm_lay a = .inl 10) : sm_at C X 115 3 ls (.ref a :: st) N I L P = sm_at C X 115 6 ls (va_rf (P a 3) :: st) N I L P := st_gfR b115 dX10_read_3 rfl rfl h h1
theorem s115_6 (h : a < N) (h1 : sm_lay a = .inl 1) : sm_at C X 115 6 ls [.ref a, v1, v0] N I L P = sm_af C X 115 9 ls [v1, v0] (C 16 [.ref a] N I L P) := st_virt b115 dX10_read_6 (n := 1) (rest := [v1, v0]) rfl rfl rfl rfl rfl rfl rfl h h1
theorem s115_9 : sm_at C X 115 9 ls st N I L P = sm_at C X 115 10 ls (.int (nI 1) :: st) N I L P := st_go b115 dX10_read_9 (by decide) rfl
theorem s115_10 : sm_at C X 115 10 ls (.int x0 :: .int x1 :: st) N I L P = sm_at C X 115 11 ls (.int (x1 - x0) :: st) N I L P := st_go b115 dX10_read_10 (by decide) rfl
theorem s115_11 : sm_at C X 115 11 ls [w2, w1, w0] N I L P = sm_af C X 115 14 ls [] (C 132 [w0, w1, w2] N I L P) := st_stat b115 dX10_read_11 (n := 3) (rest := []) rfl rfl rfl rfl rfl rfl
theorem s115_14 : sm_at C X 115 14 ls (.int x0 :: st) N I L P = if ¬ x0 = 0 then sm_at C X 115 21 ls st N I L P else sm_at C X 115 17 ls st N I L P := st_br b115 dX10_read_14 (by decide) rfl
theorem s115_17 : sm_at C X 115 17 ls st N I L P = sm_at C X 115 20 ls (.long (-101) :: st) N I L P := st_go b115 dX10_read_17 (by decide) rfl
theorem s115_20 : sm_at C X 115 20 ls [.long z0] N I L P = some (some (.long z0), N, I, L, P) := st_ret b115 dX10_read_20 (by decide) rfl
theorem s115_21 : sm_at C X 115 21 [l0, l1, some (.int x0), l3, l4, l5, l6] st N I L P = sm_at C X 115 22 [l0, l1, some (.int x0), l3, l4, l5, l6] (.int x0 :: st) N I L P := st_go b115 dX10_read_21 (by decide) rfl
theorem s115_22 : sm_at C X 115 22 ls st N I L P = sm_at C X 115 24 ls (.int (nI 8) :: st) N I L P := st_go b115 dX10_read_22 (by decide) rfl
theorem s115_24 : sm_at C X 115 24 ls [w1, w0] N I L P = sm_af C X 115 27 ls [] (C 138 [w0, w1] N I L P) := st_stat b115 dX10_read_24 (n := 2) (rest := []) rfl rfl rfl rfl rfl rfl
theorem s115_27 : sm_at C X 115 27 ls (.int x0 :: st) N I L P = if x0 = 0 then sm_at C X 115 45 ls st N I L P else sm_at C X 115 30 ls st N I L P := st_br b115 dX10_read_27 (by decide) rfl
theorem s115_30 : sm_at C X 115 30 [l0, l1, l2, some (.int x0), l4, l5, l6] st N I L P = sm_at C X 115 31 [l0, l1, l2, some (.int x0), l4, l5, l6] (.int x0 :: st) N I L P := st_go b115 dX10_read_30 (by decide) rfl
theorem s115_31 : sm_at C X 115 31 ls [w0] N I L P = sm_af C X 115 34 ls [] (C 137 [w0] N I L P) := st_stat b115 dX10_read_31 (n := 1) (rest := []) rfl rfl rfl rfl rfl rfl
theorem s115_34 : sm_at C X 115 34 ls (.int x0 :: st) N I L P = if x0 = 0 then sm_at C X 115 45 ls st N I L P else sm_at C X 115 37 ls st N I L P := st_br b115 dX10_read_34 (by decide) rfl
theorem s115_37 : sm_at C X 115 37 [l0, l1, l2, l3, some (.int x0), l5, l6] st N I L P = sm_at C X 115 39 [l0, l1, l2, l3, some (.int x0), l5, l6] (.int x0 :: st) N I L P := st_go b115 dX10_read_37 (by decide) rfl
theorem s115_39 : sm_at C X 115 39 ls [w0] N I L P = sm_af C X 115 42 ls [] (C 136 [w0] N I L P) := st_stat b115 dX10_read_39 (n := 1) (rest := []) rfl rfl rfl rfl rfl rfl
theorem s115_42 : sm_at C X 115 42 ls (.int x0 :: st) N I L P = if ¬ x0 = 0 then sm_at C X 115 49 ls st N I L P else sm_at C X 115 45 ls st N I L P := st_br b115 dX10_read_42 (by decide) rfl
theorem s115_45 : sm_at C X 115 45 ls st N I L P = sm_at C X 115 48 ls (.long (-102) :: st) N I L P := st_go b115 dX10_read_45 (by decide) rfl
theorem s115_48 : sm_at C X 115 48 ls [.long z0] N I L P = some (some (.long z0), N, I, L, P) := st_ret b115 dX10_read_48 (by decide) rfl
theorem s115_49 : sm_at C X 115 49 [some (.ref a), l1, l2, l3, l4, l5, l6] st N I L P = sm_at C X 115 50 [some (.ref a), l1, l2, l3, l4, l5, l6] (.ref a :: st) N I L P := st_go b115 dX10_read_49 (by decide) rfl
theorem s115_50 (h : a < N) (h1 : sm_lay a = .inl 10) : sm_at C X 115 50 ls (.ref a :: st) N I L P = sm_at C X 115 53 ls (va_rf (P a 3) :: st) N I L P := st_gfR b115 dX10_read_50 rfl rfl h h1
theorem s115_53 : sm_at C X 115 53 [l0, l1, some (.int x0), l3, l4, l5, l6] st N I L P = sm_at C X 115 54 [l0, l1, some (.int x0), l3, l4, l5, l6] (.int x0 :: st) N I L P := st_go b115 dX10_read_53 (by decide) rfl
theorem s115_54 : sm_at C X 115 54 [l0, l1, l2, some (.int x0), l4, l5, l6] st N I L P = sm_at C X 115 55 [l0, l1, l2, some (.int x0), l4, l5, l6] (.int x0 :: st) N I L P := st_go b115 dX10_read_54 (by decide) rfl
theorem s115_55 (h : a < N) (h1 : sm_lay a = .inl 1) : sm_at C X 115 55 ls [w2, w1, .ref a] N I L P = sm_af C X 115 58 ls [] (C 21 [.ref a, w1, w2] N I L P) := st_virt b115 dX10_read_55 (n := 3) (rest := []) rfl rfl rfl rfl rfl rfl rfl h h1
theorem s115_58 : sm_at C X 115 58 [l0, l1, l2, l3, l4, l5, l6] (.long z0 :: st) N I L P = sm_at C X 115 60 [l0, l1, l2, l3, sm_cl l4, some (.long z0), none] st N I L P := st_go b115 dX10_read_58 (by decide) rfl
theorem s115_60 : sm_at C X 115 60 [l0, l1, l2, l3, l4, some (.long z0), l6] st N I L P = sm_at C X 115 62 [l0, l1, l2, l3, l4, some (.long z0), l6] (.long z0 :: st) N I L P := st_go b115 dX10_read_60 (by decide) rfl
theorem s115_62 : sm_at C X 115 62 ls st N I L P = sm_at C X 115 63 ls (.long (lN 0) :: st) N I L P := st_go b115 dX10_read_62 (by decide) rfl
theorem s115_63 : sm_at C X 115 63 ls (.long z0 :: .long z1 :: st) N I L P = sm_at C X 115 64 ls (.int (lg_cmp z1 z0) :: st) N I L P := st_go b115 dX10_read_63 (by decide) rfl
theorem s115_64 : sm_at C X 115 64 ls (.int x0 :: st) N I L P = if ¬ x0 = 0 then sm_at C X 115 71 ls st N I L P else sm_at C X 115 67 ls st N I L P := st_br b115 dX10_read_64 (by decide) rfl
theorem s115_67 : sm_at C X 115 67 ls st N I L P = sm_at C X 115 70 ls (.long (-1) :: st) N I L P := st_go b115 dX10_read_67 (by decide) rfl
theorem s115_70 : sm_at C X 115 70 ls [.long z0] N I L P = some (some (.long z0), N, I, L, P) := st_ret b115 dX10_read_70 (by decide) rfl
theorem s115_71 : sm_at C X 115 71 [some (.ref a), l1, l2, l3, l4, l5, l6] st N I L P = sm_at C X 115 72 [some (.ref a), l1, l2, l3, l4, l5, l6] (.ref a :: st) N I L P := st_go b115 dX10_read_71 (by decide) rfl
theorem s115_72 (h : a < N) (h1 : sm_lay a = .inl 10) : sm_at C X 115 72 ls (.ref a :: st) N I L P = sm_at C X 115 75 ls (va_rf (P a 3) :: st) N I L P := st_gfR b115 dX10_read_72 rfl rfl h h1
theorem s115_75 : sm_at C X 115 75 [l0, some (.int x0), l2, l3, l4, l5, l6] st N I L P = sm_at C X 115 76 [l0, some (.int x0), l2, l3, l4, l5, l6] (.int x0 :: st) N I L P := st_go b115 dX10_read_75 (by decide) rfl
theorem s115_76 : sm_at C X 115 76 [l0, l1, some (.int x0), l3, l4, l5, l6] st N I L P = sm_at C X 115 77 [l0, l1, some (.int x0), l3, l4, l5, l6] (.int x0 :: st) N I L P := st_go b115 dX10_read_76 (by decide) rfl
theorem s115_77 : sm_at C X 115 77 [l0, l1, l2, some (.int x0), l4, l5, l6] st N I L P = sm_at C X 115 78 [l0, l1, l2, some (.int x0), l4, l5, l6] (.int x0 :: st) N I L P := st_go b115 dX10_read_77 (by decide) rfl
theorem s115_78 (h : a < N) (h1 : sm_lay a = .inl 1) : sm_at C X 115 78 ls [w3, w2, w1, .ref a] N I L P = sm_af C X 115 81 ls [] (C 20 [.ref a, w1, w2, w3] N I L P) := st_virt b115 dX10_read_78 (n := 4) (rest := []) rfl rfl rfl rfl rfl rfl rfl h h1
theorem s115_81 : sm_at C X 115 81 [l0, l1, l2, l3, l4, some (.long z0), l6] st N I L P = sm_at C X 115 83 [l0, l1, l2, l3, l4, some (.long z0), l6] (.long z0 :: st) N I L P := st_go b115 dX10_read_81 (by decide) rfl
theorem s115_83 : sm_at C X 115 83 [l0, l1, l2, l3, some (.int x0), l5, l6] st N I L P = sm_at C X 115 85 [l0, l1, l2, l3, some (.int x0), l5, l6] (.int x0 :: st) N I L P := st_go b115 dX10_read_83 (by decide) rfl
theorem s115_85 : sm_at C X 115 85 ls [w2, w1, w0] N I L P = sm_af C X 115 88 ls [] (C 143 [w0, w1, w2] N I L P) := st_stat b115 dX10_read_85 (n := 3) (rest := []) rfl rfl rfl rfl rfl rfl
theorem s115_88 : sm_at C X 115 88 ls [.long z0] N I L P = some (some (.long z0), N, I, L, P) := st_ret b115 dX10_read_88 (by decide) rfl
theorem b116 : sm_b 116 = cX10_crowd := rfl
theorem s116_0 : sm_at C X 116 0 [l0, some (.int x0), l2] st N I L P = sm_at C X 116 1 [l0, some (.int x0), l2] (.int x0 :: st) N I L P := st_go b116 dX10_crowd_0 (by decide) rfl
theorem s116_1 : sm_at C X 116 1 ls st N I L P = sm_at C X 116 2 ls (.int (nI 2) :: st) N I L P := st_go b116 dX10_crowd_1 (by decide) rfl
theorem s116_2 : sm_at C X 116 2 ls (.int x0 :: .int x1 :: st) N I L P = if x1 = x0 then sm_at C X 116 25 ls st N I L P else sm_at C X 116 5 ls st N I L P := st_br b116 dX10_crowd_2 (by decide) rfl
theorem s116_5 : sm_at C X 116 5 [l0, some (.int x0), l2] st N I L P = sm_at C X 116 6 [l0, some (.int x0), l2] (.int x0 :: st) N I L P := st_go b116 dX10_crowd_5 (by decide) rfl
theorem s116_6 : sm_at C X 116 6 ls st N I L P = sm_at C X 116 7 ls (.int (nI 4) :: st) N I L P := st_go b116 dX10_crowd_6 (by decide) rfl
theorem s116_7 : sm_at C X 116 7 ls (.int x0 :: .int x1 :: st) N I L P = if x1 = x0 then sm_at C X 116 25 ls st N I L P else sm_at C X 116 10 ls st N I L P := st_br b116 dX10_crowd_7 (by decide) rfl
theorem s116_10 : sm_at C X 116 10 [l0, some (.int x0), l2] st N I L P = sm_at C X 116 11 [l0, some (.int x0), l2] (.int x0 :: st) N I L P := st_go b116 dX10_crowd_10 (by decide) rfl
theorem s116_11 : sm_at C X 116 11 ls st N I L P = sm_at C X 116 13 ls (.int (nI 6) :: st) N I L P := st_go b116 dX10_crowd_11 (by decide) rfl
theorem s116_13 : sm_at C X 116 13 ls (.int x0 :: .int x1 :: st) N I L P = if x1 = x0 then sm_at C X 116 25 ls st N I L P else sm_at C X 116 16 ls st N I L P := st_br b116 dX10_crowd_13 (by decide) rfl
theorem s116_16 : sm_at C X 116 16 [l0, some (.int x0), l2] st N I L P = sm_at C X 116 17 [l0, some (.int x0), l2] (.int x0 :: st) N I L P := st_go b116 dX10_crowd_16 (by decide) rfl
theorem s116_17 : sm_at C X 116 17 ls st N I L P = sm_at C X 116 19 ls (.int (nI 8) :: st) N I L P := st_go b116 dX10_crowd_17 (by decide) rfl
theorem s116_19 : sm_at C X 116 19 ls (.int x0 :: .int x1 :: st) N I L P = if x1 = x0 then sm_at C X 116 25 ls st N I L P else sm_at C X 116 22 ls st N I L P := st_br b116 dX10_crowd_19 (by decide) rfl
theorem s116_22 : sm_at C X 116 22 ls st N I L P = sm_at C X 116 24 ls (.int (-102) :: st) N I L P := st_go b116 dX10_crowd_22 (by decide) rfl
theorem s116_24 : sm_at C X 116 24 ls [.int x0] N I L P = some (some (.int x0), N, I, L, P) := st_iret b116 dX10_crowd_24 rfl
theorem s116_25 : sm_at C X 116 25 [some (.ref a), l1, l2] st N I L P = sm_at C X 116 26 [some (.ref a), l1, l2] (.ref a :: st) N I L P := st_go b116 dX10_crowd_25 (by decide) rfl
theorem s116_26 (h : a < N) (h1 : sm_lay a = .inl 10) : sm_at C X 116 26 ls (.ref a :: st) N I L P = sm_at C X 116 29 ls (va_rf (P a 4) :: st) N I L P := st_gfR b116 dX10_crowd_26 rfl rfl h h1
theorem s116_29 (h : a < N) (h1 : sm_lay a = .inl 2) : sm_at C X 116 29 ls [.ref a] N I L P = sm_af C X 116 32 ls [] (C 23 [.ref a] N I L P) := st_virt b116 dX10_crowd_29 (n := 1) (rest := []) rfl rfl rfl rfl rfl rfl rfl h h1
theorem s116_32 : sm_at C X 116 32 [l0, l1, l2] (.int x0 :: st) N I L P = sm_at C X 116 33 [l0, sm_cl l1, some (.int x0)] st N I L P := st_go b116 dX10_crowd_32 (by decide) rfl
theorem s116_33 : sm_at C X 116 33 [some (.ref a), l1, l2] st N I L P = sm_at C X 116 34 [some (.ref a), l1, l2] (.ref a :: st) N I L P := st_go b116 dX10_crowd_33 (by decide) rfl
theorem s116_34 (h : a < N) (h1 : sm_lay a = .inl 10) : sm_at C X 116 34 ls (.ref a :: st) N I L P = sm_at C X 116 37 ls (va_rf (P a 4) :: st) N I L P := st_gfR b116 dX10_crowd_34 rfl rfl h h1
theorem s116_37 : sm_at C X 116 37 [l0, some (.int x0), l2] st N I L P = sm_at C X 116 38 [l0, some (.int x0), l2] (.int x0 :: st) N I L P := st_go b116 dX10_crowd_37 (by decide) rfl
theorem s116_38 (h : a < N) (h1 : sm_lay a = .inl 2) : sm_at C X 116 38 ls [w1, .ref a] N I L P = sm_af C X 116 41 ls [] (C 25 [.ref a, w1] N I L P) := st_virt b116 dX10_crowd_38 (n := 2) (rest := []) rfl rfl rfl rfl rfl rfl rfl h h1
theorem s116_41 : sm_at C X 116 41 [some (.ref a), l1, l2] st N I L P = sm_at C X 116 42 [some (.ref a), l1, l2] (.ref a :: st) N I L P := st_go b116 dX10_crowd_41 (by decide) rfl
theorem s116_42 (h : a < N) (h1 : sm_lay a = .inl 10) : sm_at C X 116 42 ls (.ref a :: st) N I L P = sm_at C X 116 45 ls (va_rf (P a 6) :: st) N I L P := st_gfR b116 dX10_crowd_42 rfl rfl h h1
theorem s116_45 (h : a < N) (h1 : sm_lay a = .inl 3) : sm_at C X 116 45 ls [.ref a] N I L P = sm_af C X 116 48 ls [] (C 35 [.ref a] N I L P) := st_virt b116 dX10_crowd_45 (n := 1) (rest := []) rfl rfl rfl rfl rfl rfl rfl h h1
theorem s116_48 : sm_at C X 116 48 [l0, l1, some (.int x0)] st N I L P = sm_at C X 116 49 [l0, l1, some (.int x0)] (.int x0 :: st) N I L P := st_go b116 dX10_crowd_48 (by decide) rfl
theorem s116_49 : sm_at C X 116 49 ls [.int x0] N I L P = some (some (.int x0), N, I, L, P) := st_iret b116 dX10_crowd_49 rfl
theorem b117 : sm_b 117 = cX10_wince := rfl
theorem s117_0 : sm_at C X 117 0 [l0, some (.int x0), l2] st N I L P = sm_at C X 117 1 [l0, some (.int x0), l2] (.int x0 :: st) N I L P := st_go b117 dX10_wince_0 (by decide) rfl
theorem s117_1 : sm_at C X 117 1 ls st N I L P = sm_at C X 117 2 ls (.int (nI 0) :: st) N I L P := st_go b117 dX10_wince_1 (by decide) rfl
theorem s117_2 : sm_at C X 117 2 [some (.ref a), l1, l2] st N I L P = sm_at C X 117 3 [some (.ref a), l1, l2] (.ref a :: st) N I L P := st_go b117 dX10_wince_2 (by decide) rfl
theorem s117_3 (h : a < N) (h1 : sm_lay a = .inl 10) : sm_at C X 117 3 ls (.ref a :: st) N I L P = sm_at C X 117 6 ls (va_rf (P a 4) :: st) N I L P := st_gfR b117 dX10_wince_3 rfl rfl h h1
theorem s117_6 (h : a < N) (h1 : sm_lay a = .inl 2) : sm_at C X 117 6 ls [.ref a, v1, v0] N I L P = sm_af C X 117 9 ls [v1, v0] (C 23 [.ref a] N I L P) := st_virt b117 dX10_wince_6 (n := 1) (rest := [v1, v0]) rfl rfl rfl rfl rfl rfl rfl h h1
theorem s117_9 : sm_at C X 117 9 ls st N I L P = sm_at C X 117 10 ls (.int (nI 1) :: st) N I L P := st_go b117 dX10_wince_9 (by decide) rfl
theorem s117_10 : sm_at C X 117 10 ls (.int x0 :: .int x1 :: st) N I L P = sm_at C X 117 11 ls (.int (x1 - x0) :: st) N I L P := st_go b117 dX10_wince_10 (by decide) rfl
theorem s117_11 : sm_at C X 117 11 ls [w2, w1, w0] N I L P = sm_af C X 117 14 ls [] (C 132 [w0, w1, w2] N I L P) := st_stat b117 dX10_wince_11 (n := 3) (rest := []) rfl rfl rfl rfl rfl rfl
theorem s117_14 : sm_at C X 117 14 ls (.int x0 :: st) N I L P = if ¬ x0 = 0 then sm_at C X 117 20 ls st N I L P else sm_at C X 117 17 ls st N I L P := st_br b117 dX10_wince_14 (by decide) rfl
theorem s117_17 : sm_at C X 117 17 ls st N I L P = sm_at C X 117 19 ls (.int (-101) :: st) N I L P := st_go b117 dX10_wince_17 (by decide) rfl
theorem s117_19 : sm_at C X 117 19 ls [.int x0] N I L P = some (some (.int x0), N, I, L, P) := st_iret b117 dX10_wince_19 rfl
theorem s117_20 : sm_at C X 117 20 [l0, l1, some (.int x0)] st N I L P = sm_at C X 117 21 [l0, l1, some (.int x0)] (.int x0 :: st) N I L P := st_go b117 dX10_wince_20 (by decide) rfl
theorem s117_21 : sm_at C X 117 21 [some (.ref a), l1, l2] st N I L P = sm_at C X 117 22 [some (.ref a), l1, l2] (.ref a :: st) N I L P := st_go b117 dX10_wince_21 (by decide) rfl
theorem s117_22 (h : a < N) (h1 : sm_lay a = .inl 10) : sm_at C X 117 22 ls (.ref a :: st) N I L P = sm_at C X 117 25 ls (va_rf (P a 4) :: st) N I L P := st_gfR b117 dX10_wince_22 rfl rfl h h1
theorem s117_25 (h : a < N) (h1 : sm_lay a = .inl 2) : sm_at C X 117 25 ls [.ref a, v0] N I L P = sm_af C X 117 28 ls [v0] (C 23 [.ref a] N I L P) := st_virt b117 dX10_wince_25 (n := 1) (rest := [v0]) rfl rfl rfl rfl rfl rfl rfl h h1
theorem s117_28 : sm_at C X 117 28 ls [w1, w0] N I L P = sm_af C X 117 31 ls [] (C 138 [w0, w1] N I L P) := st_stat b117 dX10_wince_28 (n := 2) (rest := []) rfl rfl rfl rfl rfl rfl
theorem s117_31 : sm_at C X 117 31 ls (.int x0 :: st) N I L P = if ¬ x0 = 0 then sm_at C X 117 37 ls st N I L P else sm_at C X 117 34 ls st N I L P := st_br b117 dX10_wince_31 (by decide) rfl
theorem s117_34 : sm_at C X 117 34 ls st N I L P = sm_at C X 117 36 ls (.int (-102) :: st) N I L P := st_go b117 dX10_wince_34 (by decide) rfl
theorem s117_36 : sm_at C X 117 36 ls [.int x0] N I L P = some (some (.int x0), N, I, L, P) := st_iret b117 dX10_wince_36 rfl
theorem s117_37 : sm_at C X 117 37 [some (.ref a), l1, l2] st N I L P = sm_at C X 117 38 [some (.ref a), l1, l2] (.ref a :: st) N I L P := st_go b117 dX10_wince_37 (by decide) rfl
theorem s117_38 (h : a < N) (h1 : sm_lay a = .inl 10) : sm_at C X 117 38 ls (.ref a :: st) N I L P = sm_at C X 117 41 ls (va_rf (P a 4) :: st) N I L P := st_gfR b117 dX10_wince_38 rfl rfl h h1
theorem s117_41 : sm_at C X 117 41 [l0, some (.int x0), l2] st N I L P = sm_at C X 117 42 [l0, some (.int x0), l2] (.int x0 :: st) N I L P := st_go b117 dX10_wince_41 (by decide) rfl
theorem s117_42 : sm_at C X 117 42 [l0, l1, some (.int x0)] st N I L P = sm_at C X 117 43 [l0, l1, some (.int x0)] (.int x0 :: st) N I L P := st_go b117 dX10_wince_42 (by decide) rfl
theorem s117_43 (h : a < N) (h1 : sm_lay a = .inl 2) : sm_at C X 117 43 ls [w2, w1, .ref a] N I L P = sm_af C X 117 46 ls [] (C 26 [.ref a, w1, w2] N I L P) := st_virt b117 dX10_wince_43 (n := 3) (rest := []) rfl rfl rfl rfl rfl rfl rfl h h1
theorem s117_46 : sm_at C X 117 46 ls [.int x0] N I L P = some (some (.int x0), N, I, L, P) := st_iret b117 dX10_wince_46 rfl
theorem b118 : sm_b 118 = cX10_pairings := rfl
theorem s118_0 : sm_at C X 118 0 [some (.ref a)] st N I L P = sm_at C X 118 1 [some (.ref a)] (.ref a :: st) N I L P := st_go b118 dX10_pairings_0 (by decide) rfl
theorem s118_1 (h : a < N) (h1 : sm_lay a = .inl 10) : sm_at C X 118 1 ls (.ref a :: st) N I L P = sm_at C X 118 4 ls (va_rf (P a 4) :: st) N I L P := st_gfR b118 dX10_pairings_1 rfl rfl h h1
theorem s118_4 (h : a < N) (h1 : sm_lay a = .inl 2) : sm_at C X 118 4 ls [.ref a] N I L P = sm_af C X 118 7 ls [] (C 28 [.ref a] N I L P) := st_virt b118 dX10_pairings_4 (n := 1) (rest := []) rfl rfl rfl rfl rfl rfl rfl h h1
theorem s118_7 : sm_at C X 118 7 ls [.int x0] N I L P = some (some (.int x0), N, I, L, P) := st_iret b118 dX10_pairings_7 rfl
theorem b119 : sm_b 119 = cX10_twin := rfl
theorem s119_0 : sm_at C X 119 0 [l0, some (.int x0)] st N I L P = sm_at C X 119 1 [l0, some (.int x0)] (.int x0 :: st) N I L P := st_go b119 dX10_twin_0 (by decide) rfl
theorem s119_1 : sm_at C X 119 1 ls st N I L P = sm_at C X 119 2 ls (.int (nI 0) :: st) N I L P := st_go b119 dX10_twin_1 (by decide) rfl
theorem s119_2 : sm_at C X 119 2 [some (.ref a), l1] st N I L P = sm_at C X 119 3 [some (.ref a), l1] (.ref a :: st) N I L P := st_go b119 dX10_twin_2 (by decide) rfl
theorem s119_3 (h : a < N) (h1 : sm_lay a = .inl 10) : sm_at C X 119 3 ls (.ref a :: st) N I L P = sm_at C X 119 6 ls (va_rf (P a 4) :: st) N I L P := st_gfR b119 dX10_twin_3 rfl rfl h h1
theorem s119_6 (h : a < N) (h1 : sm_lay a = .inl 2) : sm_at C X 119 6 ls [.ref a, v1, v0] N I L P = sm_af C X 119 9 ls [v1, v0] (C 23 [.ref a] N I L P) := st_virt b119 dX10_twin_6 (n := 1) (rest := [v1, v0]) rfl rfl rfl rfl rfl rfl rfl h h1
theorem s119_9 : sm_at C X 119 9 ls st N I L P = sm_at C X 119 10 ls (.int (nI 1) :: st) N I L P := st_go b119 dX10_twin_9 (by decide) rfl
theorem s119_10 : sm_at C X 119 10 ls (.int x0 :: .int x1 :: st) N I L P = sm_at C X 119 11 ls (.int (x1 - x0) :: st) N I L P := st_go b119 dX10_twin_10 (by decide) rfl
theorem s119_11 : sm_at C X 119 11 ls [w2, w1, w0] N I L P = sm_af C X 119 14 ls [] (C 132 [w0, w1, w2] N I L P) := st_stat b119 dX10_twin_11 (n := 3) (rest := []) rfl rfl rfl rfl rfl rfl
theorem s119_14 : sm_at C X 119 14 ls (.int x0 :: st) N I L P = if ¬ x0 = 0 then sm_at C X 119 20 ls st N I L P else sm_at C X 119 17 ls st N I L P := st_br b119 dX10_twin_14 (by decide) rfl
theorem s119_17 : sm_at C X 119 17 ls st N I L P = sm_at C X 119 19 ls (.int (-101) :: st) N I L P := st_go b119 dX10_twin_17 (by decide) rfl
theorem s119_19 : sm_at C X 119 19 ls [.int x0] N I L P = some (some (.int x0), N, I, L, P) := st_iret b119 dX10_twin_19 rfl
theorem s119_20 : sm_at C X 119 20 [some (.ref a), l1] st N I L P = sm_at C X 119 21 [some (.ref a), l1] (.ref a :: st) N I L P := st_go b119 dX10_twin_20 (by decide) rfl
theorem s119_21 (h : a < N) (h1 : sm_lay a = .inl 10) : sm_at C X 119 21 ls (.ref a :: st) N I L P = sm_at C X 119 24 ls (va_rf (P a 4) :: st) N I L P := st_gfR b119 dX10_twin_21 rfl rfl h h1
theorem s119_24 (h : a < N) (h1 : sm_lay a = .inl 2) : sm_at C X 119 24 ls [.ref a] N I L P = sm_af C X 119 27 ls [] (C 28 [.ref a] N I L P) := st_virt b119 dX10_twin_24 (n := 1) (rest := []) rfl rfl rfl rfl rfl rfl rfl h h1
theorem s119_27 : sm_at C X 119 27 ls (.int x0 :: st) N I L P = sm_at C X 119 28 ls st N I L P := st_go b119 dX10_twin_27 (by decide) rfl
theorem s119_28 : sm_at C X 119 28 [some (.ref a), l1] st N I L P = sm_at C X 119 29 [some (.ref a), l1] (.ref a :: st) N I L P := st_go b119 dX10_twin_28 (by decide) rfl
theorem s119_29 (h : a < N) (h1 : sm_lay a = .inl 10) : sm_at C X 119 29 ls (.ref a :: st) N I L P = sm_at C X 119 32 ls (va_rf (P a 4) :: st) N I L P := st_gfR b119 dX10_twin_29 rfl rfl h h1
theorem s119_32 : sm_at C X 119 32 [l0, some (.int x0)] st N I L P = sm_at C X 119 33 [l0, some (.int x0)] (.int x0 :: st) N I L P := st_go b119 dX10_twin_32 (by decide) rfl
theorem s119_33 (h : a < N) (h1 : sm_lay a = .inl 2) : sm_at C X 119 33 ls [w1, .ref a] N I L P = sm_af C X 119 36 ls [] (C 29 [.ref a, w1] N I L P) := st_virt b119 dX10_twin_33 (n := 2) (rest := []) rfl rfl rfl rfl rfl rfl rfl h h1
theorem s119_36 : sm_at C X 119 36 ls [.int x0] N I L P = some (some (.int x0), N, I, L, P) := st_iret b119 dX10_twin_36 rfl
theorem b120 : sm_b 120 = cX10_round := rfl
theorem s120_0 : sm_at C X 120 0 [l0, some (.int x0), l2, l3] st N I L P = sm_at C X 120 1 [l0, some (.int x0), l2, l3] (.int x0 :: st) N I L P := st_go b120 dX10_round_0 (by decide) rfl
theorem s120_1 : sm_at C X 120 1 ls st N I L P = sm_at C X 120 2 ls (.int (nI 2) :: st) N I L P := st_go b120 dX10_round_1 (by decide) rfl
theorem s120_2 : sm_at C X 120 2 ls st N I L P = sm_at C X 120 4 ls (.int (nI 9) :: st) N I L P := st_go b120 dX10_round_2 (by decide) rfl
theorem s120_4 : sm_at C X 120 4 ls [w2, w1, w0] N I L P = sm_af C X 120 7 ls [] (C 132 [w0, w1, w2] N I L P) := st_stat b120 dX10_round_4 (n := 3) (rest := []) rfl rfl rfl rfl rfl rfl
theorem s120_7 : sm_at C X 120 7 ls (.int x0 :: st) N I L P = if x0 = 0 then sm_at C X 120 24 ls st N I L P else sm_at C X 120 10 ls st N I L P := st_br b120 dX10_round_7 (by decide) rfl
theorem s120_10 : sm_at C X 120 10 [l0, l1, some (.int x0), l3] st N I L P = sm_at C X 120 11 [l0, l1, some (.int x0), l3] (.int x0 :: st) N I L P := st_go b120 dX10_round_10 (by decide) rfl
theorem s120_11 : sm_at C X 120 11 ls [w0] N I L P = sm_af C X 120 14 ls [] (C 137 [w0] N I L P) := st_stat b120 dX10_round_11 (n := 1) (rest := []) rfl rfl rfl rfl rfl rfl
theorem s120_14 : sm_at C X 120 14 ls (.int x0 :: st) N I L P = if x0 = 0 then sm_at C X 120 24 ls st N I L P else sm_at C X 120 17 ls st N I L P := st_br b120 dX10_round_14 (by decide) rfl
theorem s120_17 : sm_at C X 120 17 [l0, l1, l2, some (.int x0)] st N I L P = sm_at C X 120 18 [l0, l1, l2, some (.int x0)] (.int x0 :: st) N I L P := st_go b120 dX10_round_17 (by decide) rfl
theorem s120_18 : sm_at C X 120 18 ls [w0] N I L P = sm_af C X 120 21 ls [] (C 136 [w0] N I L P) := st_stat b120 dX10_round_18 (n := 1) (rest := []) rfl rfl rfl rfl rfl rfl
theorem s120_21 : sm_at C X 120 21 ls (.int x0 :: st) N I L P = if ¬ x0 = 0 then sm_at C X 120 28 ls st N I L P else sm_at C X 120 24 ls st N I L P := st_br b120 dX10_round_21 (by decide) rfl
theorem s120_24 : sm_at C X 120 24 ls st N I L P = sm_at C X 120 27 ls (.long (-102) :: st) N I L P := st_go b120 dX10_round_24 (by decide) rfl
theorem s120_27 : sm_at C X 120 27 ls [.long z0] N I L P = some (some (.long z0), N, I, L, P) := st_ret b120 dX10_round_27 (by decide) rfl
theorem s120_28 : sm_at C X 120 28 [l0, l1, some (.int x0), l3] st N I L P = sm_at C X 120 29 [l0, l1, some (.int x0), l3] (.int x0 :: st) N I L P := st_go b120 dX10_round_28 (by decide) rfl
theorem s120_29 : sm_at C X 120 29 ls (.int x0 :: st) N I L P = sm_at C X 120 30 ls (.long x0.toInt64 :: st) N I L P := st_go b120 dX10_round_29 (by decide) rfl
theorem s120_30 : sm_at C X 120 30 [l0, some (.int x0), l2, l3] st N I L P = sm_at C X 120 31 [l0, some (.int x0), l2, l3] (.int x0 :: st) N I L P := st_go b120 dX10_round_30 (by decide) rfl
theorem s120_31 : sm_at C X 120 31 ls st N I L P = sm_at C X 120 32 ls (.int (nI 1) :: st) N I L P := st_go b120 dX10_round_31 (by decide) rfl
theorem s120_32 : sm_at C X 120 32 ls (.int x0 :: .int x1 :: st) N I L P = sm_at C X 120 33 ls (.int (x1 - x0) :: st) N I L P := st_go b120 dX10_round_32 (by decide) rfl
theorem s120_33 : sm_at C X 120 33 ls [w1, w0] N I L P = sm_af C X 120 36 ls [] (C 142 [w0, w1] N I L P) := st_stat b120 dX10_round_33 (n := 2) (rest := []) rfl rfl rfl rfl rfl rfl
theorem s120_36 : sm_at C X 120 36 ls st N I L P = sm_at C X 120 39 ls (.long (lN 10) :: st) N I L P := st_go b120 dX10_round_36 (by decide) rfl
theorem s120_39 : sm_at C X 120 39 [l0, some (.int x0), l2, l3] st N I L P = sm_at C X 120 40 [l0, some (.int x0), l2, l3] (.int x0 :: st) N I L P := st_go b120 dX10_round_39 (by decide) rfl
theorem s120_40 : sm_at C X 120 40 ls st N I L P = sm_at C X 120 41 ls (.int (nI 1) :: st) N I L P := st_go b120 dX10_round_40 (by decide) rfl
theorem s120_41 : sm_at C X 120 41 ls (.int x0 :: .int x1 :: st) N I L P = sm_at C X 120 42 ls (.int (x1 - x0) :: st) N I L P := st_go b120 dX10_round_41 (by decide) rfl
theorem s120_42 : sm_at C X 120 42 ls [w1, w0, v0] N I L P = sm_af C X 120 45 ls [v0] (C 142 [w0, w1] N I L P) := st_stat b120 dX10_round_42 (n := 2) (rest := [v0]) rfl rfl rfl rfl rfl rfl
theorem s120_45 : sm_at C X 120 45 [l0, l1, l2, some (.int x0)] st N I L P = sm_at C X 120 46 [l0, l1, l2, some (.int x0)] (.int x0 :: st) N I L P := st_go b120 dX10_round_45 (by decide) rfl
theorem s120_46 : sm_at C X 120 46 ls [w2, w1, w0] N I L P = sm_af C X 120 49 ls [] (C 143 [w0, w1, w2] N I L P) := st_stat b120 dX10_round_46 (n := 3) (rest := []) rfl rfl rfl rfl rfl rfl
theorem s120_49 : sm_at C X 120 49 ls [.long z0] N I L P = some (some (.long z0), N, I, L, P) := st_ret b120 dX10_round_49 (by decide) rfl
theorem b121 : sm_b 121 = cX10_image := rfl
theorem s121_0 : sm_at C X 121 0 [some (.ref a)] st N I L P = sm_at C X 121 1 [some (.ref a)] (.ref a :: st) N I L P := st_go b121 dX10_image_0 (by decide) rfl
theorem s121_1 (h : a < N) (h1 : sm_lay a = .inl 10) : sm_at C X 121 1 ls (.ref a :: st) N I L P = sm_at C X 121 4 ls (va_rf (P a 6) :: st) N I L P := st_gfR b121 dX10_image_1 rfl rfl h h1
theorem s121_4 : sm_at C X 121 4 [some (.ref a)] st N I L P = sm_at C X 121 5 [some (.ref a)] (.ref a :: st) N I L P := st_go b121 dX10_image_4 (by decide) rfl
theorem s121_5 (h : a < N) (h1 : sm_lay a = .inl 10) : sm_at C X 121 5 ls (.ref a :: st) N I L P = sm_at C X 121 8 ls (va_rf (P a 1) :: st) N I L P := st_gfR b121 dX10_image_5 rfl rfl h h1
theorem s121_8 : sm_at C X 121 8 [some (.ref a)] st N I L P = sm_at C X 121 9 [some (.ref a)] (.ref a :: st) N I L P := st_go b121 dX10_image_8 (by decide) rfl
theorem s121_9 (h : a < N) (h1 : sm_lay a = .inl 10) : sm_at C X 121 9 ls (.ref a :: st) N I L P = sm_at C X 121 12 ls (va_rf (P a 7) :: st) N I L P := st_gfR b121 dX10_image_9 rfl rfl h h1
theorem s121_12 : sm_at C X 121 12 [some (.ref a)] st N I L P = sm_at C X 121 13 [some (.ref a)] (.ref a :: st) N I L P := st_go b121 dX10_image_12 (by decide) rfl
theorem s121_13 (h : a < N) (h1 : sm_lay a = .inl 10) : sm_at C X 121 13 ls (.ref a :: st) N I L P = sm_at C X 121 16 ls (va_rf (P a 3) :: st) N I L P := st_gfR b121 dX10_image_13 rfl rfl h h1
theorem s121_16 : sm_at C X 121 16 [some (.ref a)] st N I L P = sm_at C X 121 17 [some (.ref a)] (.ref a :: st) N I L P := st_go b121 dX10_image_16 (by decide) rfl
theorem s121_17 (h : a < N) (h1 : sm_lay a = .inl 10) : sm_at C X 121 17 ls (.ref a :: st) N I L P = sm_at C X 121 20 ls (va_rf (P a 4) :: st) N I L P := st_gfR b121 dX10_image_17 rfl rfl h h1
theorem s121_20 (h : a < N) (h1 : sm_lay a = .inl 3) : sm_at C X 121 20 ls [w4, w3, w2, w1, .ref a] N I L P = sm_af C X 121 23 ls [] (C 36 [.ref a, w1, w2, w3, w4] N I L P) := st_virt b121 dX10_image_20 (n := 5) (rest := []) rfl rfl rfl rfl rfl rfl rfl h h1
theorem s121_23 : sm_at C X 121 23 [some (.ref a)] st N I L P = sm_at C X 121 24 [some (.ref a)] (.ref a :: st) N I L P := st_go b121 dX10_image_23 (by decide) rfl
theorem s121_24 (h : a < N) (h1 : sm_lay a = .inl 10) : sm_at C X 121 24 ls (.ref a :: st) N I L P = sm_at C X 121 27 ls (va_rf (P a 1) :: st) N I L P := st_gfR b121 dX10_image_24 rfl rfl h h1
theorem s121_27 (h : a < N) (h1 : sm_lay a = .inl 8) : sm_at C X 121 27 ls [.ref a] N I L P = sm_af C X 121 30 ls [] (C 74 [.ref a] N I L P) := st_virt b121 dX10_image_27 (n := 1) (rest := []) rfl rfl rfl rfl rfl rfl rfl h h1
theorem s121_30 : sm_at C X 121 30 ls [.int x0] N I L P = some (some (.int x0), N, I, L, P) := st_iret b121 dX10_image_30 rfl
theorem b122 : sm_b 122 = cX10_restore := rfl
theorem s122_0 : sm_at C X 122 0 [some (.ref a)] st N I L P = sm_at C X 122 1 [some (.ref a)] (.ref a :: st) N I L P := st_go b122 dX10_restore_0 (by decide) rfl
theorem s122_1 (h : a < N) (h1 : sm_lay a = .inl 10) : sm_at C X 122 1 ls (.ref a :: st) N I L P = sm_at C X 122 4 ls (va_rf (P a 6) :: st) N I L P := st_gfR b122 dX10_restore_1 rfl rfl h h1
theorem s122_4 (h : a < N) (h1 : sm_lay a = .inl 3) : sm_at C X 122 4 ls [.ref a] N I L P = sm_af C X 122 7 ls [] (C 34 [.ref a] N I L P) := st_virt b122 dX10_restore_4 (n := 1) (rest := []) rfl rfl rfl rfl rfl rfl rfl h h1
theorem s122_7 : sm_at C X 122 7 ls (.int x0 :: st) N I L P = if ¬ x0 = 0 then sm_at C X 122 13 ls st N I L P else sm_at C X 122 10 ls st N I L P := st_br b122 dX10_restore_7 (by decide) rfl
theorem s122_10 : sm_at C X 122 10 ls st N I L P = sm_at C X 122 12 ls (.int (-103) :: st) N I L P := st_go b122 dX10_restore_10 (by decide) rfl
theorem s122_12 : sm_at C X 122 12 ls [.int x0] N I L P = some (some (.int x0), N, I, L, P) := st_iret b122 dX10_restore_12 rfl
theorem s122_13 : sm_at C X 122 13 [some (.ref a)] st N I L P = sm_at C X 122 14 [some (.ref a)] (.ref a :: st) N I L P := st_go b122 dX10_restore_13 (by decide) rfl
theorem s122_14 (h : a < N) (h1 : sm_lay a = .inl 10) : sm_at C X 122 14 ls (.ref a :: st) N I L P = sm_at C X 122 17 ls (va_rf (P a 6) :: st) N I L P := st_gfR b122 dX10_restore_14 rfl rfl h h1
theorem s122_17 : sm_at C X 122 17 [some (.ref a)] st N I L P = sm_at C X 122 18 [some (.ref a)] (.ref a :: st) N I L P := st_go b122 dX10_restore_17 (by decide) rfl
theorem s122_18 (h : a < N) (h1 : sm_lay a = .inl 10) : sm_at C X 122 18 ls (.ref a :: st) N I L P = sm_at C X 122 21 ls (va_rf (P a 1) :: st) N I L P := st_gfR b122 dX10_restore_18 rfl rfl h h1
theorem s122_21 : sm_at C X 122 21 [some (.ref a)] st N I L P = sm_at C X 122 22 [some (.ref a)] (.ref a :: st) N I L P := st_go b122 dX10_restore_21 (by decide) rfl
theorem s122_22 (h : a < N) (h1 : sm_lay a = .inl 10) : sm_at C X 122 22 ls (.ref a :: st) N I L P = sm_at C X 122 25 ls (va_rf (P a 7) :: st) N I L P := st_gfR b122 dX10_restore_22 rfl rfl h h1
theorem s122_25 : sm_at C X 122 25 [some (.ref a)] st N I L P = sm_at C X 122 26 [some (.ref a)] (.ref a :: st) N I L P := st_go b122 dX10_restore_25 (by decide) rfl
theorem s122_26 (h : a < N) (h1 : sm_lay a = .inl 10) : sm_at C X 122 26 ls (.ref a :: st) N I L P = sm_at C X 122 29 ls (va_rf (P a 3) :: st) N I L P := st_gfR b122 dX10_restore_26 rfl rfl h h1
theorem s122_29 : sm_at C X 122 29 [some (.ref a)] st N I L P = sm_at C X 122 30 [some (.ref a)] (.ref a :: st) N I L P := st_go b122 dX10_restore_29 (by decide) rfl
theorem s122_30 (h : a < N) (h1 : sm_lay a = .inl 10) : sm_at C X 122 30 ls (.ref a :: st) N I L P = sm_at C X 122 33 ls (va_rf (P a 4) :: st) N I L P := st_gfR b122 dX10_restore_30 rfl rfl h h1
theorem s122_33 (h : a < N) (h1 : sm_lay a = .inl 3) : sm_at C X 122 33 ls [w4, w3, w2, w1, .ref a] N I L P = sm_af C X 122 36 ls [] (C 37 [.ref a, w1, w2, w3, w4] N I L P) := st_virt b122 dX10_restore_33 (n := 5) (rest := []) rfl rfl rfl rfl rfl rfl rfl h h1
theorem s122_36 : sm_at C X 122 36 [some (.ref a)] st N I L P = sm_at C X 122 37 [some (.ref a)] (.ref a :: st) N I L P := st_go b122 dX10_restore_36 (by decide) rfl
theorem s122_37 (h : a < N) (h1 : sm_lay a = .inl 10) : sm_at C X 122 37 ls (.ref a :: st) N I L P = sm_at C X 122 40 ls (va_rf (P a 1) :: st) N I L P := st_gfR b122 dX10_restore_37 rfl rfl h h1
theorem s122_40 (h : a < N) (h1 : sm_lay a = .inl 8) : sm_at C X 122 40 ls [.ref a] N I L P = sm_af C X 122 43 ls [] (C 74 [.ref a] N I L P) := st_virt b122 dX10_restore_40 (n := 1) (rest := []) rfl rfl rfl rfl rfl rfl rfl h h1
theorem s122_43 : sm_at C X 122 43 ls [.int x0] N I L P = some (some (.int x0), N, I, L, P) := st_iret b122 dX10_restore_43 rfl
theorem b123 : sm_b 123 = cX10_count := rfl
theorem s123_0 : sm_at C X 123 0 [l0, some (.int x0)] st N I L P = sm_at C X 123 1 [l0, some (.int x0)] (.int x0 :: st) N I L P := st_go b123 dX10_count_0 (by decide) rfl
theorem s123_1_0 : sm_at C X 123 1 ls (.int (nI 0) :: st) N I L P = sm_at C X 123 52 ls st N I L P := st_go b123 dX10_count_1 (by decide) rfl
theorem s123_1_1 : sm_at C X 123 1 ls (.int (nI 1) :: st) N I L P = sm_at C X 123 60 ls st N I L P := st_go b123 dX10_count_1 (by decide) rfl
theorem s123_1_2 : sm_at C X 123 1 ls (.int (nI 2) :: st) N I L P = sm_at C X 123 68 ls st N I L P := st_go b123 dX10_count_1 (by decide) rfl
theorem s123_1_3 : sm_at C X 123 1 ls (.int (nI 3) :: st) N I L P = sm_at C X 123 76 ls st N I L P := st_go b123 dX10_count_1 (by decide) rfl
theorem s123_1_4 : sm_at C X 123 1 ls (.int (nI 4) :: st) N I L P = sm_at C X 123 84 ls st N I L P := st_go b123 dX10_count_1 (by decide) rfl
theorem s123_1_5 : sm_at C X 123 1 ls (.int (nI 5) :: st) N I L P = sm_at C X 123 92 ls st N I L P := st_go b123 dX10_count_1 (by decide) rfl
theorem s123_1_6 : sm_at C X 123 1 ls (.int (nI 6) :: st) N I L P = sm_at C X 123 100 ls st N I L P := st_go b123 dX10_count_1 (by decide) rfl
theorem s123_1_7 : sm_at C X 123 1 ls (.int (nI 7) :: st) N I L P = sm_at C X 123 108 ls st N I L P := st_go b123 dX10_count_1 (by decide) rfl
theorem s123_1_8 : sm_at C X 123 1 ls (.int (nI 8) :: st) N I L P = sm_at C X 123 113 ls st N I L P := st_go b123 dX10_count_1 (by decide) rfl
theorem s123_1_d (h : x0.toInt < 0 ∨ 8 < x0.toInt) : sm_at C X 123 1 ls (.int x0 :: st) N I L P = sm_at C X 123 118 ls st N I L P := st_tab b123 dX10_count_1 rfl h
theorem s123_52 : sm_at C X 123 52 [some (.ref a), l1] st N I L P = sm_at C X 123 53 [some (.ref a), l1] (.ref a :: st) N I L P := st_go b123 dX10_count_52 (by decide) rfl
theorem s123_53 (h : a < N) (h1 : sm_lay a = .inl 10) : sm_at C X 123 53 ls (.ref a :: st) N I L P = sm_at C X 123 56 ls (va_rf (P a 8) :: st) N I L P := st_gfR b123 dX10_count_53 rfl rfl h h1
theorem s123_56 (h : a < N) (h1 : sm_lay a = .inl 6) : sm_at C X 123 56 ls [.ref a] N I L P = sm_af C X 123 59 ls [] (C 59 [.ref a] N I L P) := st_virt b123 dX10_count_56 (n := 1) (rest := []) rfl rfl rfl rfl rfl rfl rfl h h1
theorem s123_59 : sm_at C X 123 59 ls [.int x0] N I L P = some (some (.int x0), N, I, L, P) := st_iret b123 dX10_count_59 rfl
theorem s123_60 : sm_at C X 123 60 [some (.ref a), l1] st N I L P = sm_at C X 123 61 [some (.ref a), l1] (.ref a :: st) N I L P := st_go b123 dX10_count_60 (by decide) rfl
theorem s123_61 (h : a < N) (h1 : sm_lay a = .inl 10) : sm_at C X 123 61 ls (.ref a :: st) N I L P = sm_at C X 123 64 ls (va_rf (P a 1) :: st) N I L P := st_gfR b123 dX10_count_61 rfl rfl h h1
theorem s123_64 (h : a < N) (h1 : sm_lay a = .inl 8) : sm_at C X 123 64 ls [.ref a] N I L P = sm_af C X 123 67 ls [] (C 74 [.ref a] N I L P) := st_virt b123 dX10_count_64 (n := 1) (rest := []) rfl rfl rfl rfl rfl rfl rfl h h1
theorem s123_67 : sm_at C X 123 67 ls [.int x0] N I L P = some (some (.int x0), N, I, L, P) := st_iret b123 dX10_count_67 rfl
theorem s123_68 : sm_at C X 123 68 [some (.ref a), l1] st N I L P = sm_at C X 123 69 [some (.ref a), l1] (.ref a :: st) N I L P := st_go b123 dX10_count_68 (by decide) rfl
theorem s123_69 (h : a < N) (h1 : sm_lay a = .inl 10) : sm_at C X 123 69 ls (.ref a :: st) N I L P = sm_at C X 123 72 ls (va_rf (P a 2) :: st) N I L P := st_gfR b123 dX10_count_69 rfl rfl h h1
theorem s123_72 (h : a < N) (h1 : sm_lay a = .inl 4) : sm_at C X 123 72 ls [.ref a] N I L P = sm_af C X 123 75 ls [] (C 40 [.ref a] N I L P) := st_virt b123 dX10_count_72 (n := 1) (rest := []) rfl rfl rfl rfl rfl rfl rfl h h1
theorem s123_75 : sm_at C X 123 75 ls [.int x0] N I L P = some (some (.int x0), N, I, L, P) := st_iret b123 dX10_count_75 rfl
theorem s123_76 : sm_at C X 123 76 [some (.ref a), l1] st N I L P = sm_at C X 123 77 [some (.ref a), l1] (.ref a :: st) N I L P := st_go b123 dX10_count_76 (by decide) rfl
theorem s123_77 (h : a < N) (h1 : sm_lay a = .inl 10) : sm_at C X 123 77 ls (.ref a :: st) N I L P = sm_at C X 123 80 ls (va_rf (P a 3) :: st) N I L P := st_gfR b123 dX10_count_77 rfl rfl h h1
theorem s123_80 (h : a < N) (h1 : sm_lay a = .inl 1) : sm_at C X 123 80 ls [.ref a] N I L P = sm_af C X 123 83 ls [] (C 16 [.ref a] N I L P) := st_virt b123 dX10_count_80 (n := 1) (rest := []) rfl rfl rfl rfl rfl rfl rfl h h1
theorem s123_83 : sm_at C X 123 83 ls [.int x0] N I L P = some (some (.int x0), N, I, L, P) := st_iret b123 dX10_count_83 rfl
theorem s123_84 : sm_at C X 123 84 [some (.ref a), l1] st N I L P = sm_at C X 123 85 [some (.ref a), l1] (.ref a :: st) N I L P := st_go b123 dX10_count_84 (by decide) rfl
theorem s123_85 (h : a < N) (h1 : sm_lay a = .inl 10) : sm_at C X 123 85 ls (.ref a :: st) N I L P = sm_at C X 123 88 ls (va_rf (P a 4) :: st) N I L P := st_gfR b123 dX10_count_85 rfl rfl h h1
theorem s123_88 (h : a < N) (h1 : sm_lay a = .inl 2) : sm_at C X 123 88 ls [.ref a] N I L P = sm_af C X 123 91 ls [] (C 23 [.ref a] N I L P) := st_virt b123 dX10_count_88 (n := 1) (rest := []) rfl rfl rfl rfl rfl rfl rfl h h1
theorem s123_91 : sm_at C X 123 91 ls [.int x0] N I L P = some (some (.int x0), N, I, L, P) := st_iret b123 dX10_count_91 rfl
theorem s123_92 : sm_at C X 123 92 [some (.ref a), l1] st N I L P = sm_at C X 123 93 [some (.ref a), l1] (.ref a :: st) N I L P := st_go b123 dX10_count_92 (by decide) rfl
theorem s123_93 (h : a < N) (h1 : sm_lay a = .inl 10) : sm_at C X 123 93 ls (.ref a :: st) N I L P = sm_at C X 123 96 ls (va_rf (P a 4) :: st) N I L P := st_gfR b123 dX10_count_93 rfl rfl h h1
theorem s123_96 (h : a < N) (h1 : sm_lay a = .inl 2) : sm_at C X 123 96 ls [.ref a] N I L P = sm_af C X 123 99 ls [] (C 24 [.ref a] N I L P) := st_virt b123 dX10_count_96 (n := 1) (rest := []) rfl rfl rfl rfl rfl rfl rfl h h1
theorem s123_99 : sm_at C X 123 99 ls [.int x0] N I L P = some (some (.int x0), N, I, L, P) := st_iret b123 dX10_count_99 rfl
theorem s123_100 : sm_at C X 123 100 [some (.ref a), l1] st N I L P = sm_at C X 123 101 [some (.ref a), l1] (.ref a :: st) N I L P := st_go b123 dX10_count_100 (by decide) rfl
theorem s123_101 (h : a < N) (h1 : sm_lay a = .inl 10) : sm_at C X 123 101 ls (.ref a :: st) N I L P = sm_at C X 123 104 ls (va_rf (P a 0) :: st) N I L P := st_gfR b123 dX10_count_101 rfl rfl h h1
theorem s123_104 (h : a < N) (h1 : sm_lay a = .inl 5) : sm_at C X 123 104 ls [.ref a] N I L P = sm_af C X 123 107 ls [] (C 50 [.ref a] N I L P) := st_virt b123 dX10_count_104 (n := 1) (rest := []) rfl rfl rfl rfl rfl rfl rfl h h1
theorem s123_107 : sm_at C X 123 107 ls [.int x0] N I L P = some (some (.int x0), N, I, L, P) := st_iret b123 dX10_count_107 rfl
theorem s123_108 : sm_at C X 123 108 [some (.ref a), l1] st N I L P = sm_at C X 123 109 [some (.ref a), l1] (.ref a :: st) N I L P := st_go b123 dX10_count_108 (by decide) rfl
theorem s123_109 (h : a < N) (h1 : sm_lay a = .inl 10) : sm_at C X 123 109 ls (.ref a :: st) N I L P = sm_at C X 123 112 ls (.int (I a 10) :: st) N I L P := st_gfI b123 dX10_count_109 rfl rfl h h1
theorem s123_112 : sm_at C X 123 112 ls [.int x0] N I L P = some (some (.int x0), N, I, L, P) := st_iret b123 dX10_count_112 rfl
theorem s123_113 : sm_at C X 123 113 [some (.ref a), l1] st N I L P = sm_at C X 123 114 [some (.ref a), l1] (.ref a :: st) N I L P := st_go b123 dX10_count_113 (by decide) rfl
theorem s123_114 (h : a < N) (h1 : sm_lay a = .inl 10) : sm_at C X 123 114 ls (.ref a :: st) N I L P = sm_at C X 123 117 ls (.int (I a 11) :: st) N I L P := st_gfI b123 dX10_count_114 rfl rfl h h1
theorem s123_117 : sm_at C X 123 117 ls [.int x0] N I L P = some (some (.int x0), N, I, L, P) := st_iret b123 dX10_count_117 rfl
theorem s123_118 : sm_at C X 123 118 ls st N I L P = sm_at C X 123 120 ls (.int (-102) :: st) N I L P := st_go b123 dX10_count_118 (by decide) rfl
theorem s123_120 : sm_at C X 123 120 ls [.int x0] N I L P = some (some (.int x0), N, I, L, P) := st_iret b123 dX10_count_120 rfl
theorem b124 : sm_b 124 = cX10_digest := rfl
theorem s124_0 : sm_at C X 124 0 ls st N I L P = sm_at C X 124 3 ls (.long (lN 577) :: st) N I L P := st_go b124 dX10_digest_0 (by decide) rfl
theorem s124_3 : sm_at C X 124 3 [l0, l1, l2, l3] (.long z0 :: st) N I L P = sm_at C X 124 4 [sm_cl l0, some (.long z0), none, l3] st N I L P := st_go b124 dX10_digest_3 (by decide) rfl
theorem s124_4 : sm_at C X 124 4 [some (.ref a), l1, l2, l3] st N I L P = sm_at C X 124 5 [some (.ref a), l1, l2, l3] (.ref a :: st) N I L P := st_go b124 dX10_digest_4 (by decide) rfl
theorem s124_5 : sm_at C X 124 5 [l0, some (.long z0), l2, l3] st N I L P = sm_at C X 124 6 [l0, some (.long z0), l2, l3] (.long z0 :: st) N I L P := st_go b124 dX10_digest_5 (by decide) rfl
theorem s124_6 (h : a < N) (h1 : sm_lay a = .inl 10) : sm_at C X 124 6 ls [w1, .ref a] N I L P = sm_af C X 124 9 ls [] (C 125 [.ref a, w1] N I L P) := st_virt b124 dX10_digest_6 (n := 2) (rest := []) rfl rfl rfl rfl rfl rfl rfl h h1
theorem s124_9 : sm_at C X 124 9 [l0, l1, l2, l3] (.long z0 :: st) N I L P = sm_at C X 124 10 [sm_cl l0, some (.long z0), none, l3] st N I L P := st_go b124 dX10_digest_9 (by decide) rfl
theorem s124_10 : sm_at C X 124 10 [some (.ref a), l1, l2, l3] st N I L P = sm_at C X 124 11 [some (.ref a), l1, l2, l3] (.ref a :: st) N I L P := st_go b124 dX10_digest_10 (by decide) rfl
theorem s124_11 : sm_at C X 124 11 [l0, some (.long z0), l2, l3] st N I L P = sm_at C X 124 12 [l0, some (.long z0), l2, l3] (.long z0 :: st) N I L P := st_go b124 dX10_digest_11 (by decide) rfl
theorem s124_12 (h : a < N) (h1 : sm_lay a = .inl 10) : sm_at C X 124 12 ls [w1, .ref a] N I L P = sm_af C X 124 15 ls [] (C 126 [.ref a, w1] N I L P) := st_virt b124 dX10_digest_12 (n := 2) (rest := []) rfl rfl rfl rfl rfl rfl rfl h h1
theorem s124_15 : sm_at C X 124 15 [l0, l1, l2, l3] (.long z0 :: st) N I L P = sm_at C X 124 16 [sm_cl l0, some (.long z0), none, l3] st N I L P := st_go b124 dX10_digest_15 (by decide) rfl
theorem s124_16 : sm_at C X 124 16 [l0, some (.long z0), l2, l3] st N I L P = sm_at C X 124 17 [l0, some (.long z0), l2, l3] (.long z0 :: st) N I L P := st_go b124 dX10_digest_16 (by decide) rfl
theorem s124_17 : sm_at C X 124 17 [some (.ref a), l1, l2, l3] st N I L P = sm_at C X 124 18 [some (.ref a), l1, l2, l3] (.ref a :: st) N I L P := st_go b124 dX10_digest_17 (by decide) rfl
theorem s124_18 (h : a < N) (h1 : sm_lay a = .inl 10) : sm_at C X 124 18 ls [.ref a, v0] N I L P = sm_af C X 124 21 ls [v0] (C 107 [.ref a] N I L P) := st_virt b124 dX10_digest_18 (n := 1) (rest := [v0]) rfl rfl rfl rfl rfl rfl rfl h h1
theorem s124_21 : sm_at C X 124 21 ls (.int x0 :: st) N I L P = sm_at C X 124 22 ls (.long x0.toInt64 :: st) N I L P := st_go b124 dX10_digest_21 (by decide) rfl
theorem s124_22 : sm_at C X 124 22 ls [w1, w0] N I L P = sm_af C X 124 25 ls [] (C 131 [w0, w1] N I L P) := st_stat b124 dX10_digest_22 (n := 2) (rest := []) rfl rfl rfl rfl rfl rfl
theorem s124_25 : sm_at C X 124 25 [l0, l1, l2, l3] (.long z0 :: st) N I L P = sm_at C X 124 26 [sm_cl l0, some (.long z0), none, l3] st N I L P := st_go b124 dX10_digest_25 (by decide) rfl
theorem s124_26 : sm_at C X 124 26 [some (.ref a), l1, l2, l3] st N I L P = sm_at C X 124 27 [some (.ref a), l1, l2, l3] (.ref a :: st) N I L P := st_go b124 dX10_digest_26 (by decide) rfl
theorem s124_27 : sm_at C X 124 27 [l0, some (.long z0), l2, l3] st N I L P = sm_at C X 124 28 [l0, some (.long z0), l2, l3] (.long z0 :: st) N I L P := st_go b124 dX10_digest_27 (by decide) rfl
theorem s124_28 (h : a < N) (h1 : sm_lay a = .inl 10) : sm_at C X 124 28 ls [w1, .ref a] N I L P = sm_af C X 124 31 ls [] (C 127 [.ref a, w1] N I L P) := st_virt b124 dX10_digest_28 (n := 2) (rest := []) rfl rfl rfl rfl rfl rfl rfl h h1
theorem s124_31 : sm_at C X 124 31 [l0, l1, l2, l3] (.long z0 :: st) N I L P = sm_at C X 124 32 [sm_cl l0, some (.long z0), none, l3] st N I L P := st_go b124 dX10_digest_31 (by decide) rfl
theorem s124_32 : sm_at C X 124 32 [some (.ref a), l1, l2, l3] st N I L P = sm_at C X 124 33 [some (.ref a), l1, l2, l3] (.ref a :: st) N I L P := st_go b124 dX10_digest_32 (by decide) rfl
theorem s124_33 : sm_at C X 124 33 [l0, some (.long z0), l2, l3] st N I L P = sm_at C X 124 34 [l0, some (.long z0), l2, l3] (.long z0 :: st) N I L P := st_go b124 dX10_digest_33 (by decide) rfl
theorem s124_34 (h : a < N) (h1 : sm_lay a = .inl 10) : sm_at C X 124 34 ls [w1, .ref a] N I L P = sm_af C X 124 37 ls [] (C 128 [.ref a, w1] N I L P) := st_virt b124 dX10_digest_34 (n := 2) (rest := []) rfl rfl rfl rfl rfl rfl rfl h h1
theorem s124_37 : sm_at C X 124 37 [l0, l1, l2, l3] (.long z0 :: st) N I L P = sm_at C X 124 38 [sm_cl l0, some (.long z0), none, l3] st N I L P := st_go b124 dX10_digest_37 (by decide) rfl
theorem s124_38 : sm_at C X 124 38 [some (.ref a), l1, l2, l3] st N I L P = sm_at C X 124 39 [some (.ref a), l1, l2, l3] (.ref a :: st) N I L P := st_go b124 dX10_digest_38 (by decide) rfl
theorem s124_39 : sm_at C X 124 39 [l0, some (.long z0), l2, l3] st N I L P = sm_at C X 124 40 [l0, some (.long z0), l2, l3] (.long z0 :: st) N I L P := st_go b124 dX10_digest_39 (by decide) rfl
theorem s124_40 (h : a < N) (h1 : sm_lay a = .inl 10) : sm_at C X 124 40 ls [w1, .ref a] N I L P = sm_af C X 124 43 ls [] (C 129 [.ref a, w1] N I L P) := st_virt b124 dX10_digest_40 (n := 2) (rest := []) rfl rfl rfl rfl rfl rfl rfl h h1
theorem s124_43 : sm_at C X 124 43 [l0, l1, l2, l3] (.long z0 :: st) N I L P = sm_at C X 124 44 [sm_cl l0, some (.long z0), none, l3] st N I L P := st_go b124 dX10_digest_43 (by decide) rfl
theorem s124_44 : sm_at C X 124 44 [some (.ref a), l1, l2, l3] st N I L P = sm_at C X 124 45 [some (.ref a), l1, l2, l3] (.ref a :: st) N I L P := st_go b124 dX10_digest_44 (by decide) rfl
theorem s124_45 : sm_at C X 124 45 [l0, some (.long z0), l2, l3] st N I L P = sm_at C X 124 46 [l0, some (.long z0), l2, l3] (.long z0 :: st) N I L P := st_go b124 dX10_digest_45 (by decide) rfl
theorem s124_46 (h : a < N) (h1 : sm_lay a = .inl 10) : sm_at C X 124 46 ls [w1, .ref a] N I L P = sm_af C X 124 49 ls [] (C 130 [.ref a, w1] N I L P) := st_virt b124 dX10_digest_46 (n := 2) (rest := []) rfl rfl rfl rfl rfl rfl rfl h h1
theorem s124_49 : sm_at C X 124 49 [l0, l1, l2, l3] (.long z0 :: st) N I L P = sm_at C X 124 50 [sm_cl l0, some (.long z0), none, l3] st N I L P := st_go b124 dX10_digest_49 (by decide) rfl
theorem s124_50 : sm_at C X 124 50 ls st N I L P = sm_at C X 124 51 ls (.int (nI 0) :: st) N I L P := st_go b124 dX10_digest_50 (by decide) rfl
theorem s124_51 : sm_at C X 124 51 [l0, l1, l2, l3] (.int x0 :: st) N I L P = sm_at C X 124 52 [l0, l1, sm_cl l2, some (.int x0)] st N I L P := st_go b124 dX10_digest_51 (by decide) rfl
theorem s124_52 : sm_at C X 124 52 [l0, l1, l2, some (.int x0)] st N I L P = sm_at C X 124 53 [l0, l1, l2, some (.int x0)] (.int x0 :: st) N I L P := st_go b124 dX10_digest_52 (by decide) rfl
theorem s124_53 : sm_at C X 124 53 ls st N I L P = sm_at C X 124 55 ls (.int (nI 9) :: st) N I L P := st_go b124 dX10_digest_53 (by decide) rfl
theorem s124_55 : sm_at C X 124 55 ls (.int x0 :: .int x1 :: st) N I L P = if x0 ≤ x1 then sm_at C X 124 75 ls st N I L P else sm_at C X 124 58 ls st N I L P := st_br b124 dX10_digest_55 (by decide) rfl
theorem s124_58 : sm_at C X 124 58 [l0, some (.long z0), l2, l3] st N I L P = sm_at C X 124 59 [l0, some (.long z0), l2, l3] (.long z0 :: st) N I L P := st_go b124 dX10_digest_58 (by decide) rfl
theorem s124_59 : sm_at C X 124 59 [some (.ref a), l1, l2, l3] st N I L P = sm_at C X 124 60 [some (.ref a), l1, l2, l3] (.ref a :: st) N I L P := st_go b124 dX10_digest_59 (by decide) rfl
theorem s124_60 : sm_at C X 124 60 [l0, l1, l2, some (.int x0)] st N I L P = sm_at C X 124 61 [l0, l1, l2, some (.int x0)] (.int x0 :: st) N I L P := st_go b124 dX10_digest_60 (by decide) rfl
theorem s124_61 (h : a < N) (h1 : sm_lay a = .inl 10) : sm_at C X 124 61 ls [w1, .ref a, v0] N I L P = sm_af C X 124 64 ls [v0] (C 123 [.ref a, w1] N I L P) := st_virt b124 dX10_digest_61 (n := 2) (rest := [v0]) rfl rfl rfl rfl rfl rfl rfl h h1
theorem s124_64 : sm_at C X 124 64 ls (.int x0 :: st) N I L P = sm_at C X 124 65 ls (.long x0.toInt64 :: st) N I L P := st_go b124 dX10_digest_64 (by decide) rfl
theorem s124_65 : sm_at C X 124 65 ls [w1, w0] N I L P = sm_af C X 124 68 ls [] (C 131 [w0, w1] N I L P) := st_stat b124 dX10_digest_65 (n := 2) (rest := []) rfl rfl rfl rfl rfl rfl
theorem s124_68 : sm_at C X 124 68 [l0, l1, l2, l3] (.long z0 :: st) N I L P = sm_at C X 124 69 [sm_cl l0, some (.long z0), none, l3] st N I L P := st_go b124 dX10_digest_68 (by decide) rfl
theorem s124_69 : sm_at C X 124 69 [l0, l1, l2, some (.int x0)] st N I L P = sm_at C X 124 72 [l0, l1, sm_cl l2, some (.int (x0 + (nI 1)))] st N I L P := st_go b124 dX10_digest_69 (by decide) rfl
theorem s124_72 : sm_at C X 124 72 ls st N I L P = sm_at C X 124 52 ls st N I L P := st_go b124 dX10_digest_72 (by decide) rfl
theorem s124_75 : sm_at C X 124 75 [l0, some (.long z0), l2, l3] st N I L P = sm_at C X 124 76 [l0, some (.long z0), l2, l3] (.long z0 :: st) N I L P := st_go b124 dX10_digest_75 (by decide) rfl
theorem s124_76 : sm_at C X 124 76 ls [.long z0] N I L P = some (some (.long z0), N, I, L, P) := st_ret b124 dX10_digest_76 (by decide) rfl
theorem b125 : sm_b 125 = cX10_mixBirths := rfl
theorem s125_0 : sm_at C X 125 0 [l0, some (.long z0), l2, l3, l4, l5, l6] st N I L P = sm_at C X 125 1 [l0, some (.long z0), l2, l3, l4, l5, l6] (.long z0 :: st) N I L P := st_go b125 dX10_mixBirths_0 (by decide) rfl
theorem s125_1 : sm_at C X 125 1 [l0, l1, l2, l3, l4, l5, l6] (.long z0 :: st) N I L P = sm_at C X 125 2 [l0, l1, sm_cl l2, some (.long z0), none, l5, l6] st N I L P := st_go b125 dX10_mixBirths_1 (by decide) rfl
theorem s125_2 : sm_at C X 125 2 ls st N I L P = sm_at C X 125 3 ls (.int (nI 0) :: st) N I L P := st_go b125 dX10_mixBirths_2 (by decide) rfl
theorem s125_3 : sm_at C X 125 3 [l0, l1, l2, l3, l4, l5, l6] (.int x0 :: st) N I L P = sm_at C X 125 5 [l0, l1, l2, l3, sm_cl l4, some (.int x0), l6] st N I L P := st_go b125 dX10_mixBirths_3 (by decide) rfl
theorem s125_5 : sm_at C X 125 5 [l0, l1, l2, l3, l4, some (.int x0), l6] st N I L P = sm_at C X 125 7 [l0, l1, l2, l3, l4, some (.int x0), l6] (.int x0 :: st) N I L P := st_go b125 dX10_mixBirths_5 (by decide) rfl
theorem s125_7 : sm_at C X 125 7 [some (.ref a), l1, l2, l3, l4, l5, l6] st N I L P = sm_at C X 125 8 [some (.ref a), l1, l2, l3, l4, l5, l6] (.ref a :: st) N I L P := st_go b125 dX10_mixBirths_7 (by decide) rfl
theorem s125_8 (h : a < N) (h1 : sm_lay a = .inl 10) : sm_at C X 125 8 ls (.ref a :: st) N I L P = sm_at C X 125 11 ls (va_rf (P a 8) :: st) N I L P := st_gfR b125 dX10_mixBirths_8 rfl rfl h h1
theorem s125_11 (h : a < N) (h1 : sm_lay a = .inl 6) : sm_at C X 125 11 ls [.ref a, v0] N I L P = sm_af C X 125 14 ls [v0] (C 59 [.ref a] N I L P) := st_virt b125 dX10_mixBirths_11 (n := 1) (rest := [v0]) rfl rfl rfl rfl rfl rfl rfl h h1
theorem s125_14 : sm_at C X 125 14 ls (.int x0 :: .int x1 :: st) N I L P = if x0 ≤ x1 then sm_at C X 125 53 ls st N I L P else sm_at C X 125 17 ls st N I L P := st_br b125 dX10_mixBirths_14 (by decide) rfl
theorem s125_17 : sm_at C X 125 17 ls st N I L P = sm_at C X 125 18 ls (.int (nI 0) :: st) N I L P := st_go b125 dX10_mixBirths_17 (by decide) rfl
theorem s125_18 : sm_at C X 125 18 [l0, l1, l2, l3, l4, l5, l6] (.int x0 :: st) N I L P = sm_at C X 125 20 [l0, l1, l2, l3, l4, sm_cl l5, some (.int x0)] st N I L P := st_go b125 dX10_mixBirths_18 (by decide) rfl
theorem s125_20 : sm_at C X 125 20 [l0, l1, l2, l3, l4, l5, some (.int x0)] st N I L P = sm_at C X 125 22 [l0, l1, l2, l3, l4, l5, some (.int x0)] (.int x0 :: st) N I L P := st_go b125 dX10_mixBirths_20 (by decide) rfl
theorem s125_22 : sm_at C X 125 22 ls st N I L P = sm_at C X 125 24 ls (.int (nI 7) :: st) N I L P := st_go b125 dX10_mixBirths_22 (by decide) rfl
theorem s125_24 : sm_at C X 125 24 ls (.int x0 :: .int x1 :: st) N I L P = if x0 ≤ x1 then sm_at C X 125 47 ls st N I L P else sm_at C X 125 27 ls st N I L P := st_br b125 dX10_mixBirths_24 (by decide) rfl
theorem s125_27 : sm_at C X 125 27 [l0, l1, l2, some (.long z0), l4, l5, l6] st N I L P = sm_at C X 125 28 [l0, l1, l2, some (.long z0), l4, l5, l6] (.long z0 :: st) N I L P := st_go b125 dX10_mixBirths_27 (by decide) rfl
theorem s125_28 : sm_at C X 125 28 [some (.ref a), l1, l2, l3, l4, l5, l6] st N I L P = sm_at C X 125 29 [some (.ref a), l1, l2, l3, l4, l5, l6] (.ref a :: st) N I L P := st_go b125 dX10_mixBirths_28 (by decide) rfl
theorem s125_29 : sm_at C X 125 29 [l0, l1, l2, l3, l4, some (.int x0), l6] st N I L P = sm_at C X 125 31 [l0, l1, l2, l3, l4, some (.int x0), l6] (.int x0 :: st) N I L P := st_go b125 dX10_mixBirths_29 (by decide) rfl
theorem s125_31 : sm_at C X 125 31 [l0, l1, l2, l3, l4, l5, some (.int x0)] st N I L P = sm_at C X 125 33 [l0, l1, l2, l3, l4, l5, some (.int x0)] (.int x0 :: st) N I L P := st_go b125 dX10_mixBirths_31 (by decide) rfl
theorem s125_33 (h : a < N) (h1 : sm_lay a = .inl 10) : sm_at C X 125 33 ls [w2, w1, .ref a, v0] N I L P = sm_af C X 125 36 ls [v0] (C 100 [.ref a, w1, w2] N I L P) := st_virt b125 dX10_mixBirths_33 (n := 3) (rest := [v0]) rfl rfl rfl rfl rfl rfl rfl h h1
theorem s125_36 : sm_at C X 125 36 ls (.int x0 :: st) N I L P = sm_at C X 125 37 ls (.long x0.toInt64 :: st) N I L P := st_go b125 dX10_mixBirths_36 (by decide) rfl
theorem s125_37 : sm_at C X 125 37 ls [w1, w0] N I L P = sm_af C X 125 40 ls [] (C 131 [w0, w1] N I L P) := st_stat b125 dX10_mixBirths_37 (n := 2) (rest := []) rfl rfl rfl rfl rfl rfl
theorem s125_40 : sm_at C X 125 40 [l0, l1, l2, l3, l4, l5, l6] (.long z0 :: st) N I L P = sm_at C X 125 41 [l0, l1, sm_cl l2, some (.long z0), none, l5, l6] st N I L P := st_go b125 dX10_mixBirths_40 (by decide) rfl
theorem s125_41 : sm_at C X 125 41 [l0, l1, l2, l3, l4, l5, some (.int x0)] st N I L P = sm_at C X 125 44 [l0, l1, l2, l3, l4, sm_cl l5, some (.int (x0 + (nI 1)))] st N I L P := st_go b125 dX10_mixBirths_41 (by decide) rfl
theorem s125_44 : sm_at C X 125 44 ls st N I L P = sm_at C X 125 20 ls st N I L P := st_go b125 dX10_mixBirths_44 (by decide) rfl
theorem s125_47 : sm_at C X 125 47 [l0, l1, l2, l3, l4, some (.int x0), l6] st N I L P = sm_at C X 125 50 [l0, l1, l2, l3, sm_cl l4, some (.int (x0 + (nI 1))), l6] st N I L P := st_go b125 dX10_mixBirths_47 (by decide) rfl
theorem s125_50 : sm_at C X 125 50 ls st N I L P = sm_at C X 125 5 ls st N I L P := st_go b125 dX10_mixBirths_50 (by decide) rfl
theorem s125_53 : sm_at C X 125 53 [l0, l1, l2, some (.long z0), l4, l5, l6] st N I L P = sm_at C X 125 54 [l0, l1, l2, some (.long z0), l4, l5, l6] (.long z0 :: st) N I L P := st_go b125 dX10_mixBirths_53 (by decide) rfl
theorem s125_54 : sm_at C X 125 54 ls [.long z0] N I L P = some (some (.long z0), N, I, L, P) := st_ret b125 dX10_mixBirths_54 (by decide) rfl
theorem b126 : sm_b 126 = cX10_mixPeople := rfl
theorem s126_0 : sm_at C X 126 0 [l0, some (.long z0), l2, l3, l4, l5, l6] st N I L P = sm_at C X 126 1 [l0, some (.long z0), l2, l3, l4, l5, l6] (.long z0 :: st) N I L P := st_go b126 dX10_mixPeople_0 (by decide) rfl
theorem s126_1 : sm_at C X 126 1 [l0, l1, l2, l3, l4, l5, l6] (.long z0 :: st) N I L P = sm_at C X 126 2 [l0, l1, sm_cl l2, some (.long z0), none, l5, l6] st N I L P := st_go b126 dX10_mixPeople_1 (by decide) rfl
theorem s126_2 : sm_at C X 126 2 ls st N I L P = sm_at C X 126 3 ls (.int (nI 0) :: st) N I L P := st_go b126 dX10_mixPeople_2 (by decide) rfl
theorem s126_3 : sm_at C X 126 3 [l0, l1, l2, l3, l4, l5, l6] (.int x0 :: st) N I L P = sm_at C X 126 5 [l0, l1, l2, l3, sm_cl l4, some (.int x0), l6] st N I L P := st_go b126 dX10_mixPeople_3 (by decide) rfl
theorem s126_5 : sm_at C X 126 5 [l0, l1, l2, l3, l4, some (.int x0), l6] st N I L P = sm_at C X 126 7 [l0, l1, l2, l3, l4, some (.int x0), l6] (.int x0 :: st) N I L P := st_go b126 dX10_mixPeople_5 (by decide) rfl
theorem s126_7 : sm_at C X 126 7 ls st N I L P = sm_at C X 126 9 ls (.int (nI 10) :: st) N I L P := st_go b126 dX10_mixPeople_7 (by decide) rfl
theorem s126_9 : sm_at C X 126 9 ls (.int x0 :: .int x1 :: st) N I L P = if x0 ≤ x1 then sm_at C X 126 63 ls st N I L P else sm_at C X 126 12 ls st N I L P := st_br b126 dX10_mixPeople_9 (by decide) rfl
theorem s126_12 : sm_at C X 126 12 ls st N I L P = sm_at C X 126 13 ls (.int (nI 0) :: st) N I L P := st_go b126 dX10_mixPeople_12 (by decide) rfl
theorem s126_13 : sm_at C X 126 13 [l0, l1, l2, l3, l4, l5, l6] (.int x0 :: st) N I L P = sm_at C X 126 15 [l0, l1, l2, l3, l4, sm_cl l5, some (.int x0)] st N I L P := st_go b126 dX10_mixPeople_13 (by decide) rfl
theorem s126_15 : sm_at C X 126 15 [l0, l1, l2, l3, l4, l5, some (.int x0)] st N I L P = sm_at C X 126 17 [l0, l1, l2, l3, l4, l5, some (.int x0)] (.int x0 :: st) N I L P := st_go b126 dX10_mixPeople_15 (by decide) rfl
theorem s126_17 : sm_at C X 126 17 ls st N I L P = sm_at C X 126 18 ls (.int (nI 3) :: st) N I L P := st_go b126 dX10_mixPeople_17 (by decide) rfl
theorem s126_18 : sm_at C X 126 18 ls (.int x0 :: .int x1 :: st) N I L P = if x0 ≤ x1 then sm_at C X 126 41 ls st N I L P else sm_at C X 126 21 ls st N I L P := st_br b126 dX10_mixPeople_18 (by decide) rfl
theorem s126_21 : sm_at C X 126 21 [l0, l1, l2, some (.long z0), l4, l5, l6] st N I L P = sm_at C X 126 22 [l0, l1, l2, some (.long z0), l4, l5, l6] (.long z0 :: st) N I L P := st_go b126 dX10_mixPeople_21 (by decide) rfl
theorem s126_22 : sm_at C X 126 22 [some (.ref a), l1, l2, l3, l4, l5, l6] st N I L P = sm_at C X 126 23 [some (.ref a), l1, l2, l3, l4, l5, l6] (.ref a :: st) N I L P := st_go b126 dX10_mixPeople_22 (by decide) rfl
theorem s126_23 : sm_at C X 126 23 [l0, l1, l2, l3, l4, some (.int x0), l6] st N I L P = sm_at C X 126 25 [l0, l1, l2, l3, l4, some (.int x0), l6] (.int x0 :: st) N I L P := st_go b126 dX10_mixPeople_23 (by decide) rfl
theorem s126_25 : sm_at C X 126 25 [l0, l1, l2, l3, l4, l5, some (.int x0)] st N I L P = sm_at C X 126 27 [l0, l1, l2, l3, l4, l5, some (.int x0)] (.int x0 :: st) N I L P := st_go b126 dX10_mixPeople_25 (by decide) rfl
theorem s126_27 (h : a < N) (h1 : sm_lay a = .inl 10) : sm_at C X 126 27 ls [w2, w1, .ref a, v0] N I L P = sm_af C X 126 30 ls [v0] (C 102 [.ref a, w1, w2] N I L P) := st_virt b126 dX10_mixPeople_27 (n := 3) (rest := [v0]) rfl rfl rfl rfl rfl rfl rfl h h1
theorem s126_30 : sm_at C X 126 30 ls (.int x0 :: st) N I L P = sm_at C X 126 31 ls (.long x0.toInt64 :: st) N I L P := st_go b126 dX10_mixPeople_30 (by decide) rfl
theorem s126_31 : sm_at C X 126 31 ls [w1, w0] N I L P = sm_af C X 126 34 ls [] (C 131 [w0, w1] N I L P) := st_stat b126 dX10_mixPeople_31 (n := 2) (rest := []) rfl rfl rfl rfl rfl rfl
theorem s126_34 : sm_at C X 126 34 [l0, l1, l2, l3, l4, l5, l6] (.long z0 :: st) N I L P = sm_at C X 126 35 [l0, l1, sm_cl l2, some (.long z0), none, l5, l6] st N I L P := st_go b126 dX10_mixPeople_34 (by decide) rfl
theorem s126_35 : sm_at C X 126 35 [l0, l1, l2, l3, l4, l5, some (.int x0)] st N I L P = sm_at C X 126 38 [l0, l1, l2, l3, l4, sm_cl l5, some (.int (x0 + (nI 1)))] st N I L P := st_go b126 dX10_mixPeople_35 (by decide) rfl
theorem s126_38 : sm_at C X 126 38 ls st N I L P = sm_at C X 126 15 ls st N I L P := st_go b126 dX10_mixPeople_38 (by decide) rfl
theorem s126_41 : sm_at C X 126 41 [l0, l1, l2, some (.long z0), l4, l5, l6] st N I L P = sm_at C X 126 42 [l0, l1, l2, some (.long z0), l4, l5, l6] (.long z0 :: st) N I L P := st_go b126 dX10_mixPeople_41 (by decide) rfl
theorem s126_42 : sm_at C X 126 42 [some (.ref a), l1, l2, l3, l4, l5, l6] st N I L P = sm_at C X 126 43 [some (.ref a), l1, l2, l3, l4, l5, l6] (.ref a :: st) N I L P := st_go b126 dX10_mixPeople_42 (by decide) rfl
theorem s126_43 : sm_at C X 126 43 [l0, l1, l2, l3, l4, some (.int x0), l6] st N I L P = sm_at C X 126 45 [l0, l1, l2, l3, l4, some (.int x0), l6] (.int x0 :: st) N I L P := st_go b126 dX10_mixPeople_43 (by decide) rfl
theorem s126_45 : sm_at C X 126 45 ls st N I L P = sm_at C X 126 46 ls (.int (nI 0) :: st) N I L P := st_go b126 dX10_mixPeople_45 (by decide) rfl
theorem s126_46 : sm_at C X 126 46 ls st N I L P = sm_at C X 126 49 ls (.int (nI 1999) :: st) N I L P := st_go b126 dX10_mixPeople_46 (by decide) rfl
theorem s126_49 (h : a < N) (h1 : sm_lay a = .inl 10) : sm_at C X 126 49 ls [w3, w2, w1, .ref a, v0] N I L P = sm_af C X 126 52 ls [v0] (C 105 [.ref a, w1, w2, w3] N I L P) := st_virt b126 dX10_mixPeople_49 (n := 4) (rest := [v0]) rfl rfl rfl rfl rfl rfl rfl h h1
theorem s126_52 : sm_at C X 126 52 ls (.int x0 :: st) N I L P = sm_at C X 126 53 ls (.long x0.toInt64 :: st) N I L P := st_go b126 dX10_mixPeople_52 (by decide) rfl
theorem s126_53 : sm_at C X 126 53 ls [w1, w0] N I L P = sm_af C X 126 56 ls [] (C 131 [w0, w1] N I L P) := st_stat b126 dX10_mixPeople_53 (n := 2) (rest := []) rfl rfl rfl rfl rfl rfl
theorem s126_56 : sm_at C X 126 56 [l0, l1, l2, l3, l4, l5, l6] (.long z0 :: st) N I L P = sm_at C X 126 57 [l0, l1, sm_cl l2, some (.long z0), none, l5, l6] st N I L P := st_go b126 dX10_mixPeople_56 (by decide) rfl
theorem s126_57 : sm_at C X 126 57 [l0, l1, l2, l3, l4, some (.int x0), l6] st N I L P = sm_at C X 126 60 [l0, l1, l2, l3, sm_cl l4, some (.int (x0 + (nI 1))), l6] st N I L P := st_go b126 dX10_mixPeople_57 (by decide) rfl
theorem s126_60 : sm_at C X 126 60 ls st N I L P = sm_at C X 126 5 ls st N I L P := st_go b126 dX10_mixPeople_60 (by decide) rfl
theorem s126_63 : sm_at C X 126 63 [l0, l1, l2, some (.long z0), l4, l5, l6] st N I L P = sm_at C X 126 64 [l0, l1, l2, some (.long z0), l4, l5, l6] (.long z0 :: st) N I L P := st_go b126 dX10_mixPeople_63 (by decide) rfl
theorem s126_64 : sm_at C X 126 64 ls [.long z0] N I L P = some (some (.long z0), N, I, L, P) := st_ret b126 dX10_mixPeople_64 (by decide) rfl
theorem b127 : sm_b 127 = cX10_mixNews := rfl
theorem s127_0 : sm_at C X 127 0 [l0, some (.long z0), l2, l3, l4, l5, l6] st N I L P = sm_at C X 127 1 [l0, some (.long z0), l2, l3, l4, l5, l6] (.long z0 :: st) N I L P := st_go b127 dX10_mixNews_0 (by decide) rfl
theorem s127_1 : sm_at C X 127 1 [l0, l1, l2, l3, l4, l5, l6] (.long z0 :: st) N I L P = sm_at C X 127 2 [l0, l1, sm_cl l2, some (.long z0), none, l5, l6] st N I L P := st_go b127 dX10_mixNews_1 (by decide) rfl
theorem s127_2 : sm_at C X 127 2 [some (.ref a), l1, l2, l3, l4, l5, l6] st N I L P = sm_at C X 127 3 [some (.ref a), l1, l2, l3, l4, l5, l6] (.ref a :: st) N I L P := st_go b127 dX10_mixNews_2 (by decide) rfl
theorem s127_3 (h : a < N) (h1 : sm_lay a = .inl 10) : sm_at C X 127 3 ls (.ref a :: st) N I L P = sm_at C X 127 6 ls (va_rf (P a 2) :: st) N I L P := st_gfR b127 dX10_mixNews_3 rfl rfl h h1
theorem s127_6 : sm_at C X 127 6 [some (.ref a), l1, l2, l3, l4, l5, l6] st N I L P = sm_at C X 127 7 [some (.ref a), l1, l2, l3, l4, l5, l6] (.ref a :: st) N I L P := st_go b127 dX10_mixNews_6 (by decide) rfl
theorem s127_7 (h : a < N) (h1 : sm_lay a = .inl 10) : sm_at C X 127 7 ls (.ref a :: st) N I L P = sm_at C X 127 10 ls (va_rf (P a 8) :: st) N I L P := st_gfR b127 dX10_mixNews_7 rfl rfl h h1
theorem s127_10 : sm_at C X 127 10 [some (.ref a), l1, l2, l3, l4, l5, l6] st N I L P = sm_at C X 127 11 [some (.ref a), l1, l2, l3, l4, l5, l6] (.ref a :: st) N I L P := st_go b127 dX10_mixNews_10 (by decide) rfl
theorem s127_11 (h : a < N) (h1 : sm_lay a = .inl 10) : sm_at C X 127 11 ls (.ref a :: st) N I L P = sm_at C X 127 14 ls (va_rf (P a 7) :: st) N I L P := st_gfR b127 dX10_mixNews_11 rfl rfl h h1
theorem s127_14 : sm_at C X 127 14 ls st N I L P = sm_at C X 127 15 ls (.int (nI 0) :: st) N I L P := st_go b127 dX10_mixNews_14 (by decide) rfl
theorem s127_15 (h : a < N) (h1 : sm_lay a = .inl 4) : sm_at C X 127 15 ls [w3, w2, w1, .ref a] N I L P = sm_af C X 127 18 ls [] (C 41 [.ref a, w1, w2, w3] N I L P) := st_virt b127 dX10_mixNews_15 (n := 4) (rest := []) rfl rfl rfl rfl rfl rfl rfl h h1
theorem s127_18 : sm_at C X 127 18 ls st N I L P = sm_at C X 127 19 ls (.int (nI 0) :: st) N I L P := st_go b127 dX10_mixNews_18 (by decide) rfl
theorem s127_19 : sm_at C X 127 19 [l0, l1, l2, l3, l4, l5, l6] (.int x0 :: st) N I L P = sm_at C X 127 21 [l0, l1, l2, l3, sm_cl l4, some (.int x0), l6] st N I L P := st_go b127 dX10_mixNews_19 (by decide) rfl
theorem s127_21 : sm_at C X 127 21 [l0, l1, l2, l3, l4, some (.int x0), l6] st N I L P = sm_at C X 127 23 [l0, l1, l2, l3, l4, some (.int x0), l6] (.int x0 :: st) N I L P := st_go b127 dX10_mixNews_21 (by decide) rfl
theorem s127_23 : sm_at C X 127 23 ls st N I L P = sm_at C X 127 25 ls (.int (nI 6) :: st) N I L P := st_go b127 dX10_mixNews_23 (by decide) rfl
theorem s127_25 : sm_at C X 127 25 ls (.int x0 :: .int x1 :: st) N I L P = if x0 ≤ x1 then sm_at C X 127 67 ls st N I L P else sm_at C X 127 28 ls st N I L P := st_br b127 dX10_mixNews_25 (by decide) rfl
theorem s127_28 : sm_at C X 127 28 ls st N I L P = sm_at C X 127 29 ls (.int (nI 0) :: st) N I L P := st_go b127 dX10_mixNews_28 (by decide) rfl
theorem s127_29 : sm_at C X 127 29 [l0, l1, l2, l3, l4, l5, l6] (.int x0 :: st) N I L P = sm_at C X 127 31 [l0, l1, l2, l3, l4, sm_cl l5, some (.int x0)] st N I L P := st_go b127 dX10_mixNews_29 (by decide) rfl
theorem s127_31 : sm_at C X 127 31 [l0, l1, l2, l3, l4, l5, some (.int x0)] st N I L P = sm_at C X 127 33 [l0, l1, l2, l3, l4, l5, some (.int x0)] (.int x0 :: st) N I L P := st_go b127 dX10_mixNews_31 (by decide) rfl
theorem s127_33 : sm_at C X 127 33 ls st N I L P = sm_at C X 127 35 ls (.int (nI 6) :: st) N I L P := st_go b127 dX10_mixNews_33 (by decide) rfl
theorem s127_35 : sm_at C X 127 35 ls (.int x0 :: .int x1 :: st) N I L P = if x0 ≤ x1 then sm_at C X 127 61 ls st N I L P else sm_at C X 127 38 ls st N I L P := st_br b127 dX10_mixNews_35 (by decide) rfl
theorem s127_38 : sm_at C X 127 38 [l0, l1, l2, some (.long z0), l4, l5, l6] st N I L P = sm_at C X 127 39 [l0, l1, l2, some (.long z0), l4, l5, l6] (.long z0 :: st) N I L P := st_go b127 dX10_mixNews_38 (by decide) rfl
theorem s127_39 : sm_at C X 127 39 [some (.ref a), l1, l2, l3, l4, l5, l6] st N I L P = sm_at C X 127 40 [some (.ref a), l1, l2, l3, l4, l5, l6] (.ref a :: st) N I L P := st_go b127 dX10_mixNews_39 (by decide) rfl
theorem s127_40 (h : a < N) (h1 : sm_lay a = .inl 10) : sm_at C X 127 40 ls (.ref a :: st) N I L P = sm_at C X 127 43 ls (va_rf (P a 2) :: st) N I L P := st_gfR b127 dX10_mixNews_40 rfl rfl h h1
theorem s127_43 : sm_at C X 127 43 [l0, l1, l2, l3, l4, some (.int x0), l6] st N I L P = sm_at C X 127 45 [l0, l1, l2, l3, l4, some (.int x0), l6] (.int x0 :: st) N I L P := st_go b127 dX10_mixNews_43 (by decide) rfl
theorem s127_45 : sm_at C X 127 45 [l0, l1, l2, l3, l4, l5, some (.int x0)] st N I L P = sm_at C X 127 47 [l0, l1, l2, l3, l4, l5, some (.int x0)] (.int x0 :: st) N I L P := st_go b127 dX10_mixNews_45 (by decide) rfl
theorem s127_47 (h : a < N) (h1 : sm_lay a = .inl 4) : sm_at C X 127 47 ls [w2, w1, .ref a, v0] N I L P = sm_af C X 127 50 ls [v0] (C 43 [.ref a, w1, w2] N I L P) := st_virt b127 dX10_mixNews_47 (n := 3) (rest := [v0]) rfl rfl rfl rfl rfl rfl rfl h h1
theorem s127_50 : sm_at C X 127 50 ls (.int x0 :: st) N I L P = sm_at C X 127 51 ls (.long x0.toInt64 :: st) N I L P := st_go b127 dX10_mixNews_50 (by decide) rfl
theorem s127_51 : sm_at C X 127 51 ls [w1, w0] N I L P = sm_af C X 127 54 ls [] (C 131 [w0, w1] N I L P) := st_stat b127 dX10_mixNews_51 (n := 2) (rest := []) rfl rfl rfl rfl rfl rfl
theorem s127_54 : sm_at C X 127 54 [l0, l1, l2, l3, l4, l5, l6] (.long z0 :: st) N I L P = sm_at C X 127 55 [l0, l1, sm_cl l2, some (.long z0), none, l5, l6] st N I L P := st_go b127 dX10_mixNews_54 (by decide) rfl
theorem s127_55 : sm_at C X 127 55 [l0, l1, l2, l3, l4, l5, some (.int x0)] st N I L P = sm_at C X 127 58 [l0, l1, l2, l3, l4, sm_cl l5, some (.int (x0 + (nI 1)))] st N I L P := st_go b127 dX10_mixNews_55 (by decide) rfl
theorem s127_58 : sm_at C X 127 58 ls st N I L P = sm_at C X 127 31 ls st N I L P := st_go b127 dX10_mixNews_58 (by decide) rfl
theorem s127_61 : sm_at C X 127 61 [l0, l1, l2, l3, l4, some (.int x0), l6] st N I L P = sm_at C X 127 64 [l0, l1, l2, l3, sm_cl l4, some (.int (x0 + (nI 1))), l6] st N I L P := st_go b127 dX10_mixNews_61 (by decide) rfl
theorem s127_64 : sm_at C X 127 64 ls st N I L P = sm_at C X 127 21 ls st N I L P := st_go b127 dX10_mixNews_64 (by decide) rfl
theorem s127_67 : sm_at C X 127 67 [l0, l1, l2, some (.long z0), l4, l5, l6] st N I L P = sm_at C X 127 68 [l0, l1, l2, some (.long z0), l4, l5, l6] (.long z0 :: st) N I L P := st_go b127 dX10_mixNews_67 (by decide) rfl
theorem s127_68 : sm_at C X 127 68 ls [.long z0] N I L P = some (some (.long z0), N, I, L, P) := st_ret b127 dX10_mixNews_68 (by decide) rfl
theorem b128 : sm_b 128 = cX10_mixBook := rfl
theorem s128_0 : sm_at C X 128 0 [l0, some (.long z0), l2, l3, l4, l5] st N I L P = sm_at C X 128 1 [l0, some (.long z0), l2, l3, l4, l5] (.long z0 :: st) N I L P := st_go b128 dX10_mixBook_0 (by decide) rfl
theorem s128_1 : sm_at C X 128 1 [l0, l1, l2, l3, l4, l5] (.long z0 :: st) N I L P = sm_at C X 128 2 [l0, l1, sm_cl l2, some (.long z0), none, l5] st N I L P := st_go b128 dX10_mixBook_1 (by decide) rfl
theorem s128_2 : sm_at C X 128 2 ls st N I L P = sm_at C X 128 3 ls (.int (nI 0) :: st) N I L P := st_go b128 dX10_mixBook_2 (by decide) rfl
theorem s128_3 : sm_at C X 128 3 [l0, l1, l2, l3, l4, l5] (.int x0 :: st) N I L P = sm_at C X 128 5 [l0, l1, l2, l3, sm_cl l4, some (.int x0)] st N I L P := st_go b128 dX10_mixBook_3 (by decide) rfl
theorem s128_5 : sm_at C X 128 5 [l0, l1, l2, l3, l4, some (.int x0)] st N I L P = sm_at C X 128 7 [l0, l1, l2, l3, l4, some (.int x0)] (.int x0 :: st) N I L P := st_go b128 dX10_mixBook_5 (by decide) rfl
theorem s128_7 : sm_at C X 128 7 [some (.ref a), l1, l2, l3, l4, l5] st N I L P = sm_at C X 128 8 [some (.ref a), l1, l2, l3, l4, l5] (.ref a :: st) N I L P := st_go b128 dX10_mixBook_7 (by decide) rfl
theorem s128_8 (h : a < N) (h1 : sm_lay a = .inl 10) : sm_at C X 128 8 ls (.ref a :: st) N I L P = sm_at C X 128 11 ls (va_rf (P a 3) :: st) N I L P := st_gfR b128 dX10_mixBook_8 rfl rfl h h1
theorem s128_11 (h : a < N) (h1 : sm_lay a = .inl 1) : sm_at C X 128 11 ls [.ref a, v0] N I L P = sm_af C X 128 14 ls [v0] (C 16 [.ref a] N I L P) := st_virt b128 dX10_mixBook_11 (n := 1) (rest := [v0]) rfl rfl rfl rfl rfl rfl rfl h h1
theorem s128_14 : sm_at C X 128 14 ls (.int x0 :: .int x1 :: st) N I L P = if x0 ≤ x1 then sm_at C X 128 38 ls st N I L P else sm_at C X 128 17 ls st N I L P := st_br b128 dX10_mixBook_14 (by decide) rfl
theorem s128_17 : sm_at C X 128 17 [l0, l1, l2, some (.long z0), l4, l5] st N I L P = sm_at C X 128 18 [l0, l1, l2, some (.long z0), l4, l5] (.long z0 :: st) N I L P := st_go b128 dX10_mixBook_17 (by decide) rfl
theorem s128_18 : sm_at C X 128 18 [some (.ref a), l1, l2, l3, l4, l5] st N I L P = sm_at C X 128 19 [some (.ref a), l1, l2, l3, l4, l5] (.ref a :: st) N I L P := st_go b128 dX10_mixBook_18 (by decide) rfl
theorem s128_19 (h : a < N) (h1 : sm_lay a = .inl 10) : sm_at C X 128 19 ls (.ref a :: st) N I L P = sm_at C X 128 22 ls (va_rf (P a 3) :: st) N I L P := st_gfR b128 dX10_mixBook_19 rfl rfl h h1
theorem s128_22 : sm_at C X 128 22 [l0, l1, l2, l3, l4, some (.int x0)] st N I L P = sm_at C X 128 24 [l0, l1, l2, l3, l4, some (.int x0)] (.int x0 :: st) N I L P := st_go b128 dX10_mixBook_22 (by decide) rfl
theorem s128_24 (h : a < N) (h1 : sm_lay a = .inl 1) : sm_at C X 128 24 ls [w1, .ref a, v0] N I L P = sm_af C X 128 27 ls [v0] (C 17 [.ref a, w1] N I L P) := st_virt b128 dX10_mixBook_24 (n := 2) (rest := [v0]) rfl rfl rfl rfl rfl rfl rfl h h1
theorem s128_27 : sm_at C X 128 27 ls (.int x0 :: st) N I L P = sm_at C X 128 28 ls (.long x0.toInt64 :: st) N I L P := st_go b128 dX10_mixBook_27 (by decide) rfl
theorem s128_28 : sm_at C X 128 28 ls [w1, w0] N I L P = sm_af C X 128 31 ls [] (C 131 [w0, w1] N I L P) := st_stat b128 dX10_mixBook_28 (n := 2) (rest := []) rfl rfl rfl rfl rfl rfl
theorem s128_31 : sm_at C X 128 31 [l0, l1, l2, l3, l4, l5] (.long z0 :: st) N I L P = sm_at C X 128 32 [l0, l1, sm_cl l2, some (.long z0), none, l5] st N I L P := st_go b128 dX10_mixBook_31 (by decide) rfl
theorem s128_32 : sm_at C X 128 32 [l0, l1, l2, l3, l4, some (.int x0)] st N I L P = sm_at C X 128 35 [l0, l1, l2, l3, sm_cl l4, some (.int (x0 + (nI 1)))] st N I L P := st_go b128 dX10_mixBook_32 (by decide) rfl
theorem s128_35 : sm_at C X 128 35 ls st N I L P = sm_at C X 128 5 ls st N I L P := st_go b128 dX10_mixBook_35 (by decide) rfl
theorem s128_38 : sm_at C X 128 38 [l0, l1, l2, some (.long z0), l4, l5] st N I L P = sm_at C X 128 39 [l0, l1, l2, some (.long z0), l4, l5] (.long z0 :: st) N I L P := st_go b128 dX10_mixBook_38 (by decide) rfl
theorem s128_39 : sm_at C X 128 39 ls [.long z0] N I L P = some (some (.long z0), N, I, L, P) := st_ret b128 dX10_mixBook_39 (by decide) rfl
theorem b129 : sm_b 129 = cX10_mixCrowd := rfl
theorem s129_0 : sm_at C X 129 0 [l0, some (.long z0), l2, l3, l4, l5] st N I L P = sm_at C X 129 1 [l0, some (.long z0), l2, l3, l4, l5] (.long z0 :: st) N I L P := st_go b129 dX10_mixCrowd_0 (by decide) rfl
theorem s129_1 : sm_at C X 129 1 [some (.ref a), l1, l2, l3, l4, l5] st N I L P = sm_at C X 129 2 [some (.ref a), l1, l2, l3, l4, l5] (.ref a :: st) N I L P := st_go b129 dX10_mixCrowd_1 (by decide) rfl
theorem s129_2 (h : a < N) (h1 : sm_lay a = .inl 10) : sm_at C X 129 2 ls (.ref a :: st) N I L P = sm_at C X 129 5 ls (va_rf (P a 4) :: st) N I L P := st_gfR b129 dX10_mixCrowd_2 rfl rfl h h1
theorem s129_5 (h : a < N) (h1 : sm_lay a = .inl 2) : sm_at C X 129 5 ls [.ref a, v0] N I L P = sm_af C X 129 8 ls [v0] (C 28 [.ref a] N I L P) := st_virt b129 dX10_mixCrowd_5 (n := 1) (rest := [v0]) rfl rfl rfl rfl rfl rfl rfl h h1
theorem s129_8 : sm_at C X 129 8 ls (.int x0 :: st) N I L P = sm_at C X 129 9 ls (.long x0.toInt64 :: st) N I L P := st_go b129 dX10_mixCrowd_8 (by decide) rfl
theorem s129_9 : sm_at C X 129 9 ls [w1, w0] N I L P = sm_af C X 129 12 ls [] (C 131 [w0, w1] N I L P) := st_stat b129 dX10_mixCrowd_9 (n := 2) (rest := []) rfl rfl rfl rfl rfl rfl
theorem s129_12 : sm_at C X 129 12 [l0, l1, l2, l3, l4, l5] (.long z0 :: st) N I L P = sm_at C X 129 13 [l0, l1, sm_cl l2, some (.long z0), none, l5] st N I L P := st_go b129 dX10_mixCrowd_12 (by decide) rfl
theorem s129_13 : sm_at C X 129 13 ls st N I L P = sm_at C X 129 14 ls (.int (nI 0) :: st) N I L P := st_go b129 dX10_mixCrowd_13 (by decide) rfl
theorem s129_14 : sm_at C X 129 14 [l0, l1, l2, l3, l4, l5] (.int x0 :: st) N I L P = sm_at C X 129 16 [l0, l1, l2, l3, sm_cl l4, some (.int x0)] st N I L P := st_go b129 dX10_mixCrowd_14 (by decide) rfl
theorem s129_16 : sm_at C X 129 16 [l0, l1, l2, l3, l4, some (.int x0)] st N I L P = sm_at C X 129 18 [l0, l1, l2, l3, l4, some (.int x0)] (.int x0 :: st) N I L P := st_go b129 dX10_mixCrowd_16 (by decide) rfl
theorem s129_18 : sm_at C X 129 18 [some (.ref a), l1, l2, l3, l4, l5] st N I L P = sm_at C X 129 19 [some (.ref a), l1, l2, l3, l4, l5] (.ref a :: st) N I L P := st_go b129 dX10_mixCrowd_18 (by decide) rfl
theorem s129_19 (h : a < N) (h1 : sm_lay a = .inl 10) : sm_at C X 129 19 ls (.ref a :: st) N I L P = sm_at C X 129 22 ls (va_rf (P a 4) :: st) N I L P := st_gfR b129 dX10_mixCrowd_19 rfl rfl h h1
theorem s129_22 (h : a < N) (h1 : sm_lay a = .inl 2) : sm_at C X 129 22 ls [.ref a, v0] N I L P = sm_af C X 129 25 ls [v0] (C 23 [.ref a] N I L P) := st_virt b129 dX10_mixCrowd_22 (n := 1) (rest := [v0]) rfl rfl rfl rfl rfl rfl rfl h h1
theorem s129_25 : sm_at C X 129 25 ls (.int x0 :: .int x1 :: st) N I L P = if x0 ≤ x1 then sm_at C X 129 49 ls st N I L P else sm_at C X 129 28 ls st N I L P := st_br b129 dX10_mixCrowd_25 (by decide) rfl
theorem s129_28 : sm_at C X 129 28 [l0, l1, l2, some (.long z0), l4, l5] st N I L P = sm_at C X 129 29 [l0, l1, l2, some (.long z0), l4, l5] (.long z0 :: st) N I L P := st_go b129 dX10_mixCrowd_28 (by decide) rfl
theorem s129_29 : sm_at C X 129 29 [some (.ref a), l1, l2, l3, l4, l5] st N I L P = sm_at C X 129 30 [some (.ref a), l1, l2, l3, l4, l5] (.ref a :: st) N I L P := st_go b129 dX10_mixCrowd_29 (by decide) rfl
theorem s129_30 (h : a < N) (h1 : sm_lay a = .inl 10) : sm_at C X 129 30 ls (.ref a :: st) N I L P = sm_at C X 129 33 ls (va_rf (P a 4) :: st) N I L P := st_gfR b129 dX10_mixCrowd_30 rfl rfl h h1
theorem s129_33 : sm_at C X 129 33 [l0, l1, l2, l3, l4, some (.int x0)] st N I L P = sm_at C X 129 35 [l0, l1, l2, l3, l4, some (.int x0)] (.int x0 :: st) N I L P := st_go b129 dX10_mixCrowd_33 (by decide) rfl
theorem s129_35 (h : a < N) (h1 : sm_lay a = .inl 2) : sm_at C X 129 35 ls [w1, .ref a, v0] N I L P = sm_af C X 129 38 ls [v0] (C 29 [.ref a, w1] N I L P) := st_virt b129 dX10_mixCrowd_35 (n := 2) (rest := [v0]) rfl rfl rfl rfl rfl rfl rfl h h1
theorem s129_38 : sm_at C X 129 38 ls (.int x0 :: st) N I L P = sm_at C X 129 39 ls (.long x0.toInt64 :: st) N I L P := st_go b129 dX10_mixCrowd_38 (by decide) rfl
theorem s129_39 : sm_at C X 129 39 ls [w1, w0] N I L P = sm_af C X 129 42 ls [] (C 131 [w0, w1] N I L P) := st_stat b129 dX10_mixCrowd_39 (n := 2) (rest := []) rfl rfl rfl rfl rfl rfl
theorem s129_42 : sm_at C X 129 42 [l0, l1, l2, l3, l4, l5] (.long z0 :: st) N I L P = sm_at C X 129 43 [l0, l1, sm_cl l2, some (.long z0), none, l5] st N I L P := st_go b129 dX10_mixCrowd_42 (by decide) rfl
theorem s129_43 : sm_at C X 129 43 [l0, l1, l2, l3, l4, some (.int x0)] st N I L P = sm_at C X 129 46 [l0, l1, l2, l3, sm_cl l4, some (.int (x0 + (nI 1)))] st N I L P := st_go b129 dX10_mixCrowd_43 (by decide) rfl
theorem s129_46 : sm_at C X 129 46 ls st N I L P = sm_at C X 129 16 ls st N I L P := st_go b129 dX10_mixCrowd_46 (by decide) rfl
theorem s129_49 : sm_at C X 129 49 [l0, l1, l2, some (.long z0), l4, l5] st N I L P = sm_at C X 129 50 [l0, l1, l2, some (.long z0), l4, l5] (.long z0 :: st) N I L P := st_go b129 dX10_mixCrowd_49 (by decide) rfl
theorem s129_50 : sm_at C X 129 50 ls [.long z0] N I L P = some (some (.long z0), N, I, L, P) := st_ret b129 dX10_mixCrowd_50 (by decide) rfl
theorem b130 : sm_b 130 = cX10_mixPage := rfl
theorem s130_0 : sm_at C X 130 0 [l0, some (.long z0), l2, l3, l4, l5] st N I L P = sm_at C X 130 1 [l0, some (.long z0), l2, l3, l4, l5] (.long z0 :: st) N I L P := st_go b130 dX10_mixPage_0 (by decide) rfl
theorem s130_1 : sm_at C X 130 1 [l0, l1, l2, l3, l4, l5] (.long z0 :: st) N I L P = sm_at C X 130 2 [l0, l1, sm_cl l2, some (.long z0), none, l5] st N I L P := st_go b130 dX10_mixPage_1 (by decide) rfl
theorem s130_2 : sm_at C X 130 2 ls st N I L P = sm_at C X 130 3 ls (.int (nI 0) :: st) N I L P := st_go b130 dX10_mixPage_2 (by decide) rfl
theorem s130_3 : sm_at C X 130 3 [l0, l1, l2, l3, l4, l5] (.int x0 :: st) N I L P = sm_at C X 130 5 [l0, l1, l2, l3, sm_cl l4, some (.int x0)] st N I L P := st_go b130 dX10_mixPage_3 (by decide) rfl
theorem s130_5 : sm_at C X 130 5 [l0, l1, l2, l3, l4, some (.int x0)] st N I L P = sm_at C X 130 7 [l0, l1, l2, l3, l4, some (.int x0)] (.int x0 :: st) N I L P := st_go b130 dX10_mixPage_5 (by decide) rfl
theorem s130_7 : sm_at C X 130 7 [some (.ref a), l1, l2, l3, l4, l5] st N I L P = sm_at C X 130 8 [some (.ref a), l1, l2, l3, l4, l5] (.ref a :: st) N I L P := st_go b130 dX10_mixPage_7 (by decide) rfl
theorem s130_8 (h : a < N) (h1 : sm_lay a = .inl 10) : sm_at C X 130 8 ls (.ref a :: st) N I L P = sm_at C X 130 11 ls (va_rf (P a 0) :: st) N I L P := st_gfR b130 dX10_mixPage_8 rfl rfl h h1
theorem s130_11 (h : a < N) (h1 : sm_lay a = .inl 5) : sm_at C X 130 11 ls [.ref a, v0] N I L P = sm_af C X 130 14 ls [v0] (C 50 [.ref a] N I L P) := st_virt b130 dX10_mixPage_11 (n := 1) (rest := [v0]) rfl rfl rfl rfl rfl rfl rfl h h1
theorem s130_14 : sm_at C X 130 14 ls (.int x0 :: .int x1 :: st) N I L P = if x0 ≤ x1 then sm_at C X 130 38 ls st N I L P else sm_at C X 130 17 ls st N I L P := st_br b130 dX10_mixPage_14 (by decide) rfl
theorem s130_17 : sm_at C X 130 17 [l0, l1, l2, some (.long z0), l4, l5] st N I L P = sm_at C X 130 18 [l0, l1, l2, some (.long z0), l4, l5] (.long z0 :: st) N I L P := st_go b130 dX10_mixPage_17 (by decide) rfl
theorem s130_18 : sm_at C X 130 18 [some (.ref a), l1, l2, l3, l4, l5] st N I L P = sm_at C X 130 19 [some (.ref a), l1, l2, l3, l4, l5] (.ref a :: st) N I L P := st_go b130 dX10_mixPage_18 (by decide) rfl
theorem s130_19 (h : a < N) (h1 : sm_lay a = .inl 10) : sm_at C X 130 19 ls (.ref a :: st) N I L P = sm_at C X 130 22 ls (va_rf (P a 0) :: st) N I L P := st_gfR b130 dX10_mixPage_19 rfl rfl h h1
theorem s130_22 : sm_at C X 130 22 [l0, l1, l2, l3, l4, some (.int x0)] st N I L P = sm_at C X 130 24 [l0, l1, l2, l3, l4, some (.int x0)] (.int x0 :: st) N I L P := st_go b130 dX10_mixPage_22 (by decide) rfl
theorem s130_24 (h : a < N) (h1 : sm_lay a = .inl 5) : sm_at C X 130 24 ls [w1, .ref a, v0] N I L P = sm_af C X 130 27 ls [v0] (C 51 [.ref a, w1] N I L P) := st_virt b130 dX10_mixPage_24 (n := 2) (rest := [v0]) rfl rfl rfl rfl rfl rfl rfl h h1
theorem s130_27 : sm_at C X 130 27 ls (.int x0 :: st) N I L P = sm_at C X 130 28 ls (.long x0.toInt64 :: st) N I L P := st_go b130 dX10_mixPage_27 (by decide) rfl
theorem s130_28 : sm_at C X 130 28 ls [w1, w0] N I L P = sm_af C X 130 31 ls [] (C 131 [w0, w1] N I L P) := st_stat b130 dX10_mixPage_28 (n := 2) (rest := []) rfl rfl rfl rfl rfl rfl
theorem s130_31 : sm_at C X 130 31 [l0, l1, l2, l3, l4, l5] (.long z0 :: st) N I L P = sm_at C X 130 32 [l0, l1, sm_cl l2, some (.long z0), none, l5] st N I L P := st_go b130 dX10_mixPage_31 (by decide) rfl
theorem s130_32 : sm_at C X 130 32 [l0, l1, l2, l3, l4, some (.int x0)] st N I L P = sm_at C X 130 35 [l0, l1, l2, l3, sm_cl l4, some (.int (x0 + (nI 1)))] st N I L P := st_go b130 dX10_mixPage_32 (by decide) rfl
theorem s130_35 : sm_at C X 130 35 ls st N I L P = sm_at C X 130 5 ls st N I L P := st_go b130 dX10_mixPage_35 (by decide) rfl
theorem s130_38 : sm_at C X 130 38 [l0, l1, l2, some (.long z0), l4, l5] st N I L P = sm_at C X 130 39 [l0, l1, l2, some (.long z0), l4, l5] (.long z0 :: st) N I L P := st_go b130 dX10_mixPage_38 (by decide) rfl
theorem s130_39 : sm_at C X 130 39 ls [.long z0] N I L P = some (some (.long z0), N, I, L, P) := st_ret b130 dX10_mixPage_39 (by decide) rfl
theorem b131 : sm_b 131 = cX10_mix := rfl
theorem s131_0 : sm_at C X 131 0 ls st N I L P = sm_at C X 131 3 ls (.long (lN 31) :: st) N I L P := st_go b131 dX10_mix_0 (by decide) rfl
theorem s131_3 : sm_at C X 131 3 [some (.long z0), l1, l2, l3] st N I L P = sm_at C X 131 4 [some (.long z0), l1, l2, l3] (.long z0 :: st) N I L P := st_go b131 dX10_mix_3 (by decide) rfl
theorem s131_4 : sm_at C X 131 4 ls (.long z0 :: .long z1 :: st) N I L P = sm_at C X 131 5 ls (.long (z1 * z0) :: st) N I L P := st_go b131 dX10_mix_4 (by decide) rfl
theorem s131_5 : sm_at C X 131 5 [l0, l1, some (.long z0), l3] st N I L P = sm_at C X 131 6 [l0, l1, some (.long z0), l3] (.long z0 :: st) N I L P := st_go b131 dX10_mix_5 (by decide) rfl
theorem s131_6 : sm_at C X 131 6 ls (.long z0 :: .long z1 :: st) N I L P = sm_at C X 131 7 ls (.long (z1 + z0) :: st) N I L P := st_go b131 dX10_mix_6 (by decide) rfl
theorem s131_7 : sm_at C X 131 7 ls [.long z0] N I L P = some (some (.long z0), N, I, L, P) := st_ret b131 dX10_mix_7 (by decide) rfl
theorem b132 : sm_b 132 = cX10_isWithin := rfl
theorem s132_0 : sm_at C X 132 0 [some (.int x0), l1, l2] st N I L P = sm_at C X 132 1 [some (.int x0), l1, l2] (.int x0 :: st) N I L P := st_go b132 dX10_isWithin_0 (by decide) rfl
theorem s132_1 : sm_at C X 132 1 [l0, some (.int x0), l2] st N I L P = sm_at C X 132 2 [l0, some (.int x0), l2] (.int x0 :: st) N I L P := st_go b132 dX10_isWithin_1 (by decide) rfl
theorem s132_2 : sm_at C X 132 2 ls (.int x0 :: .int x1 :: st) N I L P = if x1 < x0 then sm_at C X 132 14 ls st N I L P else sm_at C X 132 5 ls st N I L P := st_br b132 dX10_isWithin_2 (by decide) rfl
theorem s132_5 : sm_at C X 132 5 [some (.int x0), l1, l2] st N I L P = sm_at C X 132 6 [some (.int x0), l1, l2] (.int x0 :: st) N I L P := st_go b132 dX10_isWithin_5 (by decide) rfl
theorem s132_6 : sm_at C X 132 6 [l0, l1, some (.int x0)] st N I L P = sm_at C X 132 7 [l0, l1, some (.int x0)] (.int x0 :: st) N I L P := st_go b132 dX10_isWithin_6 (by decide) rfl
theorem s132_7 : sm_at C X 132 7 ls (.int x0 :: .int x1 :: st) N I L P = if x0 < x1 then sm_at C X 132 14 ls st N I L P else sm_at C X 132 10 ls st N I L P := st_br b132 dX10_isWithin_7 (by decide) rfl
theorem s132_10 : sm_at C X 132 10 ls st N I L P = sm_at C X 132 11 ls (.int (nI 1) :: st) N I L P := st_go b132 dX10_isWithin_10 (by decide) rfl
theorem s132_11 : sm_at C X 132 11 ls st N I L P = sm_at C X 132 15 ls st N I L P := st_go b132 dX10_isWithin_11 (by decide) rfl
theorem s132_14 : sm_at C X 132 14 ls st N I L P = sm_at C X 132 15 ls (.int (nI 0) :: st) N I L P := st_go b132 dX10_isWithin_14 (by decide) rfl
theorem s132_15 (h : x0 = 0 ∨ x0 = 1) : sm_at C X 132 15 ls [.int x0] N I L P = some (some (.int x0), N, I, L, P) := st_zret b132 dX10_isWithin_15 rfl h
theorem b133 : sm_b 133 = cX10_isPerson := rfl
theorem s133_0 : sm_at C X 133 0 [some (.int x0)] st N I L P = sm_at C X 133 1 [some (.int x0)] (.int x0 :: st) N I L P := st_go b133 dX10_isPerson_0 (by decide) rfl
theorem s133_1 : sm_at C X 133 1 ls (.int x0 :: st) N I L P = if x0 < 0 then sm_at C X 133 14 ls st N I L P else sm_at C X 133 4 ls st N I L P := st_br b133 dX10_isPerson_1 (by decide) rfl
theorem s133_4 : sm_at C X 133 4 [some (.int x0)] st N I L P = sm_at C X 133 5 [some (.int x0)] (.int x0 :: st) N I L P := st_go b133 dX10_isPerson_4 (by decide) rfl
theorem s133_5 : sm_at C X 133 5 ls st N I L P = sm_at C X 133 7 ls (.int (nI 10) :: st) N I L P := st_go b133 dX10_isPerson_5 (by decide) rfl
theorem s133_7 : sm_at C X 133 7 ls (.int x0 :: .int x1 :: st) N I L P = if x0 ≤ x1 then sm_at C X 133 14 ls st N I L P else sm_at C X 133 10 ls st N I L P := st_br b133 dX10_isPerson_7 (by decide) rfl
theorem s133_10 : sm_at C X 133 10 ls st N I L P = sm_at C X 133 11 ls (.int (nI 1) :: st) N I L P := st_go b133 dX10_isPerson_10 (by decide) rfl
theorem s133_11 : sm_at C X 133 11 ls st N I L P = sm_at C X 133 15 ls st N I L P := st_go b133 dX10_isPerson_11 (by decide) rfl
theorem s133_14 : sm_at C X 133 14 ls st N I L P = sm_at C X 133 15 ls (.int (nI 0) :: st) N I L P := st_go b133 dX10_isPerson_14 (by decide) rfl
theorem s133_15 (h : x0 = 0 ∨ x0 = 1) : sm_at C X 133 15 ls [.int x0] N I L P = some (some (.int x0), N, I, L, P) := st_zret b133 dX10_isPerson_15 rfl h
theorem b134 : sm_b 134 = cX10_isTown := rfl
theorem s134_0 : sm_at C X 134 0 [some (.int x0)] st N I L P = sm_at C X 134 1 [some (.int x0)] (.int x0 :: st) N I L P := st_go b134 dX10_isTown_0 (by decide) rfl
theorem s134_1 : sm_at C X 134 1 ls (.int x0 :: st) N I L P = if x0 < 0 then sm_at C X 134 14 ls st N I L P else sm_at C X 134 4 ls st N I L P := st_br b134 dX10_isTown_1 (by decide) rfl
theorem s134_4 : sm_at C X 134 4 [some (.int x0)] st N I L P = sm_at C X 134 5 [some (.int x0)] (.int x0 :: st) N I L P := st_go b134 dX10_isTown_4 (by decide) rfl
theorem s134_5 : sm_at C X 134 5 ls st N I L P = sm_at C X 134 7 ls (.int (nI 6) :: st) N I L P := st_go b134 dX10_isTown_5 (by decide) rfl
theorem s134_7 : sm_at C X 134 7 ls (.int x0 :: .int x1 :: st) N I L P = if x0 ≤ x1 then sm_at C X 134 14 ls st N I L P else sm_at C X 134 10 ls st N I L P := st_br b134 dX10_isTown_7 (by decide) rfl
theorem s134_10 : sm_at C X 134 10 ls st N I L P = sm_at C X 134 11 ls (.int (nI 1) :: st) N I L P := st_go b134 dX10_isTown_10 (by decide) rfl
theorem s134_11 : sm_at C X 134 11 ls st N I L P = sm_at C X 134 15 ls st N I L P := st_go b134 dX10_isTown_11 (by decide) rfl
theorem s134_14 : sm_at C X 134 14 ls st N I L P = sm_at C X 134 15 ls (.int (nI 0) :: st) N I L P := st_go b134 dX10_isTown_14 (by decide) rfl
theorem s134_15 (h : x0 = 0 ∨ x0 = 1) : sm_at C X 134 15 ls [.int x0] N I L P = some (some (.int x0), N, I, L, P) := st_zret b134 dX10_isTown_15 rfl h
theorem b135 : sm_b 135 = cX10_isSpan := rfl
theorem s135_0 : sm_at C X 135 0 [some (.int x0), l1] st N I L P = sm_at C X 135 1 [some (.int x0), l1] (.int x0 :: st) N I L P := st_go b135 dX10_isSpan_0 (by decide) rfl
theorem s135_1 : sm_at C X 135 1 ls st N I L P = sm_at C X 135 2 ls (.int (nI 0) :: st) N I L P := st_go b135 dX10_isSpan_1 (by decide) rfl
theorem s135_2 : sm_at C X 135 2 ls st N I L P = sm_at C X 135 5 ls (.int (nI 1999) :: st) N I L P := st_go b135 dX10_isSpan_2 (by decide) rfl
theorem s135_5 : sm_at C X 135 5 ls [w2, w1, w0] N I L P = sm_af C X 135 8 ls [] (C 132 [w0, w1, w2] N I L P) := st_stat b135 dX10_isSpan_5 (n := 3) (rest := []) rfl rfl rfl rfl rfl rfl
theorem s135_8 : sm_at C X 135 8 ls (.int x0 :: st) N I L P = if x0 = 0 then sm_at C X 135 26 ls st N I L P else sm_at C X 135 11 ls st N I L P := st_br b135 dX10_isSpan_8 (by decide) rfl
theorem s135_11 : sm_at C X 135 11 [l0, some (.int x0)] st N I L P = sm_at C X 135 12 [l0, some (.int x0)] (.int x0 :: st) N I L P := st_go b135 dX10_isSpan_11 (by decide) rfl
theorem s135_12 : sm_at C X 135 12 [some (.int x0), l1] st N I L P = sm_at C X 135 13 [some (.int x0), l1] (.int x0 :: st) N I L P := st_go b135 dX10_isSpan_12 (by decide) rfl
theorem s135_13 : sm_at C X 135 13 ls st N I L P = sm_at C X 135 16 ls (.int (nI 1999) :: st) N I L P := st_go b135 dX10_isSpan_13 (by decide) rfl
theorem s135_16 : sm_at C X 135 16 ls [w2, w1, w0] N I L P = sm_af C X 135 19 ls [] (C 132 [w0, w1, w2] N I L P) := st_stat b135 dX10_isSpan_16 (n := 3) (rest := []) rfl rfl rfl rfl rfl rfl
theorem s135_19 : sm_at C X 135 19 ls (.int x0 :: st) N I L P = if x0 = 0 then sm_at C X 135 26 ls st N I L P else sm_at C X 135 22 ls st N I L P := st_br b135 dX10_isSpan_19 (by decide) rfl
theorem s135_22 : sm_at C X 135 22 ls st N I L P = sm_at C X 135 23 ls (.int (nI 1) :: st) N I L P := st_go b135 dX10_isSpan_22 (by decide) rfl
theorem s135_23 : sm_at C X 135 23 ls st N I L P = sm_at C X 135 27 ls st N I L P := st_go b135 dX10_isSpan_23 (by decide) rfl
theorem s135_26 : sm_at C X 135 26 ls st N I L P = sm_at C X 135 27 ls (.int (nI 0) :: st) N I L P := st_go b135 dX10_isSpan_26 (by decide) rfl
theorem s135_27 (h : x0 = 0 ∨ x0 = 1) : sm_at C X 135 27 ls [.int x0] N I L P = some (some (.int x0), N, I, L, P) := st_zret b135 dX10_isSpan_27 rfl h
theorem b136 : sm_b 136 = cX10_isPart := rfl
theorem s136_0 : sm_at C X 136 0 [some (.int x0)] st N I L P = sm_at C X 136 1 [some (.int x0)] (.int x0 :: st) N I L P := st_go b136 dX10_isPart_0 (by decide) rfl
theorem s136_1 : sm_at C X 136 1 ls st N I L P = sm_at C X 136 2 ls (.int (nI 0) :: st) N I L P := st_go b136 dX10_isPart_1 (by decide) rfl
theorem s136_2 : sm_at C X 136 2 ls st N I L P = sm_at C X 136 3 ls (.int (nI 1) :: st) N I L P := st_go b136 dX10_isPart_2 (by decide) rfl
theorem s136_3 : sm_at C X 136 3 ls [w2, w1, w0] N I L P = sm_af C X 136 6 ls [] (C 132 [w0, w1, w2] N I L P) := st_stat b136 dX10_isPart_3 (n := 3) (rest := []) rfl rfl rfl rfl rfl rfl
theorem s136_6 (h : x0 = 0 ∨ x0 = 1) : sm_at C X 136 6 ls [.int x0] N I L P = some (some (.int x0), N, I, L, P) := st_zret b136 dX10_isPart_6 rfl h
theorem b137 : sm_b 137 = cX10_isOdds := rfl
theorem s137_0 : sm_at C X 137 0 [some (.int x0)] st N I L P = sm_at C X 137 1 [some (.int x0)] (.int x0 :: st) N I L P := st_go b137 dX10_isOdds_0 (by decide) rfl
theorem s137_1 : sm_at C X 137 1 ls st N I L P = sm_at C X 137 2 ls (.int (nI 0) :: st) N I L P := st_go b137 dX10_isOdds_1 (by decide) rfl
theorem s137_2 : sm_at C X 137 2 ls st N I L P = sm_at C X 137 4 ls (.int (nI 9) :: st) N I L P := st_go b137 dX10_isOdds_2 (by decide) rfl
theorem s137_4 : sm_at C X 137 4 ls [w2, w1, w0] N I L P = sm_af C X 137 7 ls [] (C 132 [w0, w1, w2] N I L P) := st_stat b137 dX10_isOdds_4 (n := 3) (rest := []) rfl rfl rfl rfl rfl rfl
theorem s137_7 (h : x0 = 0 ∨ x0 = 1) : sm_at C X 137 7 ls [.int x0] N I L P = some (some (.int x0), N, I, L, P) := st_zret b137 dX10_isOdds_7 rfl h
theorem b138 : sm_b 138 = cX10_isSetOf := rfl
theorem s138_0 : sm_at C X 138 0 [some (.int x0), l1] st N I L P = sm_at C X 138 1 [some (.int x0), l1] (.int x0 :: st) N I L P := st_go b138 dX10_isSetOf_0 (by decide) rfl
theorem s138_1 : sm_at C X 138 1 ls st N I L P = sm_at C X 138 2 ls (.int (nI 0) :: st) N I L P := st_go b138 dX10_isSetOf_1 (by decide) rfl
theorem s138_2 : sm_at C X 138 2 ls st N I L P = sm_at C X 138 3 ls (.int (nI 1) :: st) N I L P := st_go b138 dX10_isSetOf_2 (by decide) rfl
theorem s138_3 : sm_at C X 138 3 [l0, some (.int x0)] st N I L P = sm_at C X 138 4 [l0, some (.int x0)] (.int x0 :: st) N I L P := st_go b138 dX10_isSetOf_3 (by decide) rfl
theorem s138_4 : sm_at C X 138 4 ls (.int x0 :: .int x1 :: st) N I L P = sm_at C X 138 5 ls (.int (x1 <<< (x0 &&& 31)) :: st) N I L P := st_go b138 dX10_isSetOf_4 (by decide) rfl
theorem s138_5 : sm_at C X 138 5 ls st N I L P = sm_at C X 138 6 ls (.int (nI 1) :: st) N I L P := st_go b138 dX10_isSetOf_5 (by decide) rfl
theorem s138_6 : sm_at C X 138 6 ls (.int x0 :: .int x1 :: st) N I L P = sm_at C X 138 7 ls (.int (x1 - x0) :: st) N I L P := st_go b138 dX10_isSetOf_6 (by decide) rfl
theorem s138_7 : sm_at C X 138 7 ls [w2, w1, w0] N I L P = sm_af C X 138 10 ls [] (C 132 [w0, w1, w2] N I L P) := st_stat b138 dX10_isSetOf_7 (n := 3) (rest := []) rfl rfl rfl rfl rfl rfl
theorem s138_10 (h : x0 = 0 ∨ x0 = 1) : sm_at C X 138 10 ls [.int x0] N I L P = some (some (.int x0), N, I, L, P) := st_zret b138 dX10_isSetOf_10 rfl h
theorem b139 : sm_b 139 = cX10_arePinches := rfl
theorem s139_0 : sm_at C X 139 0 [some (.int x0), l1] st N I L P = sm_at C X 139 1 [some (.int x0), l1] (.int x0 :: st) N I L P := st_go b139 dX10_arePinches_0 (by decide) rfl
theorem s139_1 : sm_at C X 139 1 ls st N I L P = sm_at C X 139 2 ls (.int (nI 1) :: st) N I L P := st_go b139 dX10_arePinches_1 (by decide) rfl
theorem s139_2 : sm_at C X 139 2 ls st N I L P = sm_at C X 139 3 ls (.int (nI 3) :: st) N I L P := st_go b139 dX10_arePinches_2 (by decide) rfl
theorem s139_3 : sm_at C X 139 3 ls [w2, w1, w0] N I L P = sm_af C X 139 6 ls [] (C 132 [w0, w1, w2] N I L P) := st_stat b139 dX10_arePinches_3 (n := 3) (rest := []) rfl rfl rfl rfl rfl rfl
theorem s139_6 : sm_at C X 139 6 ls (.int x0 :: st) N I L P = if x0 = 0 then sm_at C X 139 23 ls st N I L P else sm_at C X 139 9 ls st N I L P := st_br b139 dX10_arePinches_6 (by decide) rfl
theorem s139_9 : sm_at C X 139 9 [l0, some (.int x0)] st N I L P = sm_at C X 139 10 [l0, some (.int x0)] (.int x0 :: st) N I L P := st_go b139 dX10_arePinches_9 (by decide) rfl
theorem s139_10 : sm_at C X 139 10 ls st N I L P = sm_at C X 139 11 ls (.int (nI 0) :: st) N I L P := st_go b139 dX10_arePinches_10 (by decide) rfl
theorem s139_11 : sm_at C X 139 11 ls st N I L P = sm_at C X 139 13 ls (.int (nI 8) :: st) N I L P := st_go b139 dX10_arePinches_11 (by decide) rfl
theorem s139_13 : sm_at C X 139 13 ls [w2, w1, w0] N I L P = sm_af C X 139 16 ls [] (C 132 [w0, w1, w2] N I L P) := st_stat b139 dX10_arePinches_13 (n := 3) (rest := []) rfl rfl rfl rfl rfl rfl
theorem s139_16 : sm_at C X 139 16 ls (.int x0 :: st) N I L P = if x0 = 0 then sm_at C X 139 23 ls st N I L P else sm_at C X 139 19 ls st N I L P := st_br b139 dX10_arePinches_16 (by decide) rfl
theorem s139_19 : sm_at C X 139 19 ls st N I L P = sm_at C X 139 20 ls (.int (nI 1) :: st) N I L P := st_go b139 dX10_arePinches_19 (by decide) rfl
theorem s139_20 : sm_at C X 139 20 ls st N I L P = sm_at C X 139 24 ls st N I L P := st_go b139 dX10_arePinches_20 (by decide) rfl
theorem s139_23 : sm_at C X 139 23 ls st N I L P = sm_at C X 139 24 ls (.int (nI 0) :: st) N I L P := st_go b139 dX10_arePinches_23 (by decide) rfl
theorem s139_24 (h : x0 = 0 ∨ x0 = 1) : sm_at C X 139 24 ls [.int x0] N I L P = some (some (.int x0), N, I, L, P) := st_zret b139 dX10_arePinches_24 rfl h
theorem b140 : sm_b 140 = cX10_isIn := rfl
theorem s140_0 : sm_at C X 140 0 [some (.int x0), l1] st N I L P = sm_at C X 140 1 [some (.int x0), l1] (.int x0 :: st) N I L P := st_go b140 dX10_isIn_0 (by decide) rfl
theorem s140_1 : sm_at C X 140 1 [l0, some (.int x0)] st N I L P = sm_at C X 140 2 [l0, some (.int x0)] (.int x0 :: st) N I L P := st_go b140 dX10_isIn_1 (by decide) rfl
theorem s140_2 : sm_at C X 140 2 ls (.int x0 :: .int x1 :: st) N I L P = sm_at C X 140 3 ls (.int (x1 >>> (x0 &&& 31)) :: st) N I L P := st_go b140 dX10_isIn_2 (by decide) rfl
theorem s140_3 : sm_at C X 140 3 ls st N I L P = sm_at C X 140 4 ls (.int (nI 1) :: st) N I L P := st_go b140 dX10_isIn_3 (by decide) rfl
theorem s140_4 : sm_at C X 140 4 ls (.int x0 :: .int x1 :: st) N I L P = sm_at C X 140 5 ls (.int (x1 &&& x0) :: st) N I L P := st_go b140 dX10_isIn_4 (by decide) rfl
theorem s140_5 : sm_at C X 140 5 ls (.int x0 :: st) N I L P = if x0 = 0 then sm_at C X 140 12 ls st N I L P else sm_at C X 140 8 ls st N I L P := st_br b140 dX10_isIn_5 (by decide) rfl
theorem s140_8 : sm_at C X 140 8 ls st N I L P = sm_at C X 140 9 ls (.int (nI 1) :: st) N I L P := st_go b140 dX10_isIn_8 (by decide) rfl
theorem s140_9 : sm_at C X 140 9 ls st N I L P = sm_at C X 140 13 ls st N I L P := st_go b140 dX10_isIn_9 (by decide) rfl
theorem s140_12 : sm_at C X 140 12 ls st N I L P = sm_at C X 140 13 ls (.int (nI 0) :: st) N I L P := st_go b140 dX10_isIn_12 (by decide) rfl
theorem s140_13 (h : x0 = 0 ∨ x0 = 1) : sm_at C X 140 13 ls [.int x0] N I L P = some (some (.int x0), N, I, L, P) := st_zret b140 dX10_isIn_13 rfl h
theorem b141 : sm_b 141 = cX10_wordsOf := rfl
theorem s141_0 : sm_at C X 141 0 ls st N I L P = sm_at C X 141 1 ls (.int (nI 0) :: st) N I L P := st_go b141 dX10_wordsOf_0 (by decide) rfl
theorem s141_1 : sm_at C X 141 1 [l0, l1, l2, l3, l4, l5] (.int x0 :: st) N I L P = sm_at C X 141 2 [l0, l1, sm_cl l2, some (.int x0), l4, l5] st N I L P := st_go b141 dX10_wordsOf_1 (by decide) rfl
theorem s141_2 : sm_at C X 141 2 ls st N I L P = sm_at C X 141 3 ls (.int (nI 1) :: st) N I L P := st_go b141 dX10_wordsOf_2 (by decide) rfl
theorem s141_3 : sm_at C X 141 3 [l0, l1, l2, l3, l4, l5] (.int x0 :: st) N I L P = sm_at C X 141 5 [l0, l1, l2, sm_cl l3, some (.int x0), l5] st N I L P := st_go b141 dX10_wordsOf_3 (by decide) rfl
theorem s141_5 : sm_at C X 141 5 ls st N I L P = sm_at C X 141 6 ls (.int (nI 0) :: st) N I L P := st_go b141 dX10_wordsOf_5 (by decide) rfl
theorem s141_6 : sm_at C X 141 6 [l0, l1, l2, l3, l4, l5] (.int x0 :: st) N I L P = sm_at C X 141 8 [l0, l1, l2, l3, sm_cl l4, some (.int x0)] st N I L P := st_go b141 dX10_wordsOf_6 (by decide) rfl
theorem s141_8 : sm_at C X 141 8 [l0, l1, l2, l3, l4, some (.int x0)] st N I L P = sm_at C X 141 10 [l0, l1, l2, l3, l4, some (.int x0)] (.int x0 :: st) N I L P := st_go b141 dX10_wordsOf_8 (by decide) rfl
theorem s141_10 : sm_at C X 141 10 [l0, l1, some (.int x0), l3, l4, l5] st N I L P = sm_at C X 141 11 [l0, l1, some (.int x0), l3, l4, l5] (.int x0 :: st) N I L P := st_go b141 dX10_wordsOf_10 (by decide) rfl
theorem s141_11 : sm_at C X 141 11 ls (.int x0 :: .int x1 :: st) N I L P = if x0 < x1 then sm_at C X 141 47 ls st N I L P else sm_at C X 141 14 ls st N I L P := st_br b141 dX10_wordsOf_11 (by decide) rfl
theorem s141_14 : sm_at C X 141 14 [l0, l1, l2, l3, l4, some (.int x0)] st N I L P = sm_at C X 141 16 [l0, l1, l2, l3, l4, some (.int x0)] (.int x0 :: st) N I L P := st_go b141 dX10_wordsOf_14 (by decide) rfl
theorem s141_16 : sm_at C X 141 16 [some (.int x0), l1, l2, l3, l4, l5] st N I L P = sm_at C X 141 17 [some (.int x0), l1, l2, l3, l4, l5] (.int x0 :: st) N I L P := st_go b141 dX10_wordsOf_16 (by decide) rfl
theorem s141_17 : sm_at C X 141 17 ls (.int x0 :: .int x1 :: st) N I L P = if x0 < x1 then sm_at C X 141 47 ls st N I L P else sm_at C X 141 20 ls st N I L P := st_br b141 dX10_wordsOf_17 (by decide) rfl
theorem s141_20 : sm_at C X 141 20 [l0, l1, l2, some (.int x0), l4, l5] st N I L P = sm_at C X 141 21 [l0, l1, l2, some (.int x0), l4, l5] (.int x0 :: st) N I L P := st_go b141 dX10_wordsOf_20 (by decide) rfl
theorem s141_21 : sm_at C X 141 21 [l0, l1, l2, l3, some (.int x0), l5] st N I L P = sm_at C X 141 23 [l0, l1, l2, l3, some (.int x0), l5] (.int x0 :: st) N I L P := st_go b141 dX10_wordsOf_21 (by decide) rfl
theorem s141_23 : sm_at C X 141 23 ls (.int x0 :: .int x1 :: st) N I L P = sm_at C X 141 24 ls (.int (x1 + x0) :: st) N I L P := st_go b141 dX10_wordsOf_23 (by decide) rfl
theorem s141_24 : sm_at C X 141 24 [l0, l1, l2, l3, l4, l5] (.int x0 :: st) N I L P = sm_at C X 141 25 [l0, l1, sm_cl l2, some (.int x0), l4, l5] st N I L P := st_go b141 dX10_wordsOf_24 (by decide) rfl
theorem s141_25 : sm_at C X 141 25 [l0, l1, l2, l3, some (.int x0), l5] st N I L P = sm_at C X 141 27 [l0, l1, l2, l3, some (.int x0), l5] (.int x0 :: st) N I L P := st_go b141 dX10_wordsOf_25 (by decide) rfl
theorem s141_27 : sm_at C X 141 27 [some (.int x0), l1, l2, l3, l4, l5] st N I L P = sm_at C X 141 28 [some (.int x0), l1, l2, l3, l4, l5] (.int x0 :: st) N I L P := st_go b141 dX10_wordsOf_27 (by decide) rfl
theorem s141_28 : sm_at C X 141 28 [l0, l1, l2, l3, l4, some (.int x0)] st N I L P = sm_at C X 141 30 [l0, l1, l2, l3, l4, some (.int x0)] (.int x0 :: st) N I L P := st_go b141 dX10_wordsOf_28 (by decide) rfl
theorem s141_30 : sm_at C X 141 30 ls (.int x0 :: .int x1 :: st) N I L P = sm_at C X 141 31 ls (.int (x1 - x0) :: st) N I L P := st_go b141 dX10_wordsOf_30 (by decide) rfl
theorem s141_31 : sm_at C X 141 31 ls (.int x0 :: .int x1 :: st) N I L P = sm_at C X 141 32 ls (.int (x1 * x0) :: st) N I L P := st_go b141 dX10_wordsOf_31 (by decide) rfl
theorem s141_32 : sm_at C X 141 32 [l0, some (.int x0), l2, l3, l4, l5] st N I L P = sm_at C X 141 33 [l0, some (.int x0), l2, l3, l4, l5] (.int x0 :: st) N I L P := st_go b141 dX10_wordsOf_32 (by decide) rfl
theorem s141_33 : sm_at C X 141 33 ls (.int x0 :: .int x1 :: st) N I L P = sm_at C X 141 34 ls (.int (x1 * x0) :: st) N I L P := st_go b141 dX10_wordsOf_33 (by decide) rfl
theorem s141_34 : sm_at C X 141 34 [l0, l1, l2, l3, l4, some (.int x0)] st N I L P = sm_at C X 141 36 [l0, l1, l2, l3, l4, some (.int x0)] (.int x0 :: st) N I L P := st_go b141 dX10_wordsOf_34 (by decide) rfl
theorem s141_36 : sm_at C X 141 36 ls st N I L P = sm_at C X 141 37 ls (.int (nI 1) :: st) N I L P := st_go b141 dX10_wordsOf_36 (by decide) rfl
theorem s141_37 : sm_at C X 141 37 ls (.int x0 :: .int x1 :: st) N I L P = sm_at C X 141 38 ls (.int (x1 + x0) :: st) N I L P := st_go b141 dX10_wordsOf_37 (by decide) rfl
theorem s141_38 (h : ¬ x0 = 0) : sm_at C X 141 38 ls (.int x0 :: .int x1 :: st) N I L P = sm_at C X 141 39 ls (.int (x1 / x0) :: st) N I L P := st_idiv b141 dX10_wordsOf_38 h
theorem s141_39 : sm_at C X 141 39 [l0, l1, l2, l3, l4, l5] (.int x0 :: st) N I L P = sm_at C X 141 41 [l0, l1, l2, sm_cl l3, some (.int x0), l5] st N I L P := st_go b141 dX10_wordsOf_39 (by decide) rfl
theorem s141_41 : sm_at C X 141 41 [l0, l1, l2, l3, l4, some (.int x0)] st N I L P = sm_at C X 141 44 [l0, l1, l2, l3, sm_cl l4, some (.int (x0 + (nI 1)))] st N I L P := st_go b141 dX10_wordsOf_41 (by decide) rfl
theorem s141_44 : sm_at C X 141 44 ls st N I L P = sm_at C X 141 8 ls st N I L P := st_go b141 dX10_wordsOf_44 (by decide) rfl
theorem s141_47 : sm_at C X 141 47 [l0, l1, l2, some (.int x0), l4, l5] st N I L P = sm_at C X 141 48 [l0, l1, l2, some (.int x0), l4, l5] (.int x0 :: st) N I L P := st_go b141 dX10_wordsOf_47 (by decide) rfl
theorem s141_48 : sm_at C X 141 48 ls [.int x0] N I L P = some (some (.int x0), N, I, L, P) := st_iret b141 dX10_wordsOf_48 rfl
theorem b142 : sm_b 142 = cX10_power := rfl
theorem s142_0 : sm_at C X 142 0 ls st N I L P = sm_at C X 142 1 ls (.long (lN 1) :: st) N I L P := st_go b142 dX10_power_0 (by decide) rfl
theorem s142_1 : sm_at C X 142 1 [l0, l1, l2, l3, l4, l5] (.long z0 :: st) N I L P = sm_at C X 142 2 [l0, l1, sm_cl l2, some (.long z0), none, l5] st N I L P := st_go b142 dX10_power_1 (by decide) rfl
theorem s142_2 : sm_at C X 142 2 ls st N I L P = sm_at C X 142 3 ls (.int (nI 0) :: st) N I L P := st_go b142 dX10_power_2 (by decide) rfl
theorem s142_3 : sm_at C X 142 3 [l0, l1, l2, l3, l4, l5] (.int x0 :: st) N I L P = sm_at C X 142 5 [l0, l1, l2, l3, sm_cl l4, some (.int x0)] st N I L P := st_go b142 dX10_power_3 (by decide) rfl
theorem s142_5 : sm_at C X 142 5 [l0, l1, l2, l3, l4, some (.int x0)] st N I L P = sm_at C X 142 7 [l0, l1, l2, l3, l4, some (.int x0)] (.int x0 :: st) N I L P := st_go b142 dX10_power_5 (by decide) rfl
theorem s142_7 : sm_at C X 142 7 [l0, l1, some (.int x0), l3, l4, l5] st N I L P = sm_at C X 142 8 [l0, l1, some (.int x0), l3, l4, l5] (.int x0 :: st) N I L P := st_go b142 dX10_power_7 (by decide) rfl
theorem s142_8 : sm_at C X 142 8 ls (.int x0 :: .int x1 :: st) N I L P = if x0 ≤ x1 then sm_at C X 142 21 ls st N I L P else sm_at C X 142 11 ls st N I L P := st_br b142 dX10_power_8 (by decide) rfl
theorem s142_11 : sm_at C X 142 11 [l0, l1, l2, some (.long z0), l4, l5] st N I L P = sm_at C X 142 12 [l0, l1, l2, some (.long z0), l4, l5] (.long z0 :: st) N I L P := st_go b142 dX10_power_11 (by decide) rfl
theorem s142_12 : sm_at C X 142 12 [some (.long z0), l1, l2, l3, l4, l5] st N I L P = sm_at C X 142 13 [some (.long z0), l1, l2, l3, l4, l5] (.long z0 :: st) N I L P := st_go b142 dX10_power_12 (by decide) rfl
theorem s142_13 : sm_at C X 142 13 ls (.long z0 :: .long z1 :: st) N I L P = sm_at C X 142 14 ls (.long (z1 * z0) :: st) N I L P := st_go b142 dX10_power_13 (by decide) rfl
theorem s142_14 : sm_at C X 142 14 [l0, l1, l2, l3, l4, l5] (.long z0 :: st) N I L P = sm_at C X 142 15 [l0, l1, sm_cl l2, some (.long z0), none, l5] st N I L P := st_go b142 dX10_power_14 (by decide) rfl
theorem s142_15 : sm_at C X 142 15 [l0, l1, l2, l3, l4, some (.int x0)] st N I L P = sm_at C X 142 18 [l0, l1, l2, l3, sm_cl l4, some (.int (x0 + (nI 1)))] st N I L P := st_go b142 dX10_power_15 (by decide) rfl
theorem s142_18 : sm_at C X 142 18 ls st N I L P = sm_at C X 142 5 ls st N I L P := st_go b142 dX10_power_18 (by decide) rfl
theorem s142_21 : sm_at C X 142 21 [l0, l1, l2, some (.long z0), l4, l5] st N I L P = sm_at C X 142 22 [l0, l1, l2, some (.long z0), l4, l5] (.long z0 :: st) N I L P := st_go b142 dX10_power_21 (by decide) rfl
theorem s142_22 : sm_at C X 142 22 ls [.long z0] N I L P = some (some (.long z0), N, I, L, P) := st_ret b142 dX10_power_22 (by decide) rfl
theorem b143 : sm_b 143 = cX10_inLowestTerms := rfl
theorem s143_0 : sm_at C X 143 0 [some (.long z0), l1, l2, l3, l4, l5, l6, l7, l8] st N I L P = sm_at C X 143 1 [some (.long z0), l1, l2, l3, l4, l5, l6, l7, l8] (.long z0 :: st) N I L P := st_go b143 dX10_inLowestTerms_0 (by decide) rfl
theorem s143_1 : sm_at C X 143 1 [l0, l1, some (.long z0), l3, l4, l5, l6, l7, l8] st N I L P = sm_at C X 143 2 [l0, l1, some (.long z0), l3, l4, l5, l6, l7, l8] (.long z0 :: st) N I L P := st_go b143 dX10_inLowestTerms_1 (by decide) rfl
theorem s143_2 : sm_at C X 143 2 ls [w1, w0] N I L P = sm_af C X 143 5 ls [] (C 144 [w0, w1] N I L P) := st_stat b143 dX10_inLowestTerms_2 (n := 2) (rest := []) rfl rfl rfl rfl rfl rfl
theorem s143_5 : sm_at C X 143 5 [l0, l1, l2, l3, l4, l5, l6, l7, l8] (.long z0 :: st) N I L P = sm_at C X 143 7 [l0, l1, l2, l3, sm_cl l4, some (.long z0), none, l7, l8] st N I L P := st_go b143 dX10_inLowestTerms_5 (by decide) rfl
theorem s143_7 : sm_at C X 143 7 [l0, l1, l2, l3, some (.int x0), l5, l6, l7, l8] st N I L P = sm_at C X 143 9 [l0, l1, l2, l3, some (.int x0), l5, l6, l7, l8] (.int x0 :: st) N I L P := st_go b143 dX10_inLowestTerms_7 (by decide) rfl
theorem s143_9 : sm_at C X 143 9 ls (.int x0 :: st) N I L P = if ¬ x0 = 0 then sm_at C X 143 16 ls st N I L P else sm_at C X 143 12 ls st N I L P := st_br b143 dX10_inLowestTerms_9 (by decide) rfl
theorem s143_12 : sm_at C X 143 12 [some (.long z0), l1, l2, l3, l4, l5, l6, l7, l8] st N I L P = sm_at C X 143 13 [some (.long z0), l1, l2, l3, l4, l5, l6, l7, l8] (.long z0 :: st) N I L P := st_go b143 dX10_inLowestTerms_12 (by decide) rfl
theorem s143_13 : sm_at C X 143 13 ls st N I L P = sm_at C X 143 17 ls st N I L P := st_go b143 dX10_inLowestTerms_13 (by decide) rfl
theorem s143_16 : sm_at C X 143 16 [l0, l1, some (.long z0), l3, l4, l5, l6, l7, l8] st N I L P = sm_at C X 143 17 [l0, l1, some (.long z0), l3, l4, l5, l6, l7, l8] (.long z0 :: st) N I L P := st_go b143 dX10_inLowestTerms_16 (by decide) rfl
theorem s143_17 : sm_at C X 143 17 [l0, l1, l2, l3, l4, l5, l6, l7, l8] (.long z0 :: st) N I L P = sm_at C X 143 19 [l0, l1, l2, l3, l4, l5, sm_cl l6, some (.long z0), none] st N I L P := st_go b143 dX10_inLowestTerms_17 (by decide) rfl
theorem s143_19 : sm_at C X 143 19 [l0, l1, l2, l3, l4, some (.long z0), l6, l7, l8] st N I L P = sm_at C X 143 21 [l0, l1, l2, l3, l4, some (.long z0), l6, l7, l8] (.long z0 :: st) N I L P := st_go b143 dX10_inLowestTerms_19 (by decide) rfl
theorem s143_21 : sm_at C X 143 21 ls st N I L P = sm_at C X 143 22 ls (.long (lN 0) :: st) N I L P := st_go b143 dX10_inLowestTerms_21 (by decide) rfl
theorem s143_22 : sm_at C X 143 22 ls (.long z0 :: .long z1 :: st) N I L P = sm_at C X 143 23 ls (.int (lg_cmp z1 z0) :: st) N I L P := st_go b143 dX10_inLowestTerms_22 (by decide) rfl
theorem s143_23 : sm_at C X 143 23 ls (.int x0 :: st) N I L P = if ¬ x0 = 0 then sm_at C X 143 31 ls st N I L P else sm_at C X 143 26 ls st N I L P := st_br b143 dX10_inLowestTerms_23 (by decide) rfl
theorem s143_26 : sm_at C X 143 26 [l0, l1, l2, l3, l4, l5, l6, some (.long z0), l8] st N I L P = sm_at C X 143 28 [l0, l1, l2, l3, l4, l5, l6, some (.long z0), l8] (.long z0 :: st) N I L P := st_go b143 dX10_inLowestTerms_26 (by decide) rfl
theorem s143_28 : sm_at C X 143 28 ls st N I L P = sm_at C X 143 36 ls st N I L P := st_go b143 dX10_inLowestTerms_28 (by decide) rfl
theorem s143_31 : sm_at C X 143 31 [l0, l1, l2, l3, l4, l5, l6, some (.long z0), l8] st N I L P = sm_at C X 143 33 [l0, l1, l2, l3, l4, l5, l6, some (.long z0), l8] (.long z0 :: st) N I L P := st_go b143 dX10_inLowestTerms_31 (by decide) rfl
theorem s143_33 : sm_at C X 143 33 [l0, l1, l2, l3, l4, some (.long z0), l6, l7, l8] st N I L P = sm_at C X 143 35 [l0, l1, l2, l3, l4, some (.long z0), l6, l7, l8] (.long z0 :: st) N I L P := st_go b143 dX10_inLowestTerms_33 (by decide) rfl
theorem s143_35 (h : ¬ z0 = 0) : sm_at C X 143 35 ls (.long z0 :: .long z1 :: st) N I L P = sm_at C X 143 36 ls (.long (z1 / z0) :: st) N I L P := st_ldiv b143 dX10_inLowestTerms_35 h
theorem s143_36 : sm_at C X 143 36 ls [.long z0] N I L P = some (some (.long z0), N, I, L, P) := st_ret b143 dX10_inLowestTerms_36 (by decide) rfl
theorem b144 : sm_b 144 = cX10_commonDivisor := rfl
theorem s144_0 : sm_at C X 144 0 [some (.long z0), l1, l2, l3, l4, l5, l6, l7, l8, l9, l10] st N I L P = sm_at C X 144 1 [some (.long z0), l1, l2, l3, l4, l5, l6, l7, l8, l9, l10] (.long z0 :: st) N I L P := st_go b144 dX10_commonDivisor_0 (by decide) rfl
theorem s144_1 : sm_at C X 144 1 [l0, l1, l2, l3, l4, l5, l6, l7, l8, l9, l10] (.long z0 :: st) N I L P = sm_at C X 144 3 [l0, l1, l2, sm_cl l3, some (.long z0), none, l6, l7, l8, l9, l10] st N I L P := st_go b144 dX10_commonDivisor_1 (by decide) rfl
theorem s144_3 : sm_at C X 144 3 [l0, l1, some (.long z0), l3, l4, l5, l6, l7, l8, l9, l10] st N I L P = sm_at C X 144 4 [l0, l1, some (.long z0), l3, l4, l5, l6, l7, l8, l9, l10] (.long z0 :: st) N I L P := st_go b144 dX10_commonDivisor_3 (by decide) rfl
theorem s144_4 : sm_at C X 144 4 [l0, l1, l2, l3, l4, l5, l6, l7, l8, l9, l10] (.long z0 :: st) N I L P = sm_at C X 144 6 [l0, l1, l2, l3, l4, sm_cl l5, some (.long z0), none, l8, l9, l10] st N I L P := st_go b144 dX10_commonDivisor_4 (by decide) rfl
theorem s144_6 : sm_at C X 144 6 ls st N I L P = sm_at C X 144 7 ls (.int (nI 0) :: st) N I L P := st_go b144 dX10_commonDivisor_6 (by decide) rfl
theorem s144_7 : sm_at C X 144 7 [l0, l1, l2, l3, l4, l5, l6, l7, l8, l9, l10] (.int x0 :: st) N I L P = sm_at C X 144 9 [l0, l1, l2, l3, l4, l5, l6, sm_cl l7, some (.int x0), l9, l10] st N I L P := st_go b144 dX10_commonDivisor_7 (by decide) rfl
theorem s144_9 : sm_at C X 144 9 [l0, l1, l2, l3, l4, l5, l6, l7, some (.int x0), l9, l10] st N I L P = sm_at C X 144 11 [l0, l1, l2, l3, l4, l5, l6, l7, some (.int x0), l9, l10] (.int x0 :: st) N I L P := st_go b144 dX10_commonDivisor_9 (by decide) rfl
theorem s144_11 : sm_at C X 144 11 ls st N I L P = sm_at C X 144 13 ls (.int (nI 100) :: st) N I L P := st_go b144 dX10_commonDivisor_11 (by decide) rfl
theorem s144_13 : sm_at C X 144 13 ls (.int x0 :: .int x1 :: st) N I L P = if x0 ≤ x1 then sm_at C X 144 44 ls st N I L P else sm_at C X 144 16 ls st N I L P := st_br b144 dX10_commonDivisor_13 (by decide) rfl
theorem s144_16 : sm_at C X 144 16 [l0, l1, l2, l3, l4, l5, some (.long z0), l7, l8, l9, l10] st N I L P = sm_at C X 144 18 [l0, l1, l2, l3, l4, l5, some (.long z0), l7, l8, l9, l10] (.long z0 :: st) N I L P := st_go b144 dX10_commonDivisor_16 (by decide) rfl
theorem s144_18 : sm_at C X 144 18 ls st N I L P = sm_at C X 144 19 ls (.long (lN 0) :: st) N I L P := st_go b144 dX10_commonDivisor_18 (by decide) rfl
theorem s144_19 : sm_at C X 144 19 ls (.long z0 :: .long z1 :: st) N I L P = sm_at C X 144 20 ls (.int (lg_cmp z1 z0) :: st) N I L P := st_go b144 dX10_commonDivisor_19 (by decide) rfl
theorem s144_20 : sm_at C X 144 20 ls (.int x0 :: st) N I L P = if x0 = 0 then sm_at C X 144 44 ls st N I L P else sm_at C X 144 23 ls st N I L P := st_br b144 dX10_commonDivisor_20 (by decide) rfl
theorem s144_23 : sm_at C X 144 23 [l0, l1, l2, l3, some (.long z0), l5, l6, l7, l8, l9, l10] st N I L P = sm_at C X 144 25 [l0, l1, l2, l3, some (.long z0), l5, l6, l7, l8, l9, l10] (.long z0 :: st) N I L P := st_go b144 dX10_commonDivisor_23 (by decide) rfl
theorem s144_25 : sm_at C X 144 25 [l0, l1, l2, l3, l4, l5, some (.long z0), l7, l8, l9, l10] st N I L P = sm_at C X 144 27 [l0, l1, l2, l3, l4, l5, some (.long z0), l7, l8, l9, l10] (.long z0 :: st) N I L P := st_go b144 dX10_commonDivisor_25 (by decide) rfl
theorem s144_27 (h : ¬ z0 = 0) : sm_at C X 144 27 ls (.long z0 :: .long z1 :: st) N I L P = sm_at C X 144 28 ls (.long (z1 - z1 / z0 * z0) :: st) N I L P := st_lrem b144 dX10_commonDivisor_27 h
theorem s144_28 : sm_at C X 144 28 [l0, l1, l2, l3, l4, l5, l6, l7, l8, l9, l10] (.long z0 :: st) N I L P = sm_at C X 144 30 [l0, l1, l2, l3, l4, l5, l6, l7, sm_cl l8, some (.long z0), none] st N I L P := st_go b144 dX10_commonDivisor_28 (by decide) rfl
theorem s144_30 : sm_at C X 144 30 [l0, l1, l2, l3, l4, l5, some (.long z0), l7, l8, l9, l10] st N I L P = sm_at C X 144 32 [l0, l1, l2, l3, l4, l5, some (.long z0), l7, l8, l9, l10] (.long z0 :: st) N I L P := st_go b144 dX10_commonDivisor_30 (by decide) rfl
theorem s144_32 : sm_at C X 144 32 [l0, l1, l2, l3, l4, l5, l6, l7, l8, l9, l10] (.long z0 :: st) N I L P = sm_at C X 144 34 [l0, l1, l2, sm_cl l3, some (.long z0), none, l6, l7, l8, l9, l10] st N I L P := st_go b144 dX10_commonDivisor_32 (by decide) rfl
theorem s144_34 : sm_at C X 144 34 [l0, l1, l2, l3, l4, l5, l6, l7, l8, some (.long z0), l10] st N I L P = sm_at C X 144 36 [l0, l1, l2, l3, l4, l5, l6, l7, l8, some (.long z0), l10] (.long z0 :: st) N I L P := st_go b144 dX10_commonDivisor_34 (by decide) rfl
theorem s144_36 : sm_at C X 144 36 [l0, l1, l2, l3, l4, l5, l6, l7, l8, l9, l10] (.long z0 :: st) N I L P = sm_at C X 144 38 [l0, l1, l2, l3, l4, sm_cl l5, some (.long z0), none, l8, l9, l10] st N I L P := st_go b144 dX10_commonDivisor_36 (by decide) rfl
theorem s144_38 : sm_at C X 144 38 [l0, l1, l2, l3, l4, l5, l6, l7, some (.int x0), l9, l10] st N I L P = sm_at C X 144 41 [l0, l1, l2, l3, l4, l5, l6, sm_cl l7, some (.int (x0 + (nI 1))), l9, l10] st N I L P := st_go b144 dX10_commonDivisor_38 (by decide) rfl
theorem s144_41 : sm_at C X 144 41 ls st N I L P = sm_at C X 144 9 ls st N I L P := st_go b144 dX10_commonDivisor_41 (by decide) rfl
theorem s144_44 : sm_at C X 144 44 [l0, l1, l2, l3, some (.long z0), l5, l6, l7, l8, l9, l10] st N I L P = sm_at C X 144 46 [l0, l1, l2, l3, some (.long z0), l5, l6, l7, l8, l9, l10] (.long z0 :: st) N I L P := st_go b144 dX10_commonDivisor_44 (by decide) rfl
theorem s144_46 : sm_at C X 144 46 ls [.long z0] N I L P = some (some (.long z0), N, I, L, P) := st_ret b144 dX10_commonDivisor_46 (by decide) rfl
end STX10
