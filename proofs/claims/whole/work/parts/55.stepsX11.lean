section STX11
variable {C : sm_Cf} {X : sm_Xs} {ls : List (Option Value)} {st : List Value} {N : Nat} {I : sm_Im} {L : sm_Lm} {P : sm_Pm} {x0 x1 x2 : Int32} {z0 z1 : Int64} {a a2 k n : Nat} {f : Nat → Int32} {w0 w1 w2 w3 w4 w5 w6 v0 v1 v2 v3 v4 : Value} {l0 l1 l2 l3 l4 l5 l6 l7 l8 l9 l10 l11 l12 l13 l14 l15 l16 : Option Value}
theorem b145 : sm_b 145 = cX11_init := rfl
theorem s145_0 : sm_at C X 145 0 [some (.ref a), l1] st N I L P = sm_at C X 145 1 [some (.ref a), l1] (.ref a :: st) N I L P := st_go b145 dX11_init_0 (by decide) rfl
theorem s145_1 : sm_at C X 145 1 ls (.ref a :: []) N I L P = sm_at C X 145 4 ls [] N I L P := st_go b145 dX11_init_1 (by decide) rfl
theorem s145_4 : sm_at C X 145 4 [some (.ref a), l1] st N I L P = sm_at C X 145 5 [some (.ref a), l1] (.ref a :: st) N I L P := st_go b145 dX11_init_4 (by decide) rfl
theorem s145_5 : sm_at C X 145 5 ls st N I L P = sm_at C X 145 7 ls (.int (nI 36) :: st) N I L P := st_go b145 dX11_init_5 (by decide) rfl
theorem s145_7 (h : N < 81) (h1 : sm_lay N = .inr (.inl k)) (h2 : k < 1000) : sm_at C X 145 7 ls (.int (nI k) :: st) N I L P = sm_at C X 145 9 ls (.ref N :: st) (N + 1) (sm_z I N 0) L P := st_newa b145 dX11_init_7 h h1 h2
theorem s145_9 (h : a < N) (h1 : sm_lay a = .inl 11) : sm_at C X 145 9 ls (.ref a2 :: .ref a :: st) N I L P = sm_at C X 145 12 ls st N I L (sm_up P a 0 (some a2)) := st_pfR b145 dX11_init_9 rfl rfl (Or.inr ⟨rfl, rfl⟩) h h1
theorem s145_12 : sm_at C X 145 12 [some (.ref a), l1] st N I L P = sm_at C X 145 13 [some (.ref a), l1] (.ref a :: st) N I L P := st_go b145 dX11_init_12 (by decide) rfl
theorem s145_13 : sm_at C X 145 13 ls st N I L P = sm_at C X 145 15 ls (.int (nI 10) :: st) N I L P := st_go b145 dX11_init_13 (by decide) rfl
theorem s145_15 (h : N < 81) (h1 : sm_lay N = .inr (.inl k)) (h2 : k < 1000) : sm_at C X 145 15 ls (.int (nI k) :: st) N I L P = sm_at C X 145 17 ls (.ref N :: st) (N + 1) (sm_z I N 0) L P := st_newa b145 dX11_init_15 h h1 h2
theorem s145_17 (h : a < N) (h1 : sm_lay a = .inl 11) : sm_at C X 145 17 ls (.ref a2 :: .ref a :: st) N I L P = sm_at C X 145 20 ls st N I L (sm_up P a 1 (some a2)) := st_pfR b145 dX11_init_17 rfl rfl (Or.inr ⟨rfl, rfl⟩) h h1
theorem s145_20 : sm_at C X 145 20 [some (.ref a), l1] st N I L P = sm_at C X 145 21 [some (.ref a), l1] (.ref a :: st) N I L P := st_go b145 dX11_init_20 (by decide) rfl
theorem s145_21 : sm_at C X 145 21 ls st N I L P = sm_at C X 145 23 ls (.int (nI 32) :: st) N I L P := st_go b145 dX11_init_21 (by decide) rfl
theorem s145_23 (h : N < 81) (h1 : sm_lay N = .inr (.inl k)) (h2 : k < 1000) : sm_at C X 145 23 ls (.int (nI k) :: st) N I L P = sm_at C X 145 25 ls (.ref N :: st) (N + 1) (sm_z I N 0) L P := st_newa b145 dX11_init_23 h h1 h2
theorem s145_25 (h : a < N) (h1 : sm_lay a = .inl 11) : sm_at C X 145 25 ls (.ref a2 :: .ref a :: st) N I L P = sm_at C X 145 28 ls st N I L (sm_up P a 2 (some a2)) := st_pfR b145 dX11_init_25 rfl rfl (Or.inr ⟨rfl, rfl⟩) h h1
theorem s145_28 : sm_at C X 145 28 [some (.ref a), l1] st N I L P = sm_at C X 145 29 [some (.ref a), l1] (.ref a :: st) N I L P := st_go b145 dX11_init_28 (by decide) rfl
theorem s145_29 : sm_at C X 145 29 ls st N I L P = sm_at C X 145 31 ls (.int (nI 35) :: st) N I L P := st_go b145 dX11_init_29 (by decide) rfl
theorem s145_31 (h : N < 81) (h1 : sm_lay N = .inr (.inl k)) (h2 : k < 1000) : sm_at C X 145 31 ls (.int (nI k) :: st) N I L P = sm_at C X 145 33 ls (.ref N :: st) (N + 1) (sm_z I N 0) L P := st_newa b145 dX11_init_31 h h1 h2
theorem s145_33 (h : a < N) (h1 : sm_lay a = .inl 11) : sm_at C X 145 33 ls (.ref a2 :: .ref a :: st) N I L P = sm_at C X 145 36 ls st N I L (sm_up P a 7 (some a2)) := st_pfR b145 dX11_init_33 rfl rfl (Or.inr ⟨rfl, rfl⟩) h h1
theorem s145_36 : sm_at C X 145 36 [some (.ref a), l1] st N I L P = sm_at C X 145 37 [some (.ref a), l1] (.ref a :: st) N I L P := st_go b145 dX11_init_36 (by decide) rfl
theorem s145_37 : sm_at C X 145 37 ls st N I L P = sm_at C X 145 39 ls (.int (nI 35) :: st) N I L P := st_go b145 dX11_init_37 (by decide) rfl
theorem s145_39 (h : N < 81) (h1 : sm_lay N = .inr (.inl k)) (h2 : k < 1000) : sm_at C X 145 39 ls (.int (nI k) :: st) N I L P = sm_at C X 145 41 ls (.ref N :: st) (N + 1) (sm_z I N 0) L P := st_newa b145 dX11_init_39 h h1 h2
theorem s145_41 (h : a < N) (h1 : sm_lay a = .inl 11) : sm_at C X 145 41 ls (.ref a2 :: .ref a :: st) N I L P = sm_at C X 145 44 ls st N I L (sm_up P a 10 (some a2)) := st_pfR b145 dX11_init_41 rfl rfl (Or.inr ⟨rfl, rfl⟩) h h1
theorem s145_44 : sm_at C X 145 44 [some (.ref a), l1] st N I L P = sm_at C X 145 45 [some (.ref a), l1] (.ref a :: st) N I L P := st_go b145 dX11_init_44 (by decide) rfl
theorem s145_45 : sm_at C X 145 45 ls st N I L P = sm_at C X 145 47 ls (.int (nI 10) :: st) N I L P := st_go b145 dX11_init_45 (by decide) rfl
theorem s145_47 (h : N < 81) (h1 : sm_lay N = .inr (.inl k)) (h2 : k < 1000) : sm_at C X 145 47 ls (.int (nI k) :: st) N I L P = sm_at C X 145 49 ls (.ref N :: st) (N + 1) (sm_z I N 0) L P := st_newa b145 dX11_init_47 h h1 h2
theorem s145_49 (h : a < N) (h1 : sm_lay a = .inl 11) : sm_at C X 145 49 ls (.ref a2 :: .ref a :: st) N I L P = sm_at C X 145 52 ls st N I L (sm_up P a 11 (some a2)) := st_pfR b145 dX11_init_49 rfl rfl (Or.inr ⟨rfl, rfl⟩) h h1
theorem s145_52 : sm_at C X 145 52 [some (.ref a), l1] st N I L P = sm_at C X 145 53 [some (.ref a), l1] (.ref a :: st) N I L P := st_go b145 dX11_init_52 (by decide) rfl
theorem s145_53 : sm_at C X 145 53 ls st N I L P = sm_at C X 145 55 ls (.int (nI 24) :: st) N I L P := st_go b145 dX11_init_53 (by decide) rfl
theorem s145_55 (h : N < 81) (h1 : sm_lay N = .inr (.inl k)) (h2 : k < 1000) : sm_at C X 145 55 ls (.int (nI k) :: st) N I L P = sm_at C X 145 57 ls (.ref N :: st) (N + 1) (sm_z I N 0) L P := st_newa b145 dX11_init_55 h h1 h2
theorem s145_57 (h : a < N) (h1 : sm_lay a = .inl 11) : sm_at C X 145 57 ls (.ref a2 :: .ref a :: st) N I L P = sm_at C X 145 60 ls st N I L (sm_up P a 13 (some a2)) := st_pfR b145 dX11_init_57 rfl rfl (Or.inr ⟨rfl, rfl⟩) h h1
theorem s145_60 : sm_at C X 145 60 [some (.ref a), l1] st N I L P = sm_at C X 145 61 [some (.ref a), l1] (.ref a :: st) N I L P := st_go b145 dX11_init_60 (by decide) rfl
theorem s145_61 : sm_at C X 145 61 ls st N I L P = sm_at C X 145 63 ls (.int (nI 36) :: st) N I L P := st_go b145 dX11_init_61 (by decide) rfl
theorem s145_63 (h : N < 81) (h1 : sm_lay N = .inr (.inl k)) (h2 : k < 1000) : sm_at C X 145 63 ls (.int (nI k) :: st) N I L P = sm_at C X 145 65 ls (.ref N :: st) (N + 1) (sm_z I N 0) L P := st_newa b145 dX11_init_63 h h1 h2
theorem s145_65 (h : a < N) (h1 : sm_lay a = .inl 11) : sm_at C X 145 65 ls (.ref a2 :: .ref a :: st) N I L P = sm_at C X 145 68 ls st N I L (sm_up P a 14 (some a2)) := st_pfR b145 dX11_init_65 rfl rfl (Or.inr ⟨rfl, rfl⟩) h h1
theorem s145_68 : sm_at C X 145 68 [some (.ref a), l1] st N I L P = sm_at C X 145 69 [some (.ref a), l1] (.ref a :: st) N I L P := st_go b145 dX11_init_68 (by decide) rfl
theorem s145_69 : sm_at C X 145 69 ls st N I L P = sm_at C X 145 71 ls (.int (nI 16) :: st) N I L P := st_go b145 dX11_init_69 (by decide) rfl
theorem s145_71 (h : N < 81) (h1 : sm_lay N = .inr (.inl k)) (h2 : k < 1000) : sm_at C X 145 71 ls (.int (nI k) :: st) N I L P = sm_at C X 145 73 ls (.ref N :: st) (N + 1) (sm_z I N 0) L P := st_newa b145 dX11_init_71 h h1 h2
theorem s145_73 (h : a < N) (h1 : sm_lay a = .inl 11) : sm_at C X 145 73 ls (.ref a2 :: .ref a :: st) N I L P = sm_at C X 145 76 ls st N I L (sm_up P a 16 (some a2)) := st_pfR b145 dX11_init_73 rfl rfl (Or.inr ⟨rfl, rfl⟩) h h1
theorem s145_76 : sm_at C X 145 76 [some (.ref a), l1] st N I L P = sm_at C X 145 77 [some (.ref a), l1] (.ref a :: st) N I L P := st_go b145 dX11_init_76 (by decide) rfl
theorem s145_77 : sm_at C X 145 77 ls st N I L P = sm_at C X 145 78 ls (.int (nI 4) :: st) N I L P := st_go b145 dX11_init_77 (by decide) rfl
theorem s145_78 (h : N < 81) (h1 : sm_lay N = .inr (.inl k)) (h2 : k < 1000) : sm_at C X 145 78 ls (.int (nI k) :: st) N I L P = sm_at C X 145 80 ls (.ref N :: st) (N + 1) (sm_z I N 0) L P := st_newa b145 dX11_init_78 h h1 h2
theorem s145_80 (h : a < N) (h1 : sm_lay a = .inl 11) : sm_at C X 145 80 ls (.ref a2 :: .ref a :: st) N I L P = sm_at C X 145 83 ls st N I L (sm_up P a 18 (some a2)) := st_pfR b145 dX11_init_80 rfl rfl (Or.inr ⟨rfl, rfl⟩) h h1
theorem s145_83 : sm_at C X 145 83 [some (.ref a), l1] st N I L P = sm_at C X 145 84 [some (.ref a), l1] (.ref a :: st) N I L P := st_go b145 dX11_init_83 (by decide) rfl
theorem s145_84 : sm_at C X 145 84 ls st N I L P = sm_at C X 145 86 ls (.int (nI 16) :: st) N I L P := st_go b145 dX11_init_84 (by decide) rfl
theorem s145_86 (h : N < 81) (h1 : sm_lay N = .inr (.inl k)) (h2 : k < 1000) : sm_at C X 145 86 ls (.int (nI k) :: st) N I L P = sm_at C X 145 88 ls (.ref N :: st) (N + 1) (sm_z I N 0) L P := st_newa b145 dX11_init_86 h h1 h2
theorem s145_88 (h : a < N) (h1 : sm_lay a = .inl 11) : sm_at C X 145 88 ls (.ref a2 :: .ref a :: st) N I L P = sm_at C X 145 91 ls st N I L (sm_up P a 22 (some a2)) := st_pfR b145 dX11_init_88 rfl rfl (Or.inr ⟨rfl, rfl⟩) h h1
theorem s145_91 : sm_at C X 145 91 [some (.ref a), l1] st N I L P = sm_at C X 145 92 [some (.ref a), l1] (.ref a :: st) N I L P := st_go b145 dX11_init_91 (by decide) rfl
theorem s145_92 : sm_at C X 145 92 ls st N I L P = sm_at C X 145 94 ls (.int (nI 8) :: st) N I L P := st_go b145 dX11_init_92 (by decide) rfl
theorem s145_94 (h : N < 81) (h1 : sm_lay N = .inr (.inl k)) (h2 : k < 1000) : sm_at C X 145 94 ls (.int (nI k) :: st) N I L P = sm_at C X 145 96 ls (.ref N :: st) (N + 1) (sm_z I N 0) L P := st_newa b145 dX11_init_94 h h1 h2
theorem s145_96 (h : a < N) (h1 : sm_lay a = .inl 11) : sm_at C X 145 96 ls (.ref a2 :: .ref a :: st) N I L P = sm_at C X 145 99 ls st N I L (sm_up P a 23 (some a2)) := st_pfR b145 dX11_init_96 rfl rfl (Or.inr ⟨rfl, rfl⟩) h h1
theorem s145_99 : sm_at C X 145 99 [some (.ref a), l1] st N I L P = sm_at C X 145 100 [some (.ref a), l1] (.ref a :: st) N I L P := st_go b145 dX11_init_99 (by decide) rfl
theorem s145_100 : sm_at C X 145 100 ls st N I L P = sm_at C X 145 102 ls (.int (nI 8) :: st) N I L P := st_go b145 dX11_init_100 (by decide) rfl
theorem s145_102 (h : N < 81) (h1 : sm_lay N = .inr (.inl k)) (h2 : k < 1000) : sm_at C X 145 102 ls (.int (nI k) :: st) N I L P = sm_at C X 145 104 ls (.ref N :: st) (N + 1) (sm_z I N 0) L P := st_newa b145 dX11_init_102 h h1 h2
theorem s145_104 (h : a < N) (h1 : sm_lay a = .inl 11) : sm_at C X 145 104 ls (.ref a2 :: .ref a :: st) N I L P = sm_at C X 145 107 ls st N I L (sm_up P a 24 (some a2)) := st_pfR b145 dX11_init_104 rfl rfl (Or.inr ⟨rfl, rfl⟩) h h1
theorem s145_107 : sm_at C X 145 107 [some (.ref a), l1] st N I L P = sm_at C X 145 108 [some (.ref a), l1] (.ref a :: st) N I L P := st_go b145 dX11_init_107 (by decide) rfl
theorem s145_108 : sm_at C X 145 108 ls st N I L P = sm_at C X 145 110 ls (.int (nI 24) :: st) N I L P := st_go b145 dX11_init_108 (by decide) rfl
theorem s145_110 (h : N < 81) (h1 : sm_lay N = .inr (.inl k)) (h2 : k < 1000) : sm_at C X 145 110 ls (.int (nI k) :: st) N I L P = sm_at C X 145 112 ls (.ref N :: st) (N + 1) (sm_z I N 0) L P := st_newa b145 dX11_init_110 h h1 h2
theorem s145_112 (h : a < N) (h1 : sm_lay a = .inl 11) : sm_at C X 145 112 ls (.ref a2 :: .ref a :: st) N I L P = sm_at C X 145 115 ls st N I L (sm_up P a 30 (some a2)) := st_pfR b145 dX11_init_112 rfl rfl (Or.inr ⟨rfl, rfl⟩) h h1
theorem s145_115 : sm_at C X 145 115 [some (.ref a), l1] st N I L P = sm_at C X 145 116 [some (.ref a), l1] (.ref a :: st) N I L P := st_go b145 dX11_init_115 (by decide) rfl
theorem s145_116 : sm_at C X 145 116 ls st N I L P = sm_at C X 145 118 ls (.int (nI 10) :: st) N I L P := st_go b145 dX11_init_116 (by decide) rfl
theorem s145_118 (h : N < 81) (h1 : sm_lay N = .inr (.inl k)) (h2 : k < 1000) : sm_at C X 145 118 ls (.int (nI k) :: st) N I L P = sm_at C X 145 120 ls (.ref N :: st) (N + 1) (sm_z I N 0) L P := st_newa b145 dX11_init_118 h h1 h2
theorem s145_120 (h : a < N) (h1 : sm_lay a = .inl 11) : sm_at C X 145 120 ls (.ref a2 :: .ref a :: st) N I L P = sm_at C X 145 123 ls st N I L (sm_up P a 31 (some a2)) := st_pfR b145 dX11_init_120 rfl rfl (Or.inr ⟨rfl, rfl⟩) h h1
theorem s145_123 : sm_at C X 145 123 [some (.ref a), l1] st N I L P = sm_at C X 145 124 [some (.ref a), l1] (.ref a :: st) N I L P := st_go b145 dX11_init_123 (by decide) rfl
theorem s145_124 : sm_at C X 145 124 ls st N I L P = sm_at C X 145 125 ls (.int (nI 4) :: st) N I L P := st_go b145 dX11_init_124 (by decide) rfl
theorem s145_125 (h : N < 81) (h1 : sm_lay N = .inr (.inl k)) (h2 : k < 1000) : sm_at C X 145 125 ls (.int (nI k) :: st) N I L P = sm_at C X 145 127 ls (.ref N :: st) (N + 1) (sm_z I N 0) L P := st_newa b145 dX11_init_125 h h1 h2
theorem s145_127 (h : a < N) (h1 : sm_lay a = .inl 11) : sm_at C X 145 127 ls (.ref a2 :: .ref a :: st) N I L P = sm_at C X 145 130 ls st N I L (sm_up P a 32 (some a2)) := st_pfR b145 dX11_init_127 rfl rfl (Or.inr ⟨rfl, rfl⟩) h h1
theorem s145_130 : sm_at C X 145 130 [some (.ref a), l1] st N I L P = sm_at C X 145 131 [some (.ref a), l1] (.ref a :: st) N I L P := st_go b145 dX11_init_130 (by decide) rfl
theorem s145_131 : sm_at C X 145 131 ls st N I L P = sm_at C X 145 133 ls (.int (nI 16) :: st) N I L P := st_go b145 dX11_init_131 (by decide) rfl
theorem s145_133 (h : N < 81) (h1 : sm_lay N = .inr (.inl k)) (h2 : k < 1000) : sm_at C X 145 133 ls (.int (nI k) :: st) N I L P = sm_at C X 145 135 ls (.ref N :: st) (N + 1) (sm_z I N 0) L P := st_newa b145 dX11_init_133 h h1 h2
theorem s145_135 (h : a < N) (h1 : sm_lay a = .inl 11) : sm_at C X 145 135 ls (.ref a2 :: .ref a :: st) N I L P = sm_at C X 145 138 ls st N I L (sm_up P a 33 (some a2)) := st_pfR b145 dX11_init_135 rfl rfl (Or.inr ⟨rfl, rfl⟩) h h1
theorem s145_138 : sm_at C X 145 138 [some (.ref a), l1] st N I L P = sm_at C X 145 139 [some (.ref a), l1] (.ref a :: st) N I L P := st_go b145 dX11_init_138 (by decide) rfl
theorem s145_139 : sm_at C X 145 139 ls st N I L P = sm_at C X 145 140 ls (.int (-1) :: st) N I L P := st_go b145 dX11_init_139 (by decide) rfl
theorem s145_140 (h : a < N) (h1 : sm_lay a = .inl 11) : sm_at C X 145 140 ls (.int x0 :: .ref a :: st) N I L P = sm_at C X 145 143 ls st N (sm_up I a 25 x0) L P := st_pfI b145 dX11_init_140 rfl rfl rfl h h1
theorem s145_143 : sm_at C X 145 143 [some (.ref a), l1] st N I L P = sm_at C X 145 144 [some (.ref a), l1] (.ref a :: st) N I L P := st_go b145 dX11_init_143 (by decide) rfl
theorem s145_144 : sm_at C X 145 144 ls st N I L P = sm_at C X 145 145 ls (.int (nI 4) :: st) N I L P := st_go b145 dX11_init_144 (by decide) rfl
theorem s145_145 (h : a < N) (h1 : sm_lay a = .inl 11) : sm_at C X 145 145 ls (.int x0 :: .ref a :: st) N I L P = sm_at C X 145 148 ls st N (sm_up I a 19 x0) L P := st_pfI b145 dX11_init_145 rfl rfl rfl h h1
theorem s145_148 : sm_at C X 145 148 ls st N I L P = sm_at C X 145 149 ls (.int (nI 0) :: st) N I L P := st_go b145 dX11_init_148 (by decide) rfl
theorem s145_149 : sm_at C X 145 149 [l0, l1] (.int x0 :: st) N I L P = sm_at C X 145 150 [sm_cl l0, some (.int x0)] st N I L P := st_go b145 dX11_init_149 (by decide) rfl
theorem s145_150 : sm_at C X 145 150 [l0, some (.int x0)] st N I L P = sm_at C X 145 151 [l0, some (.int x0)] (.int x0 :: st) N I L P := st_go b145 dX11_init_150 (by decide) rfl
theorem s145_151 : sm_at C X 145 151 ls st N I L P = sm_at C X 145 153 ls (.int (nI 10) :: st) N I L P := st_go b145 dX11_init_151 (by decide) rfl
theorem s145_153 : sm_at C X 145 153 ls (.int x0 :: .int x1 :: st) N I L P = if x0 ≤ x1 then sm_at C X 145 169 ls st N I L P else sm_at C X 145 156 ls st N I L P := st_br b145 dX11_init_153 (by decide) rfl
theorem s145_156 : sm_at C X 145 156 [some (.ref a), l1] st N I L P = sm_at C X 145 157 [some (.ref a), l1] (.ref a :: st) N I L P := st_go b145 dX11_init_156 (by decide) rfl
theorem s145_157 (h : a < N) (h1 : sm_lay a = .inl 11) : sm_at C X 145 157 ls (.ref a :: st) N I L P = sm_at C X 145 160 ls (va_rf (P a 11) :: st) N I L P := st_gfR b145 dX11_init_157 rfl rfl h h1
theorem s145_160 : sm_at C X 145 160 [l0, some (.int x0)] st N I L P = sm_at C X 145 161 [l0, some (.int x0)] (.int x0 :: st) N I L P := st_go b145 dX11_init_160 (by decide) rfl
theorem s145_161 : sm_at C X 145 161 ls st N I L P = sm_at C X 145 162 ls (.int (-1) :: st) N I L P := st_go b145 dX11_init_161 (by decide) rfl
theorem s145_162 (h : a < N) (h1 : k < sm_al a) : sm_at C X 145 162 ls (.int x0 :: .int (nI k) :: .ref a :: st) N I L P = sm_at C X 145 163 ls st N (sm_up I a k x0) L P := st_iast b145 dX11_init_162 h h1
theorem s145_163 : sm_at C X 145 163 [l0, some (.int x0)] st N I L P = sm_at C X 145 166 [sm_cl l0, some (.int (x0 + (nI 1)))] st N I L P := st_go b145 dX11_init_163 (by decide) rfl
theorem s145_166 : sm_at C X 145 166 ls st N I L P = sm_at C X 145 150 ls st N I L P := st_go b145 dX11_init_166 (by decide) rfl
theorem s145_169 : sm_at C X 145 169 ls [] N I L P = some (none, N, I, L, P) := st_ret b145 dX11_init_169 (by decide) rfl
theorem b146 : sm_b 146 = cX11_in := rfl
theorem s146_0 : sm_at C X 146 0 [some (.long z0), l1, l2, l3, l4, l5] st N I L P = sm_at C X 146 1 [some (.long z0), l1, l2, l3, l4, l5] (.long z0 :: st) N I L P := st_go b146 dX11_in_0 (by decide) rfl
theorem s146_1 : sm_at C X 146 1 [l0, l1, some (.long z0), l3, l4, l5] st N I L P = sm_at C X 146 2 [l0, l1, some (.long z0), l3, l4, l5] (.long z0 :: st) N I L P := st_go b146 dX11_in_1 (by decide) rfl
theorem s146_2 : sm_at C X 146 2 ls (.long z0 :: .long z1 :: st) N I L P = sm_at C X 146 3 ls (.int (lg_cmp z1 z0) :: st) N I L P := st_go b146 dX11_in_2 (by decide) rfl
theorem s146_3 : sm_at C X 146 3 ls (.int x0 :: st) N I L P = if x0 < 0 then sm_at C X 146 17 ls st N I L P else sm_at C X 146 6 ls st N I L P := st_br b146 dX11_in_3 (by decide) rfl
theorem s146_6 : sm_at C X 146 6 [some (.long z0), l1, l2, l3, l4, l5] st N I L P = sm_at C X 146 7 [some (.long z0), l1, l2, l3, l4, l5] (.long z0 :: st) N I L P := st_go b146 dX11_in_6 (by decide) rfl
theorem s146_7 : sm_at C X 146 7 [l0, l1, l2, l3, some (.long z0), l5] st N I L P = sm_at C X 146 9 [l0, l1, l2, l3, some (.long z0), l5] (.long z0 :: st) N I L P := st_go b146 dX11_in_7 (by decide) rfl
theorem s146_9 : sm_at C X 146 9 ls (.long z0 :: .long z1 :: st) N I L P = sm_at C X 146 10 ls (.int (lg_cmp z1 z0) :: st) N I L P := st_go b146 dX11_in_9 (by decide) rfl
theorem s146_10 : sm_at C X 146 10 ls (.int x0 :: st) N I L P = if 0 < x0 then sm_at C X 146 17 ls st N I L P else sm_at C X 146 13 ls st N I L P := st_br b146 dX11_in_10 (by decide) rfl
theorem s146_13 : sm_at C X 146 13 ls st N I L P = sm_at C X 146 14 ls (.int (nI 1) :: st) N I L P := st_go b146 dX11_in_13 (by decide) rfl
theorem s146_14 : sm_at C X 146 14 ls st N I L P = sm_at C X 146 18 ls st N I L P := st_go b146 dX11_in_14 (by decide) rfl
theorem s146_17 : sm_at C X 146 17 ls st N I L P = sm_at C X 146 18 ls (.int (nI 0) :: st) N I L P := st_go b146 dX11_in_17 (by decide) rfl
theorem s146_18 (h : x0 = 0 ∨ x0 = 1) : sm_at C X 146 18 ls [.int x0] N I L P = some (some (.int x0), N, I, L, P) := st_zret b146 dX11_in_18 rfl h
theorem b147 : sm_b 147 = cX11_isTown := rfl
theorem s147_0 : sm_at C X 147 0 [some (.int x0)] st N I L P = sm_at C X 147 1 [some (.int x0)] (.int x0 :: st) N I L P := st_go b147 dX11_isTown_0 (by decide) rfl
theorem s147_1 : sm_at C X 147 1 ls (.int x0 :: st) N I L P = sm_at C X 147 2 ls (.long x0.toInt64 :: st) N I L P := st_go b147 dX11_isTown_1 (by decide) rfl
theorem s147_2 : sm_at C X 147 2 ls st N I L P = sm_at C X 147 3 ls (.long (lN 0) :: st) N I L P := st_go b147 dX11_isTown_2 (by decide) rfl
theorem s147_3 : sm_at C X 147 3 ls st N I L P = sm_at C X 147 6 ls (.long (lN 5) :: st) N I L P := st_go b147 dX11_isTown_3 (by decide) rfl
theorem s147_6 : sm_at C X 147 6 ls [w2, w1, w0] N I L P = sm_af C X 147 9 ls [] (C 146 [w0, w1, w2] N I L P) := st_stat b147 dX11_isTown_6 (n := 3) (rest := []) rfl rfl rfl rfl rfl rfl
theorem s147_9 (h : x0 = 0 ∨ x0 = 1) : sm_at C X 147 9 ls [.int x0] N I L P = some (some (.int x0), N, I, L, P) := st_zret b147 dX11_isTown_9 rfl h
theorem b148 : sm_b 148 = cX11_isPerson := rfl
theorem s148_0 : sm_at C X 148 0 [some (.int x0)] st N I L P = sm_at C X 148 1 [some (.int x0)] (.int x0 :: st) N I L P := st_go b148 dX11_isPerson_0 (by decide) rfl
theorem s148_1 : sm_at C X 148 1 ls (.int x0 :: st) N I L P = sm_at C X 148 2 ls (.long x0.toInt64 :: st) N I L P := st_go b148 dX11_isPerson_1 (by decide) rfl
theorem s148_2 : sm_at C X 148 2 ls st N I L P = sm_at C X 148 3 ls (.long (lN 0) :: st) N I L P := st_go b148 dX11_isPerson_2 (by decide) rfl
theorem s148_3 : sm_at C X 148 3 ls st N I L P = sm_at C X 148 6 ls (.long (lN 9) :: st) N I L P := st_go b148 dX11_isPerson_3 (by decide) rfl
theorem s148_6 : sm_at C X 148 6 ls [w2, w1, w0] N I L P = sm_af C X 148 9 ls [] (C 146 [w0, w1, w2] N I L P) := st_stat b148 dX11_isPerson_6 (n := 3) (rest := []) rfl rfl rfl rfl rfl rfl
theorem s148_9 (h : x0 = 0 ∨ x0 = 1) : sm_at C X 148 9 ls [.int x0] N I L P = some (some (.int x0), N, I, L, P) := st_zret b148 dX11_isPerson_9 rfl h
theorem b149 : sm_b 149 = cX11_road := rfl
theorem s149_0 : sm_at C X 149 0 [l0, some (.int x0), l2, l3, l4] st N I L P = sm_at C X 149 1 [l0, some (.int x0), l2, l3, l4] (.int x0 :: st) N I L P := st_go b149 dX11_road_0 (by decide) rfl
theorem s149_1 : sm_at C X 149 1 ls [w0] N I L P = sm_af C X 149 4 ls [] (C 147 [w0] N I L P) := st_stat b149 dX11_road_1 (n := 1) (rest := []) rfl rfl rfl rfl rfl rfl
theorem s149_4 : sm_at C X 149 4 ls (.int x0 :: st) N I L P = if x0 = 0 then sm_at C X 149 19 ls st N I L P else sm_at C X 149 7 ls st N I L P := st_br b149 dX11_road_4 (by decide) rfl
theorem s149_7 : sm_at C X 149 7 [l0, l1, some (.int x0), l3, l4] st N I L P = sm_at C X 149 8 [l0, l1, some (.int x0), l3, l4] (.int x0 :: st) N I L P := st_go b149 dX11_road_7 (by decide) rfl
theorem s149_8 : sm_at C X 149 8 ls [w0] N I L P = sm_af C X 149 11 ls [] (C 147 [w0] N I L P) := st_stat b149 dX11_road_8 (n := 1) (rest := []) rfl rfl rfl rfl rfl rfl
theorem s149_11 : sm_at C X 149 11 ls (.int x0 :: st) N I L P = if x0 = 0 then sm_at C X 149 19 ls st N I L P else sm_at C X 149 14 ls st N I L P := st_br b149 dX11_road_11 (by decide) rfl
theorem s149_14 : sm_at C X 149 14 [l0, some (.int x0), l2, l3, l4] st N I L P = sm_at C X 149 15 [l0, some (.int x0), l2, l3, l4] (.int x0 :: st) N I L P := st_go b149 dX11_road_14 (by decide) rfl
theorem s149_15 : sm_at C X 149 15 [l0, l1, some (.int x0), l3, l4] st N I L P = sm_at C X 149 16 [l0, l1, some (.int x0), l3, l4] (.int x0 :: st) N I L P := st_go b149 dX11_road_15 (by decide) rfl
theorem s149_16 : sm_at C X 149 16 ls (.int x0 :: .int x1 :: st) N I L P = if ¬ x1 = x0 then sm_at C X 149 22 ls st N I L P else sm_at C X 149 19 ls st N I L P := st_br b149 dX11_road_16 (by decide) rfl
theorem s149_19 : sm_at C X 149 19 ls st N I L P = sm_at C X 149 21 ls (.int (-101) :: st) N I L P := st_go b149 dX11_road_19 (by decide) rfl
theorem s149_21 : sm_at C X 149 21 ls [.int x0] N I L P = some (some (.int x0), N, I, L, P) := st_iret b149 dX11_road_21 rfl
theorem s149_22 : sm_at C X 149 22 [l0, l1, l2, some (.int x0), l4] st N I L P = sm_at C X 149 23 [l0, l1, l2, some (.int x0), l4] (.int x0 :: st) N I L P := st_go b149 dX11_road_22 (by decide) rfl
theorem s149_23 : sm_at C X 149 23 ls (.int x0 :: st) N I L P = sm_at C X 149 24 ls (.long x0.toInt64 :: st) N I L P := st_go b149 dX11_road_23 (by decide) rfl
theorem s149_24 : sm_at C X 149 24 ls st N I L P = sm_at C X 149 25 ls (.long (lN 0) :: st) N I L P := st_go b149 dX11_road_24 (by decide) rfl
theorem s149_25 : sm_at C X 149 25 ls st N I L P = sm_at C X 149 28 ls (.long (lN 99) :: st) N I L P := st_go b149 dX11_road_25 (by decide) rfl
theorem s149_28 : sm_at C X 149 28 ls [w2, w1, w0] N I L P = sm_af C X 149 31 ls [] (C 146 [w0, w1, w2] N I L P) := st_stat b149 dX11_road_28 (n := 3) (rest := []) rfl rfl rfl rfl rfl rfl
theorem s149_31 : sm_at C X 149 31 ls (.int x0 :: st) N I L P = if ¬ x0 = 0 then sm_at C X 149 37 ls st N I L P else sm_at C X 149 34 ls st N I L P := st_br b149 dX11_road_31 (by decide) rfl
theorem s149_34 : sm_at C X 149 34 ls st N I L P = sm_at C X 149 36 ls (.int (-102) :: st) N I L P := st_go b149 dX11_road_34 (by decide) rfl
theorem s149_36 : sm_at C X 149 36 ls [.int x0] N I L P = some (some (.int x0), N, I, L, P) := st_iret b149 dX11_road_36 rfl
theorem s149_37 : sm_at C X 149 37 [some (.ref a), l1, l2, l3, l4] st N I L P = sm_at C X 149 38 [some (.ref a), l1, l2, l3, l4] (.ref a :: st) N I L P := st_go b149 dX11_road_37 (by decide) rfl
theorem s149_38 (h : a < N) (h1 : sm_lay a = .inl 11) : sm_at C X 149 38 ls (.ref a :: st) N I L P = sm_at C X 149 41 ls (va_rf (P a 0) :: st) N I L P := st_gfR b149 dX11_road_38 rfl rfl h h1
theorem s149_41 : sm_at C X 149 41 ls st N I L P = sm_at C X 149 43 ls (.int (nI 6) :: st) N I L P := st_go b149 dX11_road_41 (by decide) rfl
theorem s149_43 : sm_at C X 149 43 [l0, some (.int x0), l2, l3, l4] st N I L P = sm_at C X 149 44 [l0, some (.int x0), l2, l3, l4] (.int x0 :: st) N I L P := st_go b149 dX11_road_43 (by decide) rfl
theorem s149_44 : sm_at C X 149 44 ls (.int x0 :: .int x1 :: st) N I L P = sm_at C X 149 45 ls (.int (x1 * x0) :: st) N I L P := st_go b149 dX11_road_44 (by decide) rfl
theorem s149_45 : sm_at C X 149 45 [l0, l1, some (.int x0), l3, l4] st N I L P = sm_at C X 149 46 [l0, l1, some (.int x0), l3, l4] (.int x0 :: st) N I L P := st_go b149 dX11_road_45 (by decide) rfl
theorem s149_46 : sm_at C X 149 46 ls (.int x0 :: .int x1 :: st) N I L P = sm_at C X 149 47 ls (.int (x1 + x0) :: st) N I L P := st_go b149 dX11_road_46 (by decide) rfl
theorem s149_47 (h : a < N) (h1 : k < sm_al a) : sm_at C X 149 47 ls (.int (nI k) :: .ref a :: st) N I L P = sm_at C X 149 48 ls (.int (I a k) :: st) N I L P := st_iald b149 dX11_road_47 h h1
theorem s149_48 : sm_at C X 149 48 [l0, l1, l2, l3, l4] (.int x0 :: st) N I L P = sm_at C X 149 50 [l0, l1, l2, sm_cl l3, some (.int x0)] st N I L P := st_go b149 dX11_road_48 (by decide) rfl
theorem s149_50 : sm_at C X 149 50 [some (.ref a), l1, l2, l3, l4] st N I L P = sm_at C X 149 51 [some (.ref a), l1, l2, l3, l4] (.ref a :: st) N I L P := st_go b149 dX11_road_50 (by decide) rfl
theorem s149_51 (h : a < N) (h1 : sm_lay a = .inl 11) : sm_at C X 149 51 ls (.ref a :: st) N I L P = sm_at C X 149 54 ls (va_rf (P a 0) :: st) N I L P := st_gfR b149 dX11_road_51 rfl rfl h h1
theorem s149_54 : sm_at C X 149 54 ls st N I L P = sm_at C X 149 56 ls (.int (nI 6) :: st) N I L P := st_go b149 dX11_road_54 (by decide) rfl
theorem s149_56 : sm_at C X 149 56 [l0, some (.int x0), l2, l3, l4] st N I L P = sm_at C X 149 57 [l0, some (.int x0), l2, l3, l4] (.int x0 :: st) N I L P := st_go b149 dX11_road_56 (by decide) rfl
theorem s149_57 : sm_at C X 149 57 ls (.int x0 :: .int x1 :: st) N I L P = sm_at C X 149 58 ls (.int (x1 * x0) :: st) N I L P := st_go b149 dX11_road_57 (by decide) rfl
theorem s149_58 : sm_at C X 149 58 [l0, l1, some (.int x0), l3, l4] st N I L P = sm_at C X 149 59 [l0, l1, some (.int x0), l3, l4] (.int x0 :: st) N I L P := st_go b149 dX11_road_58 (by decide) rfl
theorem s149_59 : sm_at C X 149 59 ls (.int x0 :: .int x1 :: st) N I L P = sm_at C X 149 60 ls (.int (x1 + x0) :: st) N I L P := st_go b149 dX11_road_59 (by decide) rfl
theorem s149_60 : sm_at C X 149 60 [l0, l1, l2, some (.int x0), l4] st N I L P = sm_at C X 149 61 [l0, l1, l2, some (.int x0), l4] (.int x0 :: st) N I L P := st_go b149 dX11_road_60 (by decide) rfl
theorem s149_61 (h : a < N) (h1 : k < sm_al a) : sm_at C X 149 61 ls (.int x0 :: .int (nI k) :: .ref a :: st) N I L P = sm_at C X 149 62 ls st N (sm_up I a k x0) L P := st_iast b149 dX11_road_61 h h1
theorem s149_62 : sm_at C X 149 62 [some (.ref a), l1, l2, l3, l4] st N I L P = sm_at C X 149 63 [some (.ref a), l1, l2, l3, l4] (.ref a :: st) N I L P := st_go b149 dX11_road_62 (by decide) rfl
theorem s149_63 (h : a < N) (h1 : sm_lay a = .inl 11) : sm_at C X 149 63 ls (.ref a :: st) N I L P = sm_at C X 149 66 ls (va_rf (P a 0) :: st) N I L P := st_gfR b149 dX11_road_63 rfl rfl h h1
theorem s149_66 : sm_at C X 149 66 ls st N I L P = sm_at C X 149 68 ls (.int (nI 6) :: st) N I L P := st_go b149 dX11_road_66 (by decide) rfl
theorem s149_68 : sm_at C X 149 68 [l0, l1, some (.int x0), l3, l4] st N I L P = sm_at C X 149 69 [l0, l1, some (.int x0), l3, l4] (.int x0 :: st) N I L P := st_go b149 dX11_road_68 (by decide) rfl
theorem s149_69 : sm_at C X 149 69 ls (.int x0 :: .int x1 :: st) N I L P = sm_at C X 149 70 ls (.int (x1 * x0) :: st) N I L P := st_go b149 dX11_road_69 (by decide) rfl
theorem s149_70 : sm_at C X 149 70 [l0, some (.int x0), l2, l3, l4] st N I L P = sm_at C X 149 71 [l0, some (.int x0), l2, l3, l4] (.int x0 :: st) N I L P := st_go b149 dX11_road_70 (by decide) rfl
theorem s149_71 : sm_at C X 149 71 ls (.int x0 :: .int x1 :: st) N I L P = sm_at C X 149 72 ls (.int (x1 + x0) :: st) N I L P := st_go b149 dX11_road_71 (by decide) rfl
theorem s149_72 : sm_at C X 149 72 [l0, l1, l2, some (.int x0), l4] st N I L P = sm_at C X 149 73 [l0, l1, l2, some (.int x0), l4] (.int x0 :: st) N I L P := st_go b149 dX11_road_72 (by decide) rfl
theorem s149_73 (h : a < N) (h1 : k < sm_al a) : sm_at C X 149 73 ls (.int x0 :: .int (nI k) :: .ref a :: st) N I L P = sm_at C X 149 74 ls st N (sm_up I a k x0) L P := st_iast b149 dX11_road_73 h h1
theorem s149_74 : sm_at C X 149 74 [l0, l1, l2, l3, some (.int x0)] st N I L P = sm_at C X 149 76 [l0, l1, l2, l3, some (.int x0)] (.int x0 :: st) N I L P := st_go b149 dX11_road_74 (by decide) rfl
theorem s149_76 : sm_at C X 149 76 ls [.int x0] N I L P = some (some (.int x0), N, I, L, P) := st_iret b149 dX11_road_76 rfl
theorem b150 : sm_b 150 = cX11_town := rfl
theorem s150_0 : sm_at C X 150 0 [l0, some (.int x0), l2, l3] st N I L P = sm_at C X 150 1 [l0, some (.int x0), l2, l3] (.int x0 :: st) N I L P := st_go b150 dX11_town_0 (by decide) rfl
theorem s150_1 : sm_at C X 150 1 ls [w0] N I L P = sm_af C X 150 4 ls [] (C 148 [w0] N I L P) := st_stat b150 dX11_town_1 (n := 1) (rest := []) rfl rfl rfl rfl rfl rfl
theorem s150_4 : sm_at C X 150 4 ls (.int x0 :: st) N I L P = if x0 = 0 then sm_at C X 150 14 ls st N I L P else sm_at C X 150 7 ls st N I L P := st_br b150 dX11_town_4 (by decide) rfl
theorem s150_7 : sm_at C X 150 7 [l0, l1, some (.int x0), l3] st N I L P = sm_at C X 150 8 [l0, l1, some (.int x0), l3] (.int x0 :: st) N I L P := st_go b150 dX11_town_7 (by decide) rfl
theorem s150_8 : sm_at C X 150 8 ls [w0] N I L P = sm_af C X 150 11 ls [] (C 147 [w0] N I L P) := st_stat b150 dX11_town_8 (n := 1) (rest := []) rfl rfl rfl rfl rfl rfl
theorem s150_11 : sm_at C X 150 11 ls (.int x0 :: st) N I L P = if ¬ x0 = 0 then sm_at C X 150 17 ls st N I L P else sm_at C X 150 14 ls st N I L P := st_br b150 dX11_town_11 (by decide) rfl
theorem s150_14 : sm_at C X 150 14 ls st N I L P = sm_at C X 150 16 ls (.int (-101) :: st) N I L P := st_go b150 dX11_town_14 (by decide) rfl
theorem s150_16 : sm_at C X 150 16 ls [.int x0] N I L P = some (some (.int x0), N, I, L, P) := st_iret b150 dX11_town_16 rfl
theorem s150_17 : sm_at C X 150 17 [some (.ref a), l1, l2, l3] st N I L P = sm_at C X 150 18 [some (.ref a), l1, l2, l3] (.ref a :: st) N I L P := st_go b150 dX11_town_17 (by decide) rfl
theorem s150_18 (h : a < N) (h1 : sm_lay a = .inl 11) : sm_at C X 150 18 ls (.ref a :: st) N I L P = sm_at C X 150 21 ls (va_rf (P a 1) :: st) N I L P := st_gfR b150 dX11_town_18 rfl rfl h h1
theorem s150_21 : sm_at C X 150 21 [l0, some (.int x0), l2, l3] st N I L P = sm_at C X 150 22 [l0, some (.int x0), l2, l3] (.int x0 :: st) N I L P := st_go b150 dX11_town_21 (by decide) rfl
theorem s150_22 (h : a < N) (h1 : k < sm_al a) : sm_at C X 150 22 ls (.int (nI k) :: .ref a :: st) N I L P = sm_at C X 150 23 ls (.int (I a k) :: st) N I L P := st_iald b150 dX11_town_22 h h1
theorem s150_23 : sm_at C X 150 23 [l0, l1, l2, l3] (.int x0 :: st) N I L P = sm_at C X 150 24 [l0, l1, sm_cl l2, some (.int x0)] st N I L P := st_go b150 dX11_town_23 (by decide) rfl
theorem s150_24 : sm_at C X 150 24 [some (.ref a), l1, l2, l3] st N I L P = sm_at C X 150 25 [some (.ref a), l1, l2, l3] (.ref a :: st) N I L P := st_go b150 dX11_town_24 (by decide) rfl
theorem s150_25 (h : a < N) (h1 : sm_lay a = .inl 11) : sm_at C X 150 25 ls (.ref a :: st) N I L P = sm_at C X 150 28 ls (va_rf (P a 1) :: st) N I L P := st_gfR b150 dX11_town_25 rfl rfl h h1
theorem s150_28 : sm_at C X 150 28 [l0, some (.int x0), l2, l3] st N I L P = sm_at C X 150 29 [l0, some (.int x0), l2, l3] (.int x0 :: st) N I L P := st_go b150 dX11_town_28 (by decide) rfl
theorem s150_29 : sm_at C X 150 29 [l0, l1, some (.int x0), l3] st N I L P = sm_at C X 150 30 [l0, l1, some (.int x0), l3] (.int x0 :: st) N I L P := st_go b150 dX11_town_29 (by decide) rfl
theorem s150_30 (h : a < N) (h1 : k < sm_al a) : sm_at C X 150 30 ls (.int x0 :: .int (nI k) :: .ref a :: st) N I L P = sm_at C X 150 31 ls st N (sm_up I a k x0) L P := st_iast b150 dX11_town_30 h h1
theorem s150_31 : sm_at C X 150 31 [l0, l1, l2, some (.int x0)] st N I L P = sm_at C X 150 32 [l0, l1, l2, some (.int x0)] (.int x0 :: st) N I L P := st_go b150 dX11_town_31 (by decide) rfl
theorem s150_32 : sm_at C X 150 32 ls [.int x0] N I L P = some (some (.int x0), N, I, L, P) := st_iret b150 dX11_town_32 rfl
theorem b151 : sm_b 151 = cX11_letters := rfl
theorem s151_0 : sm_at C X 151 0 ls st N I L P = sm_at C X 151 1 ls (.int (nI 0) :: st) N I L P := st_go b151 dX11_letters_0 (by decide) rfl
theorem s151_1 : sm_at C X 151 1 [l0, l1, l2, l3, l4, l5, l6, l7, l8] (.int x0 :: st) N I L P = sm_at C X 151 2 [l0, l1, sm_cl l2, some (.int x0), l4, l5, l6, l7, l8] st N I L P := st_go b151 dX11_letters_1 (by decide) rfl
theorem s151_2 : sm_at C X 151 2 ls st N I L P = sm_at C X 151 3 ls (.int (nI 1) :: st) N I L P := st_go b151 dX11_letters_2 (by decide) rfl
theorem s151_3 : sm_at C X 151 3 [l0, l1, l2, l3, l4, l5, l6, l7, l8] (.int x0 :: st) N I L P = sm_at C X 151 5 [l0, l1, l2, sm_cl l3, some (.int x0), l5, l6, l7, l8] st N I L P := st_go b151 dX11_letters_3 (by decide) rfl
theorem s151_5 : sm_at C X 151 5 [l0, some (.long z0), l2, l3, l4, l5, l6, l7, l8] st N I L P = sm_at C X 151 6 [l0, some (.long z0), l2, l3, l4, l5, l6, l7, l8] (.long z0 :: st) N I L P := st_go b151 dX11_letters_5 (by decide) rfl
theorem s151_6 : sm_at C X 151 6 [l0, l1, l2, l3, l4, l5, l6, l7, l8] (.long z0 :: st) N I L P = sm_at C X 151 8 [l0, l1, l2, l3, sm_cl l4, some (.long z0), none, l7, l8] st N I L P := st_go b151 dX11_letters_6 (by decide) rfl
theorem s151_8 : sm_at C X 151 8 ls st N I L P = sm_at C X 151 9 ls (.int (nI 0) :: st) N I L P := st_go b151 dX11_letters_8 (by decide) rfl
theorem s151_9 : sm_at C X 151 9 [l0, l1, l2, l3, l4, l5, l6, l7, l8] (.int x0 :: st) N I L P = sm_at C X 151 11 [l0, l1, l2, l3, l4, l5, sm_cl l6, some (.int x0), l8] st N I L P := st_go b151 dX11_letters_9 (by decide) rfl
theorem s151_11 : sm_at C X 151 11 [l0, l1, l2, l3, l4, l5, l6, some (.int x0), l8] st N I L P = sm_at C X 151 13 [l0, l1, l2, l3, l4, l5, l6, some (.int x0), l8] (.int x0 :: st) N I L P := st_go b151 dX11_letters_11 (by decide) rfl
theorem s151_13 : sm_at C X 151 13 ls st N I L P = sm_at C X 151 15 ls (.int (nI 8) :: st) N I L P := st_go b151 dX11_letters_13 (by decide) rfl
theorem s151_15 : sm_at C X 151 15 ls (.int x0 :: .int x1 :: st) N I L P = if x0 ≤ x1 then sm_at C X 151 83 ls st N I L P else sm_at C X 151 18 ls st N I L P := st_br b151 dX11_letters_15 (by decide) rfl
theorem s151_18 : sm_at C X 151 18 [l0, l1, l2, l3, l4, some (.long z0), l6, l7, l8] st N I L P = sm_at C X 151 20 [l0, l1, l2, l3, l4, some (.long z0), l6, l7, l8] (.long z0 :: st) N I L P := st_go b151 dX11_letters_18 (by decide) rfl
theorem s151_20 : sm_at C X 151 20 ls st N I L P = sm_at C X 151 23 ls (.long (lN 255) :: st) N I L P := st_go b151 dX11_letters_20 (by decide) rfl
theorem s151_23 : sm_at C X 151 23 ls (.long z0 :: .long z1 :: st) N I L P = sm_at C X 151 24 ls (.long (z1 &&& z0) :: st) N I L P := st_go b151 dX11_letters_23 (by decide) rfl
theorem s151_24 : sm_at C X 151 24 ls (.long z0 :: st) N I L P = sm_at C X 151 25 ls (.int z0.toInt32 :: st) N I L P := st_go b151 dX11_letters_24 (by decide) rfl
theorem s151_25 : sm_at C X 151 25 [l0, l1, l2, l3, l4, l5, l6, l7, l8] (.int x0 :: st) N I L P = sm_at C X 151 27 [l0, l1, l2, l3, l4, l5, l6, sm_cl l7, some (.int x0)] st N I L P := st_go b151 dX11_letters_25 (by decide) rfl
theorem s151_27 : sm_at C X 151 27 [l0, l1, l2, l3, l4, some (.long z0), l6, l7, l8] st N I L P = sm_at C X 151 29 [l0, l1, l2, l3, l4, some (.long z0), l6, l7, l8] (.long z0 :: st) N I L P := st_go b151 dX11_letters_27 (by decide) rfl
theorem s151_29 : sm_at C X 151 29 ls st N I L P = sm_at C X 151 31 ls (.int (nI 8) :: st) N I L P := st_go b151 dX11_letters_29 (by decide) rfl
theorem s151_31 : sm_at C X 151 31 ls (.int x0 :: .long z0 :: st) N I L P = sm_at C X 151 32 ls (.long (z0.toUInt64 >>> (x0.toInt64.toUInt64 &&& Int64.toUInt64 63)).toInt64 :: st) N I L P := st_go b151 dX11_letters_31 (by decide) rfl
theorem s151_32 : sm_at C X 151 32 [l0, l1, l2, l3, l4, l5, l6, l7, l8] (.long z0 :: st) N I L P = sm_at C X 151 34 [l0, l1, l2, l3, sm_cl l4, some (.long z0), none, l7, l8] st N I L P := st_go b151 dX11_letters_32 (by decide) rfl
theorem s151_34 : sm_at C X 151 34 [l0, l1, l2, l3, some (.int x0), l5, l6, l7, l8] st N I L P = sm_at C X 151 36 [l0, l1, l2, l3, some (.int x0), l5, l6, l7, l8] (.int x0 :: st) N I L P := st_go b151 dX11_letters_34 (by decide) rfl
theorem s151_36 : sm_at C X 151 36 ls (.int x0 :: st) N I L P = if x0 = 0 then sm_at C X 151 61 ls st N I L P else sm_at C X 151 39 ls st N I L P := st_br b151 dX11_letters_36 (by decide) rfl
theorem s151_39 : sm_at C X 151 39 [l0, l1, l2, l3, l4, l5, l6, l7, some (.int x0)] st N I L P = sm_at C X 151 41 [l0, l1, l2, l3, l4, l5, l6, l7, some (.int x0)] (.int x0 :: st) N I L P := st_go b151 dX11_letters_39 (by decide) rfl
theorem s151_41 : sm_at C X 151 41 ls st N I L P = sm_at C X 151 43 ls (.int (nI 126) :: st) N I L P := st_go b151 dX11_letters_41 (by decide) rfl
theorem s151_43 : sm_at C X 151 43 ls (.int x0 :: .int x1 :: st) N I L P = if x0 < x1 then sm_at C X 151 61 ls st N I L P else sm_at C X 151 46 ls st N I L P := st_br b151 dX11_letters_43 (by decide) rfl
theorem s151_46 : sm_at C X 151 46 [l0, l1, l2, l3, l4, l5, l6, l7, some (.int x0)] st N I L P = sm_at C X 151 48 [l0, l1, l2, l3, l4, l5, l6, l7, some (.int x0)] (.int x0 :: st) N I L P := st_go b151 dX11_letters_46 (by decide) rfl
theorem s151_48 : sm_at C X 151 48 ls (.int x0 :: st) N I L P = if x0 = 0 then sm_at C X 151 57 ls st N I L P else sm_at C X 151 51 ls st N I L P := st_br b151 dX11_letters_48 (by decide) rfl
theorem s151_51 : sm_at C X 151 51 [l0, l1, l2, some (.int x0), l4, l5, l6, l7, l8] st N I L P = sm_at C X 151 52 [l0, l1, l2, some (.int x0), l4, l5, l6, l7, l8] (.int x0 :: st) N I L P := st_go b151 dX11_letters_51 (by decide) rfl
theorem s151_52 : sm_at C X 151 52 [l0, l1, l2, l3, l4, l5, l6, some (.int x0), l8] st N I L P = sm_at C X 151 54 [l0, l1, l2, l3, l4, l5, l6, some (.int x0), l8] (.int x0 :: st) N I L P := st_go b151 dX11_letters_52 (by decide) rfl
theorem s151_54 : sm_at C X 151 54 ls (.int x0 :: .int x1 :: st) N I L P = if ¬ x1 = x0 then sm_at C X 151 61 ls st N I L P else sm_at C X 151 57 ls st N I L P := st_br b151 dX11_letters_54 (by decide) rfl
theorem s151_57 : sm_at C X 151 57 ls st N I L P = sm_at C X 151 58 ls (.int (nI 1) :: st) N I L P := st_go b151 dX11_letters_57 (by decide) rfl
theorem s151_58 : sm_at C X 151 58 ls st N I L P = sm_at C X 151 62 ls st N I L P := st_go b151 dX11_letters_58 (by decide) rfl
theorem s151_61 : sm_at C X 151 61 ls st N I L P = sm_at C X 151 62 ls (.int (nI 0) :: st) N I L P := st_go b151 dX11_letters_61 (by decide) rfl
theorem s151_62 : sm_at C X 151 62 [l0, l1, l2, l3, l4, l5, l6, l7, l8] (.int x0 :: st) N I L P = sm_at C X 151 64 [l0, l1, l2, sm_cl l3, some (.int x0), l5, l6, l7, l8] st N I L P := st_go b151 dX11_letters_62 (by decide) rfl
theorem s151_64 : sm_at C X 151 64 [l0, l1, l2, some (.int x0), l4, l5, l6, l7, l8] st N I L P = sm_at C X 151 65 [l0, l1, l2, some (.int x0), l4, l5, l6, l7, l8] (.int x0 :: st) N I L P := st_go b151 dX11_letters_64 (by decide) rfl
theorem s151_65 : sm_at C X 151 65 [l0, l1, l2, l3, l4, l5, l6, l7, some (.int x0)] st N I L P = sm_at C X 151 67 [l0, l1, l2, l3, l4, l5, l6, l7, some (.int x0)] (.int x0 :: st) N I L P := st_go b151 dX11_letters_65 (by decide) rfl
theorem s151_67 : sm_at C X 151 67 ls (.int x0 :: st) N I L P = if x0 ≤ 0 then sm_at C X 151 74 ls st N I L P else sm_at C X 151 70 ls st N I L P := st_br b151 dX11_letters_67 (by decide) rfl
theorem s151_70 : sm_at C X 151 70 ls st N I L P = sm_at C X 151 71 ls (.int (nI 1) :: st) N I L P := st_go b151 dX11_letters_70 (by decide) rfl
theorem s151_71 : sm_at C X 151 71 ls st N I L P = sm_at C X 151 75 ls st N I L P := st_go b151 dX11_letters_71 (by decide) rfl
theorem s151_74 : sm_at C X 151 74 ls st N I L P = sm_at C X 151 75 ls (.int (nI 0) :: st) N I L P := st_go b151 dX11_letters_74 (by decide) rfl
theorem s151_75 : sm_at C X 151 75 ls (.int x0 :: .int x1 :: st) N I L P = sm_at C X 151 76 ls (.int (x1 + x0) :: st) N I L P := st_go b151 dX11_letters_75 (by decide) rfl
theorem s151_76 : sm_at C X 151 76 [l0, l1, l2, l3, l4, l5, l6, l7, l8] (.int x0 :: st) N I L P = sm_at C X 151 77 [l0, l1, sm_cl l2, some (.int x0), l4, l5, l6, l7, l8] st N I L P := st_go b151 dX11_letters_76 (by decide) rfl
theorem s151_77 : sm_at C X 151 77 [l0, l1, l2, l3, l4, l5, l6, some (.int x0), l8] st N I L P = sm_at C X 151 80 [l0, l1, l2, l3, l4, l5, sm_cl l6, some (.int (x0 + (nI 1))), l8] st N I L P := st_go b151 dX11_letters_77 (by decide) rfl
theorem s151_80 : sm_at C X 151 80 ls st N I L P = sm_at C X 151 11 ls st N I L P := st_go b151 dX11_letters_80 (by decide) rfl
theorem s151_83 : sm_at C X 151 83 [l0, l1, l2, l3, some (.int x0), l5, l6, l7, l8] st N I L P = sm_at C X 151 85 [l0, l1, l2, l3, some (.int x0), l5, l6, l7, l8] (.int x0 :: st) N I L P := st_go b151 dX11_letters_83 (by decide) rfl
theorem s151_85 : sm_at C X 151 85 ls (.int x0 :: st) N I L P = if ¬ x0 = 0 then sm_at C X 151 91 ls st N I L P else sm_at C X 151 88 ls st N I L P := st_br b151 dX11_letters_85 (by decide) rfl
theorem s151_88 : sm_at C X 151 88 ls st N I L P = sm_at C X 151 90 ls (.int (-102) :: st) N I L P := st_go b151 dX11_letters_88 (by decide) rfl
theorem s151_90 : sm_at C X 151 90 ls [.int x0] N I L P = some (some (.int x0), N, I, L, P) := st_iret b151 dX11_letters_90 rfl
theorem s151_91 : sm_at C X 151 91 [some (.ref a), l1, l2, l3, l4, l5, l6, l7, l8] st N I L P = sm_at C X 151 92 [some (.ref a), l1, l2, l3, l4, l5, l6, l7, l8] (.ref a :: st) N I L P := st_go b151 dX11_letters_91 (by decide) rfl
theorem s151_92 (h : a < N) (h1 : sm_lay a = .inl 11) : sm_at C X 151 92 ls (.ref a :: st) N I L P = sm_at C X 151 95 ls (.int (I a 3) :: st) N I L P := st_gfI b151 dX11_letters_92 rfl rfl h h1
theorem s151_95 : sm_at C X 151 95 [l0, l1, l2, some (.int x0), l4, l5, l6, l7, l8] st N I L P = sm_at C X 151 96 [l0, l1, l2, some (.int x0), l4, l5, l6, l7, l8] (.int x0 :: st) N I L P := st_go b151 dX11_letters_95 (by decide) rfl
theorem s151_96 : sm_at C X 151 96 ls (.int x0 :: .int x1 :: st) N I L P = sm_at C X 151 97 ls (.int (x1 + x0) :: st) N I L P := st_go b151 dX11_letters_96 (by decide) rfl
theorem s151_97 : sm_at C X 151 97 ls st N I L P = sm_at C X 151 99 ls (.int (nI 32) :: st) N I L P := st_go b151 dX11_letters_97 (by decide) rfl
theorem s151_99 : sm_at C X 151 99 ls (.int x0 :: .int x1 :: st) N I L P = if x1 ≤ x0 then sm_at C X 151 105 ls st N I L P else sm_at C X 151 102 ls st N I L P := st_br b151 dX11_letters_99 (by decide) rfl
theorem s151_102 : sm_at C X 151 102 ls st N I L P = sm_at C X 151 104 ls (.int (-104) :: st) N I L P := st_go b151 dX11_letters_102 (by decide) rfl
theorem s151_104 : sm_at C X 151 104 ls [.int x0] N I L P = some (some (.int x0), N, I, L, P) := st_iret b151 dX11_letters_104 rfl
theorem s151_105 : sm_at C X 151 105 ls st N I L P = sm_at C X 151 106 ls (.int (nI 0) :: st) N I L P := st_go b151 dX11_letters_105 (by decide) rfl
theorem s151_106 : sm_at C X 151 106 [l0, l1, l2, l3, l4, l5, l6, l7, l8] (.int x0 :: st) N I L P = sm_at C X 151 108 [l0, l1, l2, l3, l4, l5, sm_cl l6, some (.int x0), l8] st N I L P := st_go b151 dX11_letters_106 (by decide) rfl
theorem s151_108 : sm_at C X 151 108 [l0, l1, l2, l3, l4, l5, l6, some (.int x0), l8] st N I L P = sm_at C X 151 110 [l0, l1, l2, l3, l4, l5, l6, some (.int x0), l8] (.int x0 :: st) N I L P := st_go b151 dX11_letters_108 (by decide) rfl
theorem s151_110 : sm_at C X 151 110 [l0, l1, l2, some (.int x0), l4, l5, l6, l7, l8] st N I L P = sm_at C X 151 111 [l0, l1, l2, some (.int x0), l4, l5, l6, l7, l8] (.int x0 :: st) N I L P := st_go b151 dX11_letters_110 (by decide) rfl
theorem s151_111 : sm_at C X 151 111 ls (.int x0 :: .int x1 :: st) N I L P = if x0 ≤ x1 then sm_at C X 151 151 ls st N I L P else sm_at C X 151 114 ls st N I L P := st_br b151 dX11_letters_111 (by decide) rfl
theorem s151_114 : sm_at C X 151 114 [some (.ref a), l1, l2, l3, l4, l5, l6, l7, l8] st N I L P = sm_at C X 151 115 [some (.ref a), l1, l2, l3, l4, l5, l6, l7, l8] (.ref a :: st) N I L P := st_go b151 dX11_letters_114 (by decide) rfl
theorem s151_115 (h : a < N) (h1 : sm_lay a = .inl 11) : sm_at C X 151 115 ls (.ref a :: st) N I L P = sm_at C X 151 118 ls (va_rf (P a 2) :: st) N I L P := st_gfR b151 dX11_letters_115 rfl rfl h h1
theorem s151_118 : sm_at C X 151 118 [some (.ref a), l1, l2, l3, l4, l5, l6, l7, l8] st N I L P = sm_at C X 151 119 [some (.ref a), l1, l2, l3, l4, l5, l6, l7, l8] (.ref a :: st) N I L P := st_go b151 dX11_letters_118 (by decide) rfl
theorem s151_119 (h : a < N) (h1 : sm_lay a = .inl 11) : sm_at C X 151 119 ls (.ref a :: st) N I L P = sm_at C X 151 122 ls (.int (I a 3) :: st) N I L P := st_gfI b151 dX11_letters_119 rfl rfl h h1
theorem s151_122 : sm_at C X 151 122 [l0, some (.long z0), l2, l3, l4, l5, l6, l7, l8] st N I L P = sm_at C X 151 123 [l0, some (.long z0), l2, l3, l4, l5, l6, l7, l8] (.long z0 :: st) N I L P := st_go b151 dX11_letters_122 (by decide) rfl
theorem s151_123 : sm_at C X 151 123 ls st N I L P = sm_at C X 151 125 ls (.int (nI 8) :: st) N I L P := st_go b151 dX11_letters_123 (by decide) rfl
theorem s151_125 : sm_at C X 151 125 [l0, l1, l2, l3, l4, l5, l6, some (.int x0), l8] st N I L P = sm_at C X 151 127 [l0, l1, l2, l3, l4, l5, l6, some (.int x0), l8] (.int x0 :: st) N I L P := st_go b151 dX11_letters_125 (by decide) rfl
theorem s151_127 : sm_at C X 151 127 ls (.int x0 :: .int x1 :: st) N I L P = sm_at C X 151 128 ls (.int (x1 * x0) :: st) N I L P := st_go b151 dX11_letters_127 (by decide) rfl
theorem s151_128 : sm_at C X 151 128 ls (.int x0 :: .long z0 :: st) N I L P = sm_at C X 151 129 ls (.long (z0.toUInt64 >>> (x0.toInt64.toUInt64 &&& Int64.toUInt64 63)).toInt64 :: st) N I L P := st_go b151 dX11_letters_128 (by decide) rfl
theorem s151_129 : sm_at C X 151 129 ls st N I L P = sm_at C X 151 132 ls (.long (lN 255) :: st) N I L P := st_go b151 dX11_letters_129 (by decide) rfl
theorem s151_132 : sm_at C X 151 132 ls (.long z0 :: .long z1 :: st) N I L P = sm_at C X 151 133 ls (.long (z1 &&& z0) :: st) N I L P := st_go b151 dX11_letters_132 (by decide) rfl
theorem s151_133 : sm_at C X 151 133 ls (.long z0 :: st) N I L P = sm_at C X 151 134 ls (.int z0.toInt32 :: st) N I L P := st_go b151 dX11_letters_133 (by decide) rfl
theorem s151_134 (h : a < N) (h1 : k < sm_al a) : sm_at C X 151 134 ls (.int x0 :: .int (nI k) :: .ref a :: st) N I L P = sm_at C X 151 135 ls st N (sm_up I a k x0) L P := st_iast b151 dX11_letters_134 h h1
theorem s151_135 : sm_at C X 151 135 [some (.ref a), l1, l2, l3, l4, l5, l6, l7, l8] st N I L P = sm_at C X 151 136 [some (.ref a), l1, l2, l3, l4, l5, l6, l7, l8] (.ref a :: st) N I L P := st_go b151 dX11_letters_135 (by decide) rfl
theorem s151_136 : sm_at C X 151 136 ls (.ref a :: st) N I L P = sm_at C X 151 137 ls (.ref a :: .ref a :: st) N I L P := st_go b151 dX11_letters_136 (by decide) rfl
theorem s151_137 (h : a < N) (h1 : sm_lay a = .inl 11) : sm_at C X 151 137 ls (.ref a :: st) N I L P = sm_at C X 151 140 ls (.int (I a 3) :: st) N I L P := st_gfI b151 dX11_letters_137 rfl rfl h h1
theorem s151_140 : sm_at C X 151 140 ls st N I L P = sm_at C X 151 141 ls (.int (nI 1) :: st) N I L P := st_go b151 dX11_letters_140 (by decide) rfl
theorem s151_141 : sm_at C X 151 141 ls (.int x0 :: .int x1 :: st) N I L P = sm_at C X 151 142 ls (.int (x1 + x0) :: st) N I L P := st_go b151 dX11_letters_141 (by decide) rfl
theorem s151_142 (h : a < N) (h1 : sm_lay a = .inl 11) : sm_at C X 151 142 ls (.int x0 :: .ref a :: st) N I L P = sm_at C X 151 145 ls st N (sm_up I a 3 x0) L P := st_pfI b151 dX11_letters_142 rfl rfl rfl h h1
theorem s151_145 : sm_at C X 151 145 [l0, l1, l2, l3, l4, l5, l6, some (.int x0), l8] st N I L P = sm_at C X 151 148 [l0, l1, l2, l3, l4, l5, sm_cl l6, some (.int (x0 + (nI 1))), l8] st N I L P := st_go b151 dX11_letters_145 (by decide) rfl
theorem s151_148 : sm_at C X 151 148 ls st N I L P = sm_at C X 151 108 ls st N I L P := st_go b151 dX11_letters_148 (by decide) rfl
theorem s151_151 : sm_at C X 151 151 [some (.ref a), l1, l2, l3, l4, l5, l6, l7, l8] st N I L P = sm_at C X 151 152 [some (.ref a), l1, l2, l3, l4, l5, l6, l7, l8] (.ref a :: st) N I L P := st_go b151 dX11_letters_151 (by decide) rfl
theorem s151_152 (h : a < N) (h1 : sm_lay a = .inl 11) : sm_at C X 151 152 ls (.ref a :: st) N I L P = sm_at C X 151 155 ls (.int (I a 3) :: st) N I L P := st_gfI b151 dX11_letters_152 rfl rfl h h1
theorem s151_155 : sm_at C X 151 155 ls [.int x0] N I L P = some (some (.int x0), N, I, L, P) := st_iret b151 dX11_letters_155 rfl
theorem b152 : sm_b 152 = cX11_blank := rfl
theorem s152_0 : sm_at C X 152 0 [some (.ref a), l1] st N I L P = sm_at C X 152 1 [some (.ref a), l1] (.ref a :: st) N I L P := st_go b152 dX11_blank_0 (by decide) rfl
theorem s152_1 (h : a < N) (h1 : sm_lay a = .inl 11) : sm_at C X 152 1 ls (.ref a :: st) N I L P = sm_at C X 152 4 ls (.int (I a 3) :: st) N I L P := st_gfI b152 dX11_blank_1 rfl rfl h h1
theorem s152_4 : sm_at C X 152 4 [l0, l1] (.int x0 :: st) N I L P = sm_at C X 152 5 [sm_cl l0, some (.int x0)] st N I L P := st_go b152 dX11_blank_4 (by decide) rfl
theorem s152_5 : sm_at C X 152 5 [some (.ref a), l1] st N I L P = sm_at C X 152 6 [some (.ref a), l1] (.ref a :: st) N I L P := st_go b152 dX11_blank_5 (by decide) rfl
theorem s152_6 : sm_at C X 152 6 ls st N I L P = sm_at C X 152 7 ls (.int (nI 0) :: st) N I L P := st_go b152 dX11_blank_6 (by decide) rfl
theorem s152_7 (h : a < N) (h1 : sm_lay a = .inl 11) : sm_at C X 152 7 ls (.int x0 :: .ref a :: st) N I L P = sm_at C X 152 10 ls st N (sm_up I a 3 x0) L P := st_pfI b152 dX11_blank_7 rfl rfl rfl h h1
theorem s152_10 : sm_at C X 152 10 [l0, some (.int x0)] st N I L P = sm_at C X 152 11 [l0, some (.int x0)] (.int x0 :: st) N I L P := st_go b152 dX11_blank_10 (by decide) rfl
theorem s152_11 : sm_at C X 152 11 ls [.int x0] N I L P = some (some (.int x0), N, I, L, P) := st_iret b152 dX11_blank_11 rfl
theorem b153 : sm_b 153 = cX11_goPerson := rfl
theorem s153_0 : sm_at C X 153 0 ls st N I L P = sm_at C X 153 2 ls (.int (nI 7) :: st) N I L P := st_go b153 dX11_goPerson_0 (by decide) rfl
theorem s153_2 : sm_at C X 153 2 [some (.ref a), l1, l2, l3, l4, l5] st N I L P = sm_at C X 153 3 [some (.ref a), l1, l2, l3, l4, l5] (.ref a :: st) N I L P := st_go b153 dX11_goPerson_2 (by decide) rfl
theorem s153_3 (h : a < N) (h1 : sm_lay a = .inl 11) : sm_at C X 153 3 ls (.ref a :: st) N I L P = sm_at C X 153 6 ls (.int (I a 4) :: st) N I L P := st_gfI b153 dX11_goPerson_3 rfl rfl h h1
theorem s153_6 : sm_at C X 153 6 ls (.int x0 :: .int x1 :: st) N I L P = sm_at C X 153 7 ls (.int (x1 * x0) :: st) N I L P := st_go b153 dX11_goPerson_6 (by decide) rfl
theorem s153_7 : sm_at C X 153 7 [l0, l1, l2, l3, l4, l5] (.int x0 :: st) N I L P = sm_at C X 153 8 [l0, sm_cl l1, some (.int x0), l3, l4, l5] st N I L P := st_go b153 dX11_goPerson_7 (by decide) rfl
theorem s153_8 : sm_at C X 153 8 [l0, some (.int x0), l2, l3, l4, l5] st N I L P = sm_at C X 153 9 [l0, some (.int x0), l2, l3, l4, l5] (.int x0 :: st) N I L P := st_go b153 dX11_goPerson_8 (by decide) rfl
theorem s153_9 : sm_at C X 153 9 ls st N I L P = sm_at C X 153 11 ls (.int (nI 48) :: st) N I L P := st_go b153 dX11_goPerson_9 (by decide) rfl
theorem s153_11 : sm_at C X 153 11 ls (.int x0 :: .int x1 :: st) N I L P = sm_at C X 153 12 ls (.int (x1 - x0) :: st) N I L P := st_go b153 dX11_goPerson_11 (by decide) rfl
theorem s153_12 : sm_at C X 153 12 [l0, l1, l2, l3, l4, l5] (.int x0 :: st) N I L P = sm_at C X 153 13 [l0, l1, sm_cl l2, some (.int x0), l4, l5] st N I L P := st_go b153 dX11_goPerson_12 (by decide) rfl
theorem s153_13 : sm_at C X 153 13 [some (.ref a), l1, l2, l3, l4, l5] st N I L P = sm_at C X 153 14 [some (.ref a), l1, l2, l3, l4, l5] (.ref a :: st) N I L P := st_go b153 dX11_goPerson_13 (by decide) rfl
theorem s153_14 (h : a < N) (h1 : sm_lay a = .inl 11) : sm_at C X 153 14 ls (.ref a :: st) N I L P = sm_at C X 153 17 ls (va_rf (P a 7) :: st) N I L P := st_gfR b153 dX11_goPerson_14 rfl rfl h h1
theorem s153_17 : sm_at C X 153 17 [l0, l1, some (.int x0), l3, l4, l5] st N I L P = sm_at C X 153 18 [l0, l1, some (.int x0), l3, l4, l5] (.int x0 :: st) N I L P := st_go b153 dX11_goPerson_17 (by decide) rfl
theorem s153_18 (h : a < N) (h1 : k < sm_al a) : sm_at C X 153 18 ls (.int (nI k) :: .ref a :: st) N I L P = sm_at C X 153 19 ls (.int (I a k) :: st) N I L P := st_iald b153 dX11_goPerson_18 h h1
theorem s153_19 : sm_at C X 153 19 ls st N I L P = sm_at C X 153 20 ls (.int (nI 1) :: st) N I L P := st_go b153 dX11_goPerson_19 (by decide) rfl
theorem s153_20 : sm_at C X 153 20 ls (.int x0 :: .int x1 :: st) N I L P = if ¬ x1 = x0 then sm_at C X 153 27 ls st N I L P else sm_at C X 153 23 ls st N I L P := st_br b153 dX11_goPerson_20 (by decide) rfl
theorem s153_23 : sm_at C X 153 23 ls st N I L P = sm_at C X 153 24 ls (.int (nI 4) :: st) N I L P := st_go b153 dX11_goPerson_23 (by decide) rfl
theorem s153_24 : sm_at C X 153 24 ls st N I L P = sm_at C X 153 28 ls st N I L P := st_go b153 dX11_goPerson_24 (by decide) rfl
theorem s153_27 : sm_at C X 153 27 ls st N I L P = sm_at C X 153 28 ls (.int (nI 2) :: st) N I L P := st_go b153 dX11_goPerson_27 (by decide) rfl
theorem s153_28 : sm_at C X 153 28 [l0, l1, l2, l3, l4, l5] (.int x0 :: st) N I L P = sm_at C X 153 30 [l0, l1, l2, sm_cl l3, some (.int x0), l5] st N I L P := st_go b153 dX11_goPerson_28 (by decide) rfl
theorem s153_30 : sm_at C X 153 30 [l0, l1, l2, some (.int x0), l4, l5] st N I L P = sm_at C X 153 31 [l0, l1, l2, some (.int x0), l4, l5] (.int x0 :: st) N I L P := st_go b153 dX11_goPerson_30 (by decide) rfl
theorem s153_31 : sm_at C X 153 31 ls [w0] N I L P = sm_af C X 153 34 ls [] (C 148 [w0] N I L P) := st_stat b153 dX11_goPerson_31 (n := 1) (rest := []) rfl rfl rfl rfl rfl rfl
theorem s153_34 : sm_at C X 153 34 ls (.int x0 :: st) N I L P = if x0 = 0 then sm_at C X 153 65 ls st N I L P else sm_at C X 153 37 ls st N I L P := st_br b153 dX11_goPerson_34 (by decide) rfl
theorem s153_37 : sm_at C X 153 37 [some (.ref a), l1, l2, l3, l4, l5] st N I L P = sm_at C X 153 38 [some (.ref a), l1, l2, l3, l4, l5] (.ref a :: st) N I L P := st_go b153 dX11_goPerson_37 (by decide) rfl
theorem s153_38 (h : a < N) (h1 : sm_lay a = .inl 11) : sm_at C X 153 38 ls (.ref a :: st) N I L P = sm_at C X 153 41 ls (.int (I a 5) :: st) N I L P := st_gfI b153 dX11_goPerson_38 rfl rfl h h1
theorem s153_41 : sm_at C X 153 41 [l0, l1, l2, some (.int x0), l4, l5] st N I L P = sm_at C X 153 42 [l0, l1, l2, some (.int x0), l4, l5] (.int x0 :: st) N I L P := st_go b153 dX11_goPerson_41 (by decide) rfl
theorem s153_42 : sm_at C X 153 42 ls (.int x0 :: .int x1 :: st) N I L P = sm_at C X 153 43 ls (.int (x1 >>> (x0 &&& 31)) :: st) N I L P := st_go b153 dX11_goPerson_42 (by decide) rfl
theorem s153_43 : sm_at C X 153 43 ls st N I L P = sm_at C X 153 44 ls (.int (nI 1) :: st) N I L P := st_go b153 dX11_goPerson_43 (by decide) rfl
theorem s153_44 : sm_at C X 153 44 ls (.int x0 :: .int x1 :: st) N I L P = sm_at C X 153 45 ls (.int (x1 &&& x0) :: st) N I L P := st_go b153 dX11_goPerson_44 (by decide) rfl
theorem s153_45 : sm_at C X 153 45 ls (.int x0 :: st) N I L P = if ¬ x0 = 0 then sm_at C X 153 65 ls st N I L P else sm_at C X 153 48 ls st N I L P := st_br b153 dX11_goPerson_45 (by decide) rfl
theorem s153_48 : sm_at C X 153 48 [some (.ref a), l1, l2, l3, l4, l5] st N I L P = sm_at C X 153 49 [some (.ref a), l1, l2, l3, l4, l5] (.ref a :: st) N I L P := st_go b153 dX11_goPerson_48 (by decide) rfl
theorem s153_49 (h : a < N) (h1 : sm_lay a = .inl 11) : sm_at C X 153 49 ls (.ref a :: st) N I L P = sm_at C X 153 52 ls (va_rf (P a 7) :: st) N I L P := st_gfR b153 dX11_goPerson_49 rfl rfl h h1
theorem s153_52 : sm_at C X 153 52 [l0, l1, some (.int x0), l3, l4, l5] st N I L P = sm_at C X 153 53 [l0, l1, some (.int x0), l3, l4, l5] (.int x0 :: st) N I L P := st_go b153 dX11_goPerson_52 (by decide) rfl
theorem s153_53 : sm_at C X 153 53 ls st N I L P = sm_at C X 153 54 ls (.int (nI 1) :: st) N I L P := st_go b153 dX11_goPerson_53 (by decide) rfl
theorem s153_54 : sm_at C X 153 54 ls (.int x0 :: .int x1 :: st) N I L P = sm_at C X 153 55 ls (.int (x1 + x0) :: st) N I L P := st_go b153 dX11_goPerson_54 (by decide) rfl
theorem s153_55 (h : a < N) (h1 : k < sm_al a) : sm_at C X 153 55 ls (.int (nI k) :: .ref a :: st) N I L P = sm_at C X 153 56 ls (.int (I a k) :: st) N I L P := st_iald b153 dX11_goPerson_55 h h1
theorem s153_56 : sm_at C X 153 56 [l0, l1, l2, l3, some (.int x0), l5] st N I L P = sm_at C X 153 58 [l0, l1, l2, l3, some (.int x0), l5] (.int x0 :: st) N I L P := st_go b153 dX11_goPerson_56 (by decide) rfl
theorem s153_58 : sm_at C X 153 58 ls (.int x0 :: .int x1 :: st) N I L P = if x0 ≤ x1 then sm_at C X 153 65 ls st N I L P else sm_at C X 153 61 ls st N I L P := st_br b153 dX11_goPerson_58 (by decide) rfl
theorem s153_61 : sm_at C X 153 61 ls st N I L P = sm_at C X 153 62 ls (.int (nI 1) :: st) N I L P := st_go b153 dX11_goPerson_61 (by decide) rfl
theorem s153_62 : sm_at C X 153 62 ls st N I L P = sm_at C X 153 66 ls st N I L P := st_go b153 dX11_goPerson_62 (by decide) rfl
theorem s153_65 : sm_at C X 153 65 ls st N I L P = sm_at C X 153 66 ls (.int (nI 0) :: st) N I L P := st_go b153 dX11_goPerson_65 (by decide) rfl
theorem s153_66 : sm_at C X 153 66 [l0, l1, l2, l3, l4, l5] (.int x0 :: st) N I L P = sm_at C X 153 68 [l0, l1, l2, l3, sm_cl l4, some (.int x0)] st N I L P := st_go b153 dX11_goPerson_66 (by decide) rfl
theorem s153_68 : sm_at C X 153 68 [l0, l1, l2, l3, l4, some (.int x0)] st N I L P = sm_at C X 153 70 [l0, l1, l2, l3, l4, some (.int x0)] (.int x0 :: st) N I L P := st_go b153 dX11_goPerson_68 (by decide) rfl
theorem s153_70 : sm_at C X 153 70 ls (.int x0 :: st) N I L P = if x0 = 0 then sm_at C X 153 115 ls st N I L P else sm_at C X 153 73 ls st N I L P := st_br b153 dX11_goPerson_70 (by decide) rfl
theorem s153_73 : sm_at C X 153 73 [some (.ref a), l1, l2, l3, l4, l5] st N I L P = sm_at C X 153 74 [some (.ref a), l1, l2, l3, l4, l5] (.ref a :: st) N I L P := st_go b153 dX11_goPerson_73 (by decide) rfl
theorem s153_74 : sm_at C X 153 74 ls (.ref a :: st) N I L P = sm_at C X 153 75 ls (.ref a :: .ref a :: st) N I L P := st_go b153 dX11_goPerson_74 (by decide) rfl
theorem s153_75 (h : a < N) (h1 : sm_lay a = .inl 11) : sm_at C X 153 75 ls (.ref a :: st) N I L P = sm_at C X 153 78 ls (.int (I a 5) :: st) N I L P := st_gfI b153 dX11_goPerson_75 rfl rfl h h1
theorem s153_78 : sm_at C X 153 78 ls st N I L P = sm_at C X 153 79 ls (.int (nI 1) :: st) N I L P := st_go b153 dX11_goPerson_78 (by decide) rfl
theorem s153_79 : sm_at C X 153 79 [l0, l1, l2, some (.int x0), l4, l5] st N I L P = sm_at C X 153 80 [l0, l1, l2, some (.int x0), l4, l5] (.int x0 :: st) N I L P := st_go b153 dX11_goPerson_79 (by decide) rfl
theorem s153_80 : sm_at C X 153 80 ls (.int x0 :: .int x1 :: st) N I L P = sm_at C X 153 81 ls (.int (x1 <<< (x0 &&& 31)) :: st) N I L P := st_go b153 dX11_goPerson_80 (by decide) rfl
theorem s153_81 : sm_at C X 153 81 ls (.int x0 :: .int x1 :: st) N I L P = sm_at C X 153 82 ls (.int (x1 ||| x0) :: st) N I L P := st_go b153 dX11_goPerson_81 (by decide) rfl
theorem s153_82 (h : a < N) (h1 : sm_lay a = .inl 11) : sm_at C X 153 82 ls (.int x0 :: .ref a :: st) N I L P = sm_at C X 153 85 ls st N (sm_up I a 5 x0) L P := st_pfI b153 dX11_goPerson_82 rfl rfl rfl h h1
theorem s153_85 : sm_at C X 153 85 [some (.ref a), l1, l2, l3, l4, l5] st N I L P = sm_at C X 153 86 [some (.ref a), l1, l2, l3, l4, l5] (.ref a :: st) N I L P := st_go b153 dX11_goPerson_85 (by decide) rfl
theorem s153_86 (h : a < N) (h1 : sm_lay a = .inl 11) : sm_at C X 153 86 ls (.ref a :: st) N I L P = sm_at C X 153 89 ls (va_rf (P a 7) :: st) N I L P := st_gfR b153 dX11_goPerson_86 rfl rfl h h1
theorem s153_89 : sm_at C X 153 89 [l0, l1, some (.int x0), l3, l4, l5] st N I L P = sm_at C X 153 90 [l0, l1, some (.int x0), l3, l4, l5] (.int x0 :: st) N I L P := st_go b153 dX11_goPerson_89 (by decide) rfl
theorem s153_90 : sm_at C X 153 90 ls st N I L P = sm_at C X 153 91 ls (.int (nI 3) :: st) N I L P := st_go b153 dX11_goPerson_90 (by decide) rfl
theorem s153_91 : sm_at C X 153 91 ls (.int x0 :: .int x1 :: st) N I L P = sm_at C X 153 92 ls (.int (x1 + x0) :: st) N I L P := st_go b153 dX11_goPerson_91 (by decide) rfl
theorem s153_92 : sm_at C X 153 92 [some (.ref a), l1, l2, l3, l4, l5] st N I L P = sm_at C X 153 93 [some (.ref a), l1, l2, l3, l4, l5] (.ref a :: st) N I L P := st_go b153 dX11_goPerson_92 (by decide) rfl
theorem s153_93 (h : a < N) (h1 : sm_lay a = .inl 11) : sm_at C X 153 93 ls (.ref a :: st) N I L P = sm_at C X 153 96 ls (va_rf (P a 7) :: st) N I L P := st_gfR b153 dX11_goPerson_93 rfl rfl h h1
theorem s153_96 : sm_at C X 153 96 [l0, l1, some (.int x0), l3, l4, l5] st N I L P = sm_at C X 153 97 [l0, l1, some (.int x0), l3, l4, l5] (.int x0 :: st) N I L P := st_go b153 dX11_goPerson_96 (by decide) rfl
theorem s153_97 : sm_at C X 153 97 ls st N I L P = sm_at C X 153 98 ls (.int (nI 1) :: st) N I L P := st_go b153 dX11_goPerson_97 (by decide) rfl
theorem s153_98 : sm_at C X 153 98 ls (.int x0 :: .int x1 :: st) N I L P = sm_at C X 153 99 ls (.int (x1 + x0) :: st) N I L P := st_go b153 dX11_goPerson_98 (by decide) rfl
theorem s153_99 (h : a < N) (h1 : k < sm_al a) : sm_at C X 153 99 ls (.int (nI k) :: .ref a :: st) N I L P = sm_at C X 153 100 ls (.int (I a k) :: st) N I L P := st_iald b153 dX11_goPerson_99 h h1
theorem s153_100 : sm_at C X 153 100 ls (.int x0 :: .int x1 :: st) N I L P = sm_at C X 153 101 ls (.int (x1 + x0) :: st) N I L P := st_go b153 dX11_goPerson_100 (by decide) rfl
theorem s153_101 : sm_at C X 153 101 [l0, l1, l2, some (.int x0), l4, l5] st N I L P = sm_at C X 153 102 [l0, l1, l2, some (.int x0), l4, l5] (.int x0 :: st) N I L P := st_go b153 dX11_goPerson_101 (by decide) rfl
theorem s153_102 (h : a < N) (h1 : k < sm_al a) : sm_at C X 153 102 ls (.int x0 :: .int (nI k) :: .ref a :: st) N I L P = sm_at C X 153 103 ls st N (sm_up I a k x0) L P := st_iast b153 dX11_goPerson_102 h h1
theorem s153_103 : sm_at C X 153 103 [some (.ref a), l1, l2, l3, l4, l5] st N I L P = sm_at C X 153 104 [some (.ref a), l1, l2, l3, l4, l5] (.ref a :: st) N I L P := st_go b153 dX11_goPerson_103 (by decide) rfl
theorem s153_104 (h : a < N) (h1 : sm_lay a = .inl 11) : sm_at C X 153 104 ls (.ref a :: st) N I L P = sm_at C X 153 107 ls (va_rf (P a 7) :: st) N I L P := st_gfR b153 dX11_goPerson_104 rfl rfl h h1
theorem s153_107 : sm_at C X 153 107 [l0, l1, some (.int x0), l3, l4, l5] st N I L P = sm_at C X 153 108 [l0, l1, some (.int x0), l3, l4, l5] (.int x0 :: st) N I L P := st_go b153 dX11_goPerson_107 (by decide) rfl
theorem s153_108 : sm_at C X 153 108 ls st N I L P = sm_at C X 153 109 ls (.int (nI 1) :: st) N I L P := st_go b153 dX11_goPerson_108 (by decide) rfl
theorem s153_109 : sm_at C X 153 109 ls (.int x0 :: .int x1 :: st) N I L P = sm_at C X 153 110 ls (.int (x1 + x0) :: st) N I L P := st_go b153 dX11_goPerson_109 (by decide) rfl
theorem s153_110 : sm_at C X 153 110 ls (.int x0 :: .ref a :: st) N I L P = sm_at C X 153 111 ls (.int x0 :: .ref a :: .int x0 :: .ref a :: st) N I L P := st_go b153 dX11_goPerson_110 (by decide) rfl
theorem s153_111 (h : a < N) (h1 : k < sm_al a) : sm_at C X 153 111 ls (.int (nI k) :: .ref a :: st) N I L P = sm_at C X 153 112 ls (.int (I a k) :: st) N I L P := st_iald b153 dX11_goPerson_111 h h1
theorem s153_112 : sm_at C X 153 112 ls st N I L P = sm_at C X 153 113 ls (.int (nI 1) :: st) N I L P := st_go b153 dX11_goPerson_112 (by decide) rfl
theorem s153_113 : sm_at C X 153 113 ls (.int x0 :: .int x1 :: st) N I L P = sm_at C X 153 114 ls (.int (x1 + x0) :: st) N I L P := st_go b153 dX11_goPerson_113 (by decide) rfl
theorem s153_114 (h : a < N) (h1 : k < sm_al a) : sm_at C X 153 114 ls (.int x0 :: .int (nI k) :: .ref a :: st) N I L P = sm_at C X 153 115 ls st N (sm_up I a k x0) L P := st_iast b153 dX11_goPerson_114 h h1
theorem s153_115 : sm_at C X 153 115 [some (.ref a), l1, l2, l3, l4, l5] st N I L P = sm_at C X 153 116 [some (.ref a), l1, l2, l3, l4, l5] (.ref a :: st) N I L P := st_go b153 dX11_goPerson_115 (by decide) rfl
theorem s153_116 : sm_at C X 153 116 ls st N I L P = sm_at C X 153 117 ls (.int (nI 2) :: st) N I L P := st_go b153 dX11_goPerson_116 (by decide) rfl
theorem s153_117 (h : a < N) (h1 : sm_lay a = .inl 11) : sm_at C X 153 117 ls (.int x0 :: .ref a :: st) N I L P = sm_at C X 153 120 ls st N (sm_up I a 6 x0) L P := st_pfI b153 dX11_goPerson_117 rfl rfl rfl h h1
theorem s153_120 : sm_at C X 153 120 [l0, l1, l2, l3, l4, some (.int x0)] st N I L P = sm_at C X 153 122 [l0, l1, l2, l3, l4, some (.int x0)] (.int x0 :: st) N I L P := st_go b153 dX11_goPerson_120 (by decide) rfl
theorem s153_122 (h : x0 = 0 ∨ x0 = 1) : sm_at C X 153 122 ls [.int x0] N I L P = some (some (.int x0), N, I, L, P) := st_zret b153 dX11_goPerson_122 rfl h
theorem b154 : sm_b 154 = cX11_isBirth := rfl
theorem s154_0 : sm_at C X 154 0 [some (.ref a), l1] st N I L P = sm_at C X 154 1 [some (.ref a), l1] (.ref a :: st) N I L P := st_go b154 dX11_isBirth_0 (by decide) rfl
theorem s154_1 (h : a < N) (h1 : sm_lay a = .inl 11) : sm_at C X 154 1 ls (.ref a :: st) N I L P = sm_at C X 154 4 ls (va_rf (P a 7) :: st) N I L P := st_gfR b154 dX11_isBirth_1 rfl rfl h h1
theorem s154_4 : sm_at C X 154 4 ls st N I L P = sm_at C X 154 6 ls (.int (nI 7) :: st) N I L P := st_go b154 dX11_isBirth_4 (by decide) rfl
theorem s154_6 : sm_at C X 154 6 [some (.ref a), l1] st N I L P = sm_at C X 154 7 [some (.ref a), l1] (.ref a :: st) N I L P := st_go b154 dX11_isBirth_6 (by decide) rfl
theorem s154_7 (h : a < N) (h1 : sm_lay a = .inl 11) : sm_at C X 154 7 ls (.ref a :: st) N I L P = sm_at C X 154 10 ls (.int (I a 4) :: st) N I L P := st_gfI b154 dX11_isBirth_7 rfl rfl h h1
theorem s154_10 : sm_at C X 154 10 ls (.int x0 :: .int x1 :: st) N I L P = sm_at C X 154 11 ls (.int (x1 * x0) :: st) N I L P := st_go b154 dX11_isBirth_10 (by decide) rfl
theorem s154_11 : sm_at C X 154 11 ls st N I L P = sm_at C X 154 12 ls (.int (nI 1) :: st) N I L P := st_go b154 dX11_isBirth_11 (by decide) rfl
theorem s154_12 : sm_at C X 154 12 ls (.int x0 :: .int x1 :: st) N I L P = sm_at C X 154 13 ls (.int (x1 + x0) :: st) N I L P := st_go b154 dX11_isBirth_12 (by decide) rfl
theorem s154_13 (h : a < N) (h1 : k < sm_al a) : sm_at C X 154 13 ls (.int (nI k) :: .ref a :: st) N I L P = sm_at C X 154 14 ls (.int (I a k) :: st) N I L P := st_iald b154 dX11_isBirth_13 h h1
theorem s154_14 : sm_at C X 154 14 [l0, l1] (.int x0 :: st) N I L P = sm_at C X 154 15 [sm_cl l0, some (.int x0)] st N I L P := st_go b154 dX11_isBirth_14 (by decide) rfl
theorem s154_15 : sm_at C X 154 15 [some (.ref a), l1] st N I L P = sm_at C X 154 16 [some (.ref a), l1] (.ref a :: st) N I L P := st_go b154 dX11_isBirth_15 (by decide) rfl
theorem s154_16 (h : a < N) (h1 : sm_lay a = .inl 11) : sm_at C X 154 16 ls (.ref a :: st) N I L P = sm_at C X 154 19 ls (.int (I a 6) :: st) N I L P := st_gfI b154 dX11_isBirth_16 rfl rfl h h1
theorem s154_19 : sm_at C X 154 19 ls st N I L P = sm_at C X 154 20 ls (.int (nI 2) :: st) N I L P := st_go b154 dX11_isBirth_19 (by decide) rfl
theorem s154_20 : sm_at C X 154 20 ls (.int x0 :: .int x1 :: st) N I L P = if ¬ x1 = x0 then sm_at C X 154 52 ls st N I L P else sm_at C X 154 23 ls st N I L P := st_br b154 dX11_isBirth_20 (by decide) rfl
theorem s154_23 : sm_at C X 154 23 [l0, some (.int x0)] st N I L P = sm_at C X 154 24 [l0, some (.int x0)] (.int x0 :: st) N I L P := st_go b154 dX11_isBirth_23 (by decide) rfl
theorem s154_24 : sm_at C X 154 24 [some (.ref a), l1] st N I L P = sm_at C X 154 25 [some (.ref a), l1] (.ref a :: st) N I L P := st_go b154 dX11_isBirth_24 (by decide) rfl
theorem s154_25 (h : a < N) (h1 : sm_lay a = .inl 11) : sm_at C X 154 25 ls (.ref a :: st) N I L P = sm_at C X 154 28 ls (va_rf (P a 7) :: st) N I L P := st_gfR b154 dX11_isBirth_25 rfl rfl h h1
theorem s154_28 : sm_at C X 154 28 ls st N I L P = sm_at C X 154 30 ls (.int (nI 7) :: st) N I L P := st_go b154 dX11_isBirth_28 (by decide) rfl
theorem s154_30 : sm_at C X 154 30 [some (.ref a), l1] st N I L P = sm_at C X 154 31 [some (.ref a), l1] (.ref a :: st) N I L P := st_go b154 dX11_isBirth_30 (by decide) rfl
theorem s154_31 (h : a < N) (h1 : sm_lay a = .inl 11) : sm_at C X 154 31 ls (.ref a :: st) N I L P = sm_at C X 154 34 ls (.int (I a 4) :: st) N I L P := st_gfI b154 dX11_isBirth_31 rfl rfl h h1
theorem s154_34 : sm_at C X 154 34 ls (.int x0 :: .int x1 :: st) N I L P = sm_at C X 154 35 ls (.int (x1 * x0) :: st) N I L P := st_go b154 dX11_isBirth_34 (by decide) rfl
theorem s154_35 (h : a < N) (h1 : k < sm_al a) : sm_at C X 154 35 ls (.int (nI k) :: .ref a :: st) N I L P = sm_at C X 154 36 ls (.int (I a k) :: st) N I L P := st_iald b154 dX11_isBirth_35 h h1
theorem s154_36 : sm_at C X 154 36 ls st N I L P = sm_at C X 154 37 ls (.int (nI 1) :: st) N I L P := st_go b154 dX11_isBirth_36 (by decide) rfl
theorem s154_37 : sm_at C X 154 37 ls (.int x0 :: .int x1 :: st) N I L P = if ¬ x1 = x0 then sm_at C X 154 44 ls st N I L P else sm_at C X 154 40 ls st N I L P := st_br b154 dX11_isBirth_37 (by decide) rfl
theorem s154_40 : sm_at C X 154 40 ls st N I L P = sm_at C X 154 41 ls (.int (nI 3) :: st) N I L P := st_go b154 dX11_isBirth_40 (by decide) rfl
theorem s154_41 : sm_at C X 154 41 ls st N I L P = sm_at C X 154 45 ls st N I L P := st_go b154 dX11_isBirth_41 (by decide) rfl
theorem s154_44 : sm_at C X 154 44 ls st N I L P = sm_at C X 154 45 ls (.int (nI 2) :: st) N I L P := st_go b154 dX11_isBirth_44 (by decide) rfl
theorem s154_45 : sm_at C X 154 45 ls (.int x0 :: .int x1 :: st) N I L P = if x1 < x0 then sm_at C X 154 52 ls st N I L P else sm_at C X 154 48 ls st N I L P := st_br b154 dX11_isBirth_45 (by decide) rfl
theorem s154_48 : sm_at C X 154 48 ls st N I L P = sm_at C X 154 49 ls (.int (nI 1) :: st) N I L P := st_go b154 dX11_isBirth_48 (by decide) rfl
theorem s154_49 : sm_at C X 154 49 ls st N I L P = sm_at C X 154 53 ls st N I L P := st_go b154 dX11_isBirth_49 (by decide) rfl
theorem s154_52 : sm_at C X 154 52 ls st N I L P = sm_at C X 154 53 ls (.int (nI 0) :: st) N I L P := st_go b154 dX11_isBirth_52 (by decide) rfl
theorem s154_53 (h : x0 = 0 ∨ x0 = 1) : sm_at C X 154 53 ls [.int x0] N I L P = some (some (.int x0), N, I, L, P) := st_zret b154 dX11_isBirth_53 rfl h
theorem b155 : sm_b 155 = cX11_go := rfl
theorem s155_0 : sm_at C X 155 0 ls st N I L P = sm_at C X 155 2 ls (.int (nI 7) :: st) N I L P := st_go b155 dX11_go_0 (by decide) rfl
theorem s155_2 : sm_at C X 155 2 [some (.ref a), l1, l2, l3] st N I L P = sm_at C X 155 3 [some (.ref a), l1, l2, l3] (.ref a :: st) N I L P := st_go b155 dX11_go_2 (by decide) rfl
theorem s155_3 (h : a < N) (h1 : sm_lay a = .inl 11) : sm_at C X 155 3 ls (.ref a :: st) N I L P = sm_at C X 155 6 ls (.int (I a 4) :: st) N I L P := st_gfI b155 dX11_go_3 rfl rfl h h1
theorem s155_6 : sm_at C X 155 6 ls (.int x0 :: .int x1 :: st) N I L P = sm_at C X 155 7 ls (.int (x1 * x0) :: st) N I L P := st_go b155 dX11_go_6 (by decide) rfl
theorem s155_7 : sm_at C X 155 7 [l0, l1, l2, l3] (.int x0 :: st) N I L P = sm_at C X 155 8 [l0, sm_cl l1, some (.int x0), l3] st N I L P := st_go b155 dX11_go_7 (by decide) rfl
theorem s155_8 : sm_at C X 155 8 [some (.ref a), l1, l2, l3] st N I L P = sm_at C X 155 9 [some (.ref a), l1, l2, l3] (.ref a :: st) N I L P := st_go b155 dX11_go_8 (by decide) rfl
theorem s155_9 (h : a < N) (h1 : sm_lay a = .inl 11) : sm_at C X 155 9 ls (.ref a :: st) N I L P = sm_at C X 155 12 ls (.int (I a 6) :: st) N I L P := st_gfI b155 dX11_go_9 rfl rfl h h1
theorem s155_12 : sm_at C X 155 12 ls (.int x0 :: st) N I L P = if ¬ x0 = 0 then sm_at C X 155 128 ls st N I L P else sm_at C X 155 15 ls st N I L P := st_br b155 dX11_go_12 (by decide) rfl
theorem s155_15 : sm_at C X 155 15 [some (.ref a), l1, l2, l3] st N I L P = sm_at C X 155 16 [some (.ref a), l1, l2, l3] (.ref a :: st) N I L P := st_go b155 dX11_go_15 (by decide) rfl
theorem s155_16 (h : a < N) (h1 : sm_lay a = .inl 11) : sm_at C X 155 16 ls (.ref a :: st) N I L P = sm_at C X 155 19 ls (va_rf (P a 7) :: st) N I L P := st_gfR b155 dX11_go_16 rfl rfl h h1
theorem s155_19 : sm_at C X 155 19 [l0, l1, some (.int x0), l3] st N I L P = sm_at C X 155 20 [l0, l1, some (.int x0), l3] (.int x0 :: st) N I L P := st_go b155 dX11_go_19 (by decide) rfl
theorem s155_20 : sm_at C X 155 20 [l0, some (.int x0), l2, l3] st N I L P = sm_at C X 155 21 [l0, some (.int x0), l2, l3] (.int x0 :: st) N I L P := st_go b155 dX11_go_20 (by decide) rfl
theorem s155_21 : sm_at C X 155 21 ls st N I L P = sm_at C X 155 23 ls (.int (nI 111) :: st) N I L P := st_go b155 dX11_go_21 (by decide) rfl
theorem s155_23 : sm_at C X 155 23 ls (.int x0 :: .int x1 :: st) N I L P = if ¬ x1 = x0 then sm_at C X 155 30 ls st N I L P else sm_at C X 155 26 ls st N I L P := st_br b155 dX11_go_23 (by decide) rfl
theorem s155_26 : sm_at C X 155 26 ls st N I L P = sm_at C X 155 27 ls (.int (nI 1) :: st) N I L P := st_go b155 dX11_go_26 (by decide) rfl
theorem s155_27 : sm_at C X 155 27 ls st N I L P = sm_at C X 155 51 ls st N I L P := st_go b155 dX11_go_27 (by decide) rfl
theorem s155_30 : sm_at C X 155 30 [l0, some (.int x0), l2, l3] st N I L P = sm_at C X 155 31 [l0, some (.int x0), l2, l3] (.int x0 :: st) N I L P := st_go b155 dX11_go_30 (by decide) rfl
theorem s155_31 : sm_at C X 155 31 ls st N I L P = sm_at C X 155 33 ls (.int (nI 63) :: st) N I L P := st_go b155 dX11_go_31 (by decide) rfl
theorem s155_33 : sm_at C X 155 33 ls (.int x0 :: .int x1 :: st) N I L P = if ¬ x1 = x0 then sm_at C X 155 40 ls st N I L P else sm_at C X 155 36 ls st N I L P := st_br b155 dX11_go_33 (by decide) rfl
theorem s155_36 : sm_at C X 155 36 ls st N I L P = sm_at C X 155 37 ls (.int (nI 2) :: st) N I L P := st_go b155 dX11_go_36 (by decide) rfl
theorem s155_37 : sm_at C X 155 37 ls st N I L P = sm_at C X 155 51 ls st N I L P := st_go b155 dX11_go_37 (by decide) rfl
theorem s155_40 : sm_at C X 155 40 [l0, some (.int x0), l2, l3] st N I L P = sm_at C X 155 41 [l0, some (.int x0), l2, l3] (.int x0 :: st) N I L P := st_go b155 dX11_go_40 (by decide) rfl
theorem s155_41 : sm_at C X 155 41 ls st N I L P = sm_at C X 155 43 ls (.int (nI 43) :: st) N I L P := st_go b155 dX11_go_41 (by decide) rfl
theorem s155_43 : sm_at C X 155 43 ls (.int x0 :: .int x1 :: st) N I L P = if ¬ x1 = x0 then sm_at C X 155 50 ls st N I L P else sm_at C X 155 46 ls st N I L P := st_br b155 dX11_go_43 (by decide) rfl
theorem s155_46 : sm_at C X 155 46 ls st N I L P = sm_at C X 155 47 ls (.int (nI 3) :: st) N I L P := st_go b155 dX11_go_46 (by decide) rfl
theorem s155_47 : sm_at C X 155 47 ls st N I L P = sm_at C X 155 51 ls st N I L P := st_go b155 dX11_go_47 (by decide) rfl
theorem s155_50 : sm_at C X 155 50 ls st N I L P = sm_at C X 155 51 ls (.int (nI 0) :: st) N I L P := st_go b155 dX11_go_50 (by decide) rfl
theorem s155_51 (h : a < N) (h1 : k < sm_al a) : sm_at C X 155 51 ls (.int x0 :: .int (nI k) :: .ref a :: st) N I L P = sm_at C X 155 52 ls st N (sm_up I a k x0) L P := st_iast b155 dX11_go_51 h h1
theorem s155_52 : sm_at C X 155 52 ls st N I L P = sm_at C X 155 53 ls (.int (nI 1) :: st) N I L P := st_go b155 dX11_go_52 (by decide) rfl
theorem s155_53 : sm_at C X 155 53 [l0, l1, l2, l3] (.int x0 :: st) N I L P = sm_at C X 155 54 [l0, l1, sm_cl l2, some (.int x0)] st N I L P := st_go b155 dX11_go_53 (by decide) rfl
theorem s155_54 : sm_at C X 155 54 [l0, l1, l2, some (.int x0)] st N I L P = sm_at C X 155 55 [l0, l1, l2, some (.int x0)] (.int x0 :: st) N I L P := st_go b155 dX11_go_54 (by decide) rfl
theorem s155_55 : sm_at C X 155 55 ls st N I L P = sm_at C X 155 57 ls (.int (nI 7) :: st) N I L P := st_go b155 dX11_go_55 (by decide) rfl
theorem s155_57 : sm_at C X 155 57 ls (.int x0 :: .int x1 :: st) N I L P = if x0 ≤ x1 then sm_at C X 155 84 ls st N I L P else sm_at C X 155 60 ls st N I L P := st_br b155 dX11_go_57 (by decide) rfl
theorem s155_60 : sm_at C X 155 60 [some (.ref a), l1, l2, l3] st N I L P = sm_at C X 155 61 [some (.ref a), l1, l2, l3] (.ref a :: st) N I L P := st_go b155 dX11_go_60 (by decide) rfl
theorem s155_61 (h : a < N) (h1 : sm_lay a = .inl 11) : sm_at C X 155 61 ls (.ref a :: st) N I L P = sm_at C X 155 64 ls (va_rf (P a 7) :: st) N I L P := st_gfR b155 dX11_go_61 rfl rfl h h1
theorem s155_64 : sm_at C X 155 64 [l0, l1, some (.int x0), l3] st N I L P = sm_at C X 155 65 [l0, l1, some (.int x0), l3] (.int x0 :: st) N I L P := st_go b155 dX11_go_64 (by decide) rfl
theorem s155_65 : sm_at C X 155 65 [l0, l1, l2, some (.int x0)] st N I L P = sm_at C X 155 66 [l0, l1, l2, some (.int x0)] (.int x0 :: st) N I L P := st_go b155 dX11_go_65 (by decide) rfl
theorem s155_66 : sm_at C X 155 66 ls (.int x0 :: .int x1 :: st) N I L P = sm_at C X 155 67 ls (.int (x1 + x0) :: st) N I L P := st_go b155 dX11_go_66 (by decide) rfl
theorem s155_67 : sm_at C X 155 67 [l0, l1, l2, some (.int x0)] st N I L P = sm_at C X 155 68 [l0, l1, l2, some (.int x0)] (.int x0 :: st) N I L P := st_go b155 dX11_go_67 (by decide) rfl
theorem s155_68 : sm_at C X 155 68 ls st N I L P = sm_at C X 155 69 ls (.int (nI 3) :: st) N I L P := st_go b155 dX11_go_68 (by decide) rfl
theorem s155_69 : sm_at C X 155 69 ls (.int x0 :: .int x1 :: st) N I L P = if x0 ≤ x1 then sm_at C X 155 76 ls st N I L P else sm_at C X 155 72 ls st N I L P := st_br b155 dX11_go_69 (by decide) rfl
theorem s155_72 : sm_at C X 155 72 ls st N I L P = sm_at C X 155 73 ls (.int (nI 0) :: st) N I L P := st_go b155 dX11_go_72 (by decide) rfl
theorem s155_73 : sm_at C X 155 73 ls st N I L P = sm_at C X 155 77 ls st N I L P := st_go b155 dX11_go_73 (by decide) rfl
theorem s155_76 : sm_at C X 155 76 ls st N I L P = sm_at C X 155 77 ls (.int (-1) :: st) N I L P := st_go b155 dX11_go_76 (by decide) rfl
theorem s155_77 (h : a < N) (h1 : k < sm_al a) : sm_at C X 155 77 ls (.int x0 :: .int (nI k) :: .ref a :: st) N I L P = sm_at C X 155 78 ls st N (sm_up I a k x0) L P := st_iast b155 dX11_go_77 h h1
theorem s155_78 : sm_at C X 155 78 [l0, l1, l2, some (.int x0)] st N I L P = sm_at C X 155 81 [l0, l1, sm_cl l2, some (.int (x0 + (nI 1)))] st N I L P := st_go b155 dX11_go_78 (by decide) rfl
theorem s155_81 : sm_at C X 155 81 ls st N I L P = sm_at C X 155 54 ls st N I L P := st_go b155 dX11_go_81 (by decide) rfl
theorem s155_84 : sm_at C X 155 84 [some (.ref a), l1, l2, l3] st N I L P = sm_at C X 155 85 [some (.ref a), l1, l2, l3] (.ref a :: st) N I L P := st_go b155 dX11_go_84 (by decide) rfl
theorem s155_85 : sm_at C X 155 85 [l0, some (.int x0), l2, l3] st N I L P = sm_at C X 155 86 [l0, some (.int x0), l2, l3] (.int x0 :: st) N I L P := st_go b155 dX11_go_85 (by decide) rfl
theorem s155_86 : sm_at C X 155 86 ls st N I L P = sm_at C X 155 88 ls (.int (nI 63) :: st) N I L P := st_go b155 dX11_go_86 (by decide) rfl
theorem s155_88 : sm_at C X 155 88 ls (.int x0 :: .int x1 :: st) N I L P = if x1 = x0 then sm_at C X 155 97 ls st N I L P else sm_at C X 155 91 ls st N I L P := st_br b155 dX11_go_88 (by decide) rfl
theorem s155_91 : sm_at C X 155 91 [l0, some (.int x0), l2, l3] st N I L P = sm_at C X 155 92 [l0, some (.int x0), l2, l3] (.int x0 :: st) N I L P := st_go b155 dX11_go_91 (by decide) rfl
theorem s155_92 : sm_at C X 155 92 ls st N I L P = sm_at C X 155 94 ls (.int (nI 43) :: st) N I L P := st_go b155 dX11_go_92 (by decide) rfl
theorem s155_94 : sm_at C X 155 94 ls (.int x0 :: .int x1 :: st) N I L P = if ¬ x1 = x0 then sm_at C X 155 101 ls st N I L P else sm_at C X 155 97 ls st N I L P := st_br b155 dX11_go_94 (by decide) rfl
theorem s155_97 : sm_at C X 155 97 ls st N I L P = sm_at C X 155 98 ls (.int (nI 1) :: st) N I L P := st_go b155 dX11_go_97 (by decide) rfl
theorem s155_98 : sm_at C X 155 98 ls st N I L P = sm_at C X 155 102 ls st N I L P := st_go b155 dX11_go_98 (by decide) rfl
theorem s155_101 : sm_at C X 155 101 ls st N I L P = sm_at C X 155 102 ls (.int (nI 2) :: st) N I L P := st_go b155 dX11_go_101 (by decide) rfl
theorem s155_102 (h : a < N) (h1 : sm_lay a = .inl 11) : sm_at C X 155 102 ls (.int x0 :: .ref a :: st) N I L P = sm_at C X 155 105 ls st N (sm_up I a 6 x0) L P := st_pfI b155 dX11_go_102 rfl rfl rfl h h1
theorem s155_105 : sm_at C X 155 105 [some (.ref a), l1, l2, l3] st N I L P = sm_at C X 155 106 [some (.ref a), l1, l2, l3] (.ref a :: st) N I L P := st_go b155 dX11_go_105 (by decide) rfl
theorem s155_106 (h : a < N) (h1 : sm_lay a = .inl 11) : sm_at C X 155 106 ls (.ref a :: st) N I L P = sm_at C X 155 109 ls (va_rf (P a 7) :: st) N I L P := st_gfR b155 dX11_go_106 rfl rfl h h1
theorem s155_109 : sm_at C X 155 109 [l0, l1, some (.int x0), l3] st N I L P = sm_at C X 155 110 [l0, l1, some (.int x0), l3] (.int x0 :: st) N I L P := st_go b155 dX11_go_109 (by decide) rfl
theorem s155_110 (h : a < N) (h1 : k < sm_al a) : sm_at C X 155 110 ls (.int (nI k) :: .ref a :: st) N I L P = sm_at C X 155 111 ls (.int (I a k) :: st) N I L P := st_iald b155 dX11_go_110 h h1
theorem s155_111 : sm_at C X 155 111 ls (.int x0 :: st) N I L P = if 0 < x0 then sm_at C X 155 122 ls st N I L P else sm_at C X 155 114 ls st N I L P := st_br b155 dX11_go_111 (by decide) rfl
theorem s155_114 : sm_at C X 155 114 [some (.ref a), l1, l2, l3] st N I L P = sm_at C X 155 115 [some (.ref a), l1, l2, l3] (.ref a :: st) N I L P := st_go b155 dX11_go_114 (by decide) rfl
theorem s155_115 : sm_at C X 155 115 [l0, some (.int x0), l2, l3] st N I L P = sm_at C X 155 116 [l0, some (.int x0), l2, l3] (.int x0 :: st) N I L P := st_go b155 dX11_go_115 (by decide) rfl
theorem s155_116 (h : a < N) (h1 : sm_lay a = .inl 11) : sm_at C X 155 116 ls [w1, .ref a] N I L P = sm_af C X 155 119 ls [] (C 153 [.ref a, w1] N I L P) := st_virt b155 dX11_go_116 (n := 2) (rest := []) rfl rfl rfl rfl rfl rfl rfl h h1
theorem s155_119 : sm_at C X 155 119 ls (.int x0 :: st) N I L P = if x0 = 0 then sm_at C X 155 126 ls st N I L P else sm_at C X 155 122 ls st N I L P := st_br b155 dX11_go_119 (by decide) rfl
theorem s155_122 : sm_at C X 155 122 ls st N I L P = sm_at C X 155 123 ls (.int (nI 1) :: st) N I L P := st_go b155 dX11_go_122 (by decide) rfl
theorem s155_123 : sm_at C X 155 123 ls st N I L P = sm_at C X 155 127 ls st N I L P := st_go b155 dX11_go_123 (by decide) rfl
theorem s155_126 : sm_at C X 155 126 ls st N I L P = sm_at C X 155 127 ls (.int (nI 0) :: st) N I L P := st_go b155 dX11_go_126 (by decide) rfl
theorem s155_127 (h : x0 = 0 ∨ x0 = 1) : sm_at C X 155 127 ls [.int x0] N I L P = some (some (.int x0), N, I, L, P) := st_zret b155 dX11_go_127 rfl h
theorem s155_128 : sm_at C X 155 128 [some (.ref a), l1, l2, l3] st N I L P = sm_at C X 155 129 [some (.ref a), l1, l2, l3] (.ref a :: st) N I L P := st_go b155 dX11_go_128 (by decide) rfl
theorem s155_129 (h : a < N) (h1 : sm_lay a = .inl 11) : sm_at C X 155 129 ls (.ref a :: st) N I L P = sm_at C X 155 132 ls (.int (I a 6) :: st) N I L P := st_gfI b155 dX11_go_129 rfl rfl h h1
theorem s155_132 : sm_at C X 155 132 ls st N I L P = sm_at C X 155 133 ls (.int (nI 1) :: st) N I L P := st_go b155 dX11_go_132 (by decide) rfl
theorem s155_133 : sm_at C X 155 133 ls (.int x0 :: .int x1 :: st) N I L P = if ¬ x1 = x0 then sm_at C X 155 165 ls st N I L P else sm_at C X 155 136 ls st N I L P := st_br b155 dX11_go_133 (by decide) rfl
theorem s155_136 : sm_at C X 155 136 [some (.ref a), l1, l2, l3] st N I L P = sm_at C X 155 137 [some (.ref a), l1, l2, l3] (.ref a :: st) N I L P := st_go b155 dX11_go_136 (by decide) rfl
theorem s155_137 (h : a < N) (h1 : sm_lay a = .inl 11) : sm_at C X 155 137 ls (.ref a :: st) N I L P = sm_at C X 155 140 ls (va_rf (P a 7) :: st) N I L P := st_gfR b155 dX11_go_137 rfl rfl h h1
theorem s155_140 : sm_at C X 155 140 [l0, l1, some (.int x0), l3] st N I L P = sm_at C X 155 141 [l0, l1, some (.int x0), l3] (.int x0 :: st) N I L P := st_go b155 dX11_go_140 (by decide) rfl
theorem s155_141 : sm_at C X 155 141 ls st N I L P = sm_at C X 155 142 ls (.int (nI 2) :: st) N I L P := st_go b155 dX11_go_141 (by decide) rfl
theorem s155_142 : sm_at C X 155 142 ls (.int x0 :: .int x1 :: st) N I L P = sm_at C X 155 143 ls (.int (x1 + x0) :: st) N I L P := st_go b155 dX11_go_142 (by decide) rfl
theorem s155_143 : sm_at C X 155 143 [l0, some (.int x0), l2, l3] st N I L P = sm_at C X 155 144 [l0, some (.int x0), l2, l3] (.int x0 :: st) N I L P := st_go b155 dX11_go_143 (by decide) rfl
theorem s155_144 : sm_at C X 155 144 ls st N I L P = sm_at C X 155 146 ls (.int (nI 48) :: st) N I L P := st_go b155 dX11_go_144 (by decide) rfl
theorem s155_146 : sm_at C X 155 146 ls (.int x0 :: .int x1 :: st) N I L P = sm_at C X 155 147 ls (.int (x1 - x0) :: st) N I L P := st_go b155 dX11_go_146 (by decide) rfl
theorem s155_147 (h : a < N) (h1 : k < sm_al a) : sm_at C X 155 147 ls (.int x0 :: .int (nI k) :: .ref a :: st) N I L P = sm_at C X 155 148 ls st N (sm_up I a k x0) L P := st_iast b155 dX11_go_147 h h1
theorem s155_148 : sm_at C X 155 148 [some (.ref a), l1, l2, l3] st N I L P = sm_at C X 155 149 [some (.ref a), l1, l2, l3] (.ref a :: st) N I L P := st_go b155 dX11_go_148 (by decide) rfl
theorem s155_149 : sm_at C X 155 149 ls st N I L P = sm_at C X 155 150 ls (.int (nI 2) :: st) N I L P := st_go b155 dX11_go_149 (by decide) rfl
theorem s155_150 (h : a < N) (h1 : sm_lay a = .inl 11) : sm_at C X 155 150 ls (.int x0 :: .ref a :: st) N I L P = sm_at C X 155 153 ls st N (sm_up I a 6 x0) L P := st_pfI b155 dX11_go_150 rfl rfl rfl h h1
theorem s155_153 : sm_at C X 155 153 [l0, some (.int x0), l2, l3] st N I L P = sm_at C X 155 154 [l0, some (.int x0), l2, l3] (.int x0 :: st) N I L P := st_go b155 dX11_go_153 (by decide) rfl
theorem s155_154 : sm_at C X 155 154 ls (.int x0 :: st) N I L P = sm_at C X 155 155 ls (.long x0.toInt64 :: st) N I L P := st_go b155 dX11_go_154 (by decide) rfl
theorem s155_155 : sm_at C X 155 155 ls st N I L P = sm_at C X 155 158 ls (.long (lN 49) :: st) N I L P := st_go b155 dX11_go_155 (by decide) rfl
theorem s155_158 : sm_at C X 155 158 ls st N I L P = sm_at C X 155 161 ls (.long (lN 57) :: st) N I L P := st_go b155 dX11_go_158 (by decide) rfl
theorem s155_161 : sm_at C X 155 161 ls [w2, w1, w0] N I L P = sm_af C X 155 164 ls [] (C 146 [w0, w1, w2] N I L P) := st_stat b155 dX11_go_161 (n := 3) (rest := []) rfl rfl rfl rfl rfl rfl
theorem s155_164 (h : x0 = 0 ∨ x0 = 1) : sm_at C X 155 164 ls [.int x0] N I L P = some (some (.int x0), N, I, L, P) := st_zret b155 dX11_go_164 rfl h
theorem s155_165 : sm_at C X 155 165 [l0, some (.int x0), l2, l3] st N I L P = sm_at C X 155 166 [l0, some (.int x0), l2, l3] (.int x0 :: st) N I L P := st_go b155 dX11_go_165 (by decide) rfl
theorem s155_166 : sm_at C X 155 166 ls st N I L P = sm_at C X 155 168 ls (.int (nI 44) :: st) N I L P := st_go b155 dX11_go_166 (by decide) rfl
theorem s155_168 : sm_at C X 155 168 ls (.int x0 :: .int x1 :: st) N I L P = if ¬ x1 = x0 then sm_at C X 155 228 ls st N I L P else sm_at C X 155 171 ls st N I L P := st_br b155 dX11_go_168 (by decide) rfl
theorem s155_171 : sm_at C X 155 171 [some (.ref a), l1, l2, l3] st N I L P = sm_at C X 155 172 [some (.ref a), l1, l2, l3] (.ref a :: st) N I L P := st_go b155 dX11_go_171 (by decide) rfl
theorem s155_172 (h : a < N) (h1 : sm_lay a = .inl 11) : sm_at C X 155 172 ls [.ref a] N I L P = sm_af C X 155 175 ls [] (C 154 [.ref a] N I L P) := st_virt b155 dX11_go_172 (n := 1) (rest := []) rfl rfl rfl rfl rfl rfl rfl h h1
theorem s155_175 : sm_at C X 155 175 ls (.int x0 :: st) N I L P = if x0 = 0 then sm_at C X 155 190 ls st N I L P else sm_at C X 155 178 ls st N I L P := st_br b155 dX11_go_175 (by decide) rfl
theorem s155_178 : sm_at C X 155 178 [some (.ref a), l1, l2, l3] st N I L P = sm_at C X 155 179 [some (.ref a), l1, l2, l3] (.ref a :: st) N I L P := st_go b155 dX11_go_178 (by decide) rfl
theorem s155_179 (h : a < N) (h1 : sm_lay a = .inl 11) : sm_at C X 155 179 ls (.ref a :: st) N I L P = sm_at C X 155 182 ls (.int (I a 4) :: st) N I L P := st_gfI b155 dX11_go_179 rfl rfl h h1
theorem s155_182 : sm_at C X 155 182 ls st N I L P = sm_at C X 155 183 ls (.int (nI 4) :: st) N I L P := st_go b155 dX11_go_182 (by decide) rfl
theorem s155_183 : sm_at C X 155 183 ls (.int x0 :: .int x1 :: st) N I L P = if x0 ≤ x1 then sm_at C X 155 190 ls st N I L P else sm_at C X 155 186 ls st N I L P := st_br b155 dX11_go_183 (by decide) rfl
theorem s155_186 : sm_at C X 155 186 ls st N I L P = sm_at C X 155 187 ls (.int (nI 1) :: st) N I L P := st_go b155 dX11_go_186 (by decide) rfl
theorem s155_187 : sm_at C X 155 187 ls st N I L P = sm_at C X 155 191 ls st N I L P := st_go b155 dX11_go_187 (by decide) rfl
theorem s155_190 : sm_at C X 155 190 ls st N I L P = sm_at C X 155 191 ls (.int (nI 0) :: st) N I L P := st_go b155 dX11_go_190 (by decide) rfl
theorem s155_191 : sm_at C X 155 191 [l0, l1, l2, l3] (.int x0 :: st) N I L P = sm_at C X 155 192 [l0, l1, sm_cl l2, some (.int x0)] st N I L P := st_go b155 dX11_go_191 (by decide) rfl
theorem s155_192 : sm_at C X 155 192 [some (.ref a), l1, l2, l3] st N I L P = sm_at C X 155 193 [some (.ref a), l1, l2, l3] (.ref a :: st) N I L P := st_go b155 dX11_go_192 (by decide) rfl
theorem s155_193 : sm_at C X 155 193 ls (.ref a :: st) N I L P = sm_at C X 155 194 ls (.ref a :: .ref a :: st) N I L P := st_go b155 dX11_go_193 (by decide) rfl
theorem s155_194 (h : a < N) (h1 : sm_lay a = .inl 11) : sm_at C X 155 194 ls (.ref a :: st) N I L P = sm_at C X 155 197 ls (.int (I a 4) :: st) N I L P := st_gfI b155 dX11_go_194 rfl rfl h h1
theorem s155_197 : sm_at C X 155 197 [l0, l1, l2, some (.int x0)] st N I L P = sm_at C X 155 198 [l0, l1, l2, some (.int x0)] (.int x0 :: st) N I L P := st_go b155 dX11_go_197 (by decide) rfl
theorem s155_198 : sm_at C X 155 198 ls (.int x0 :: st) N I L P = if x0 = 0 then sm_at C X 155 205 ls st N I L P else sm_at C X 155 201 ls st N I L P := st_br b155 dX11_go_198 (by decide) rfl
theorem s155_201 : sm_at C X 155 201 ls st N I L P = sm_at C X 155 202 ls (.int (nI 1) :: st) N I L P := st_go b155 dX11_go_201 (by decide) rfl
theorem s155_202 : sm_at C X 155 202 ls st N I L P = sm_at C X 155 206 ls st N I L P := st_go b155 dX11_go_202 (by decide) rfl
theorem s155_205 : sm_at C X 155 205 ls st N I L P = sm_at C X 155 206 ls (.int (nI 0) :: st) N I L P := st_go b155 dX11_go_205 (by decide) rfl
theorem s155_206 : sm_at C X 155 206 ls (.int x0 :: .int x1 :: st) N I L P = sm_at C X 155 207 ls (.int (x1 + x0) :: st) N I L P := st_go b155 dX11_go_206 (by decide) rfl
theorem s155_207 (h : a < N) (h1 : sm_lay a = .inl 11) : sm_at C X 155 207 ls (.int x0 :: .ref a :: st) N I L P = sm_at C X 155 210 ls st N (sm_up I a 4 x0) L P := st_pfI b155 dX11_go_207 rfl rfl rfl h h1
theorem s155_210 : sm_at C X 155 210 [some (.ref a), l1, l2, l3] st N I L P = sm_at C X 155 211 [some (.ref a), l1, l2, l3] (.ref a :: st) N I L P := st_go b155 dX11_go_210 (by decide) rfl
theorem s155_211 : sm_at C X 155 211 [l0, l1, l2, some (.int x0)] st N I L P = sm_at C X 155 212 [l0, l1, l2, some (.int x0)] (.int x0 :: st) N I L P := st_go b155 dX11_go_211 (by decide) rfl
theorem s155_212 : sm_at C X 155 212 ls (.int x0 :: st) N I L P = if x0 = 0 then sm_at C X 155 219 ls st N I L P else sm_at C X 155 215 ls st N I L P := st_br b155 dX11_go_212 (by decide) rfl
theorem s155_215 : sm_at C X 155 215 ls st N I L P = sm_at C X 155 216 ls (.int (nI 0) :: st) N I L P := st_go b155 dX11_go_215 (by decide) rfl
theorem s155_216 : sm_at C X 155 216 ls st N I L P = sm_at C X 155 223 ls st N I L P := st_go b155 dX11_go_216 (by decide) rfl
theorem s155_219 : sm_at C X 155 219 [some (.ref a), l1, l2, l3] st N I L P = sm_at C X 155 220 [some (.ref a), l1, l2, l3] (.ref a :: st) N I L P := st_go b155 dX11_go_219 (by decide) rfl
theorem s155_220 (h : a < N) (h1 : sm_lay a = .inl 11) : sm_at C X 155 220 ls (.ref a :: st) N I L P = sm_at C X 155 223 ls (.int (I a 6) :: st) N I L P := st_gfI b155 dX11_go_220 rfl rfl h h1
theorem s155_223 (h : a < N) (h1 : sm_lay a = .inl 11) : sm_at C X 155 223 ls (.int x0 :: .ref a :: st) N I L P = sm_at C X 155 226 ls st N (sm_up I a 6 x0) L P := st_pfI b155 dX11_go_223 rfl rfl rfl h h1
theorem s155_226 : sm_at C X 155 226 [l0, l1, l2, some (.int x0)] st N I L P = sm_at C X 155 227 [l0, l1, l2, some (.int x0)] (.int x0 :: st) N I L P := st_go b155 dX11_go_226 (by decide) rfl
theorem s155_227 (h : x0 = 0 ∨ x0 = 1) : sm_at C X 155 227 ls [.int x0] N I L P = some (some (.int x0), N, I, L, P) := st_zret b155 dX11_go_227 rfl h
theorem s155_228 : sm_at C X 155 228 [some (.ref a), l1, l2, l3] st N I L P = sm_at C X 155 229 [some (.ref a), l1, l2, l3] (.ref a :: st) N I L P := st_go b155 dX11_go_228 (by decide) rfl
theorem s155_229 : sm_at C X 155 229 [l0, some (.int x0), l2, l3] st N I L P = sm_at C X 155 230 [l0, some (.int x0), l2, l3] (.int x0 :: st) N I L P := st_go b155 dX11_go_229 (by decide) rfl
theorem s155_230 (h : a < N) (h1 : sm_lay a = .inl 11) : sm_at C X 155 230 ls [w1, .ref a] N I L P = sm_af C X 155 233 ls [] (C 153 [.ref a, w1] N I L P) := st_virt b155 dX11_go_230 (n := 2) (rest := []) rfl rfl rfl rfl rfl rfl rfl h h1
theorem s155_233 (h : x0 = 0 ∨ x0 = 1) : sm_at C X 155 233 ls [.int x0] N I L P = some (some (.int x0), N, I, L, P) := st_zret b155 dX11_go_233 rfl h
theorem b156 : sm_b 156 = cX11_faultOf := rfl
theorem s156_0 : sm_at C X 156 0 [some (.ref a), l1] st N I L P = sm_at C X 156 1 [some (.ref a), l1] (.ref a :: st) N I L P := st_go b156 dX11_faultOf_0 (by decide) rfl
theorem s156_1 : sm_at C X 156 1 ls st N I L P = sm_at C X 156 2 ls (.int (nI 0) :: st) N I L P := st_go b156 dX11_faultOf_1 (by decide) rfl
theorem s156_2 (h : a < N) (h1 : sm_lay a = .inl 11) : sm_at C X 156 2 ls (.int x0 :: .ref a :: st) N I L P = sm_at C X 156 5 ls st N (sm_up I a 4 x0) L P := st_pfI b156 dX11_faultOf_2 rfl rfl rfl h h1
theorem s156_5 : sm_at C X 156 5 [some (.ref a), l1] st N I L P = sm_at C X 156 6 [some (.ref a), l1] (.ref a :: st) N I L P := st_go b156 dX11_faultOf_5 (by decide) rfl
theorem s156_6 : sm_at C X 156 6 ls st N I L P = sm_at C X 156 7 ls (.int (nI 0) :: st) N I L P := st_go b156 dX11_faultOf_6 (by decide) rfl
theorem s156_7 (h : a < N) (h1 : sm_lay a = .inl 11) : sm_at C X 156 7 ls (.int x0 :: .ref a :: st) N I L P = sm_at C X 156 10 ls st N (sm_up I a 5 x0) L P := st_pfI b156 dX11_faultOf_7 rfl rfl rfl h h1
theorem s156_10 : sm_at C X 156 10 [some (.ref a), l1] st N I L P = sm_at C X 156 11 [some (.ref a), l1] (.ref a :: st) N I L P := st_go b156 dX11_faultOf_10 (by decide) rfl
theorem s156_11 : sm_at C X 156 11 ls st N I L P = sm_at C X 156 12 ls (.int (nI 0) :: st) N I L P := st_go b156 dX11_faultOf_11 (by decide) rfl
theorem s156_12 (h : a < N) (h1 : sm_lay a = .inl 11) : sm_at C X 156 12 ls (.int x0 :: .ref a :: st) N I L P = sm_at C X 156 15 ls st N (sm_up I a 6 x0) L P := st_pfI b156 dX11_faultOf_12 rfl rfl rfl h h1
theorem s156_15 : sm_at C X 156 15 ls st N I L P = sm_at C X 156 16 ls (.int (nI 0) :: st) N I L P := st_go b156 dX11_faultOf_15 (by decide) rfl
theorem s156_16 : sm_at C X 156 16 [l0, l1] (.int x0 :: st) N I L P = sm_at C X 156 17 [sm_cl l0, some (.int x0)] st N I L P := st_go b156 dX11_faultOf_16 (by decide) rfl
theorem s156_17 : sm_at C X 156 17 [l0, some (.int x0)] st N I L P = sm_at C X 156 18 [l0, some (.int x0)] (.int x0 :: st) N I L P := st_go b156 dX11_faultOf_17 (by decide) rfl
theorem s156_18 : sm_at C X 156 18 [some (.ref a), l1] st N I L P = sm_at C X 156 19 [some (.ref a), l1] (.ref a :: st) N I L P := st_go b156 dX11_faultOf_18 (by decide) rfl
theorem s156_19 (h : a < N) (h1 : sm_lay a = .inl 11) : sm_at C X 156 19 ls (.ref a :: st) N I L P = sm_at C X 156 22 ls (.int (I a 3) :: st) N I L P := st_gfI b156 dX11_faultOf_19 rfl rfl h h1
theorem s156_22 : sm_at C X 156 22 ls (.int x0 :: .int x1 :: st) N I L P = if x0 ≤ x1 then sm_at C X 156 44 ls st N I L P else sm_at C X 156 25 ls st N I L P := st_br b156 dX11_faultOf_22 (by decide) rfl
theorem s156_25 : sm_at C X 156 25 [some (.ref a), l1] st N I L P = sm_at C X 156 26 [some (.ref a), l1] (.ref a :: st) N I L P := st_go b156 dX11_faultOf_25 (by decide) rfl
theorem s156_26 : sm_at C X 156 26 [some (.ref a), l1] st N I L P = sm_at C X 156 27 [some (.ref a), l1] (.ref a :: st) N I L P := st_go b156 dX11_faultOf_26 (by decide) rfl
theorem s156_27 (h : a < N) (h1 : sm_lay a = .inl 11) : sm_at C X 156 27 ls (.ref a :: st) N I L P = sm_at C X 156 30 ls (va_rf (P a 2) :: st) N I L P := st_gfR b156 dX11_faultOf_27 rfl rfl h h1
theorem s156_30 : sm_at C X 156 30 [l0, some (.int x0)] st N I L P = sm_at C X 156 31 [l0, some (.int x0)] (.int x0 :: st) N I L P := st_go b156 dX11_faultOf_30 (by decide) rfl
theorem s156_31 (h : a < N) (h1 : k < sm_al a) : sm_at C X 156 31 ls (.int (nI k) :: .ref a :: st) N I L P = sm_at C X 156 32 ls (.int (I a k) :: st) N I L P := st_iald b156 dX11_faultOf_31 h h1
theorem s156_32 (h : a < N) (h1 : sm_lay a = .inl 11) : sm_at C X 156 32 ls [w1, .ref a] N I L P = sm_af C X 156 35 ls [] (C 155 [.ref a, w1] N I L P) := st_virt b156 dX11_faultOf_32 (n := 2) (rest := []) rfl rfl rfl rfl rfl rfl rfl h h1
theorem s156_35 : sm_at C X 156 35 ls (.int x0 :: st) N I L P = if x0 = 0 then sm_at C X 156 44 ls st N I L P else sm_at C X 156 38 ls st N I L P := st_br b156 dX11_faultOf_35 (by decide) rfl
theorem s156_38 : sm_at C X 156 38 [l0, some (.int x0)] st N I L P = sm_at C X 156 41 [sm_cl l0, some (.int (x0 + (nI 1)))] st N I L P := st_go b156 dX11_faultOf_38 (by decide) rfl
theorem s156_41 : sm_at C X 156 41 ls st N I L P = sm_at C X 156 17 ls st N I L P := st_go b156 dX11_faultOf_41 (by decide) rfl
theorem s156_44 : sm_at C X 156 44 [l0, some (.int x0)] st N I L P = sm_at C X 156 45 [l0, some (.int x0)] (.int x0 :: st) N I L P := st_go b156 dX11_faultOf_44 (by decide) rfl
theorem s156_45 : sm_at C X 156 45 ls [.int x0] N I L P = some (some (.int x0), N, I, L, P) := st_iret b156 dX11_faultOf_45 rfl
theorem b157 : sm_b 157 = cX11_fault := rfl
theorem s157_0 : sm_at C X 157 0 [some (.ref a)] st N I L P = sm_at C X 157 1 [some (.ref a)] (.ref a :: st) N I L P := st_go b157 dX11_fault_0 (by decide) rfl
theorem s157_1 (h : a < N) (h1 : sm_lay a = .inl 11) : sm_at C X 157 1 ls [.ref a] N I L P = sm_af C X 157 4 ls [] (C 156 [.ref a] N I L P) := st_virt b157 dX11_fault_1 (n := 1) (rest := []) rfl rfl rfl rfl rfl rfl rfl h h1
theorem s157_4 : sm_at C X 157 4 ls [.int x0] N I L P = some (some (.int x0), N, I, L, P) := st_iret b157 dX11_fault_4 rfl
theorem b158 : sm_b 158 = cX11_births := rfl
theorem s158_0 : sm_at C X 158 0 [some (.ref a), l1] st N I L P = sm_at C X 158 1 [some (.ref a), l1] (.ref a :: st) N I L P := st_go b158 dX11_births_0 (by decide) rfl
theorem s158_1 (h : a < N) (h1 : sm_lay a = .inl 11) : sm_at C X 158 1 ls [.ref a] N I L P = sm_af C X 158 4 ls [] (C 156 [.ref a] N I L P) := st_virt b158 dX11_births_1 (n := 1) (rest := []) rfl rfl rfl rfl rfl rfl rfl h h1
theorem s158_4 : sm_at C X 158 4 [some (.ref a), l1] st N I L P = sm_at C X 158 5 [some (.ref a), l1] (.ref a :: st) N I L P := st_go b158 dX11_births_4 (by decide) rfl
theorem s158_5 (h : a < N) (h1 : sm_lay a = .inl 11) : sm_at C X 158 5 ls (.ref a :: st) N I L P = sm_at C X 158 8 ls (.int (I a 3) :: st) N I L P := st_gfI b158 dX11_births_5 rfl rfl h h1
theorem s158_8 : sm_at C X 158 8 ls (.int x0 :: .int x1 :: st) N I L P = if x1 < x0 then sm_at C X 158 18 ls st N I L P else sm_at C X 158 11 ls st N I L P := st_br b158 dX11_births_8 (by decide) rfl
theorem s158_11 : sm_at C X 158 11 [some (.ref a), l1] st N I L P = sm_at C X 158 12 [some (.ref a), l1] (.ref a :: st) N I L P := st_go b158 dX11_births_11 (by decide) rfl
theorem s158_12 (h : a < N) (h1 : sm_lay a = .inl 11) : sm_at C X 158 12 ls [.ref a] N I L P = sm_af C X 158 15 ls [] (C 154 [.ref a] N I L P) := st_virt b158 dX11_births_12 (n := 1) (rest := []) rfl rfl rfl rfl rfl rfl rfl h h1
theorem s158_15 : sm_at C X 158 15 ls (.int x0 :: st) N I L P = if ¬ x0 = 0 then sm_at C X 158 21 ls st N I L P else sm_at C X 158 18 ls st N I L P := st_br b158 dX11_births_15 (by decide) rfl
theorem s158_18 : sm_at C X 158 18 ls st N I L P = sm_at C X 158 20 ls (.int (-103) :: st) N I L P := st_go b158 dX11_births_18 (by decide) rfl
theorem s158_20 : sm_at C X 158 20 ls [.int x0] N I L P = some (some (.int x0), N, I, L, P) := st_iret b158 dX11_births_20 rfl
theorem s158_21 : sm_at C X 158 21 [some (.ref a), l1] st N I L P = sm_at C X 158 22 [some (.ref a), l1] (.ref a :: st) N I L P := st_go b158 dX11_births_21 (by decide) rfl
theorem s158_22 : sm_at C X 158 22 [some (.ref a), l1] st N I L P = sm_at C X 158 23 [some (.ref a), l1] (.ref a :: st) N I L P := st_go b158 dX11_births_22 (by decide) rfl
theorem s158_23 (h : a < N) (h1 : sm_lay a = .inl 11) : sm_at C X 158 23 ls (.ref a :: st) N I L P = sm_at C X 158 26 ls (.int (I a 4) :: st) N I L P := st_gfI b158 dX11_births_23 rfl rfl h h1
theorem s158_26 : sm_at C X 158 26 ls st N I L P = sm_at C X 158 27 ls (.int (nI 1) :: st) N I L P := st_go b158 dX11_births_26 (by decide) rfl
theorem s158_27 : sm_at C X 158 27 ls (.int x0 :: .int x1 :: st) N I L P = sm_at C X 158 28 ls (.int (x1 + x0) :: st) N I L P := st_go b158 dX11_births_27 (by decide) rfl
theorem s158_28 (h : a < N) (h1 : sm_lay a = .inl 11) : sm_at C X 158 28 ls (.int x0 :: .ref a :: st) N I L P = sm_at C X 158 31 ls st N (sm_up I a 8 x0) L P := st_pfI b158 dX11_births_28 rfl rfl rfl h h1
theorem s158_31 : sm_at C X 158 31 ls st N I L P = sm_at C X 158 32 ls (.int (nI 0) :: st) N I L P := st_go b158 dX11_births_31 (by decide) rfl
theorem s158_32 : sm_at C X 158 32 [l0, l1] (.int x0 :: st) N I L P = sm_at C X 158 33 [sm_cl l0, some (.int x0)] st N I L P := st_go b158 dX11_births_32 (by decide) rfl
theorem s158_33 : sm_at C X 158 33 [l0, some (.int x0)] st N I L P = sm_at C X 158 34 [l0, some (.int x0)] (.int x0 :: st) N I L P := st_go b158 dX11_births_33 (by decide) rfl
theorem s158_34 : sm_at C X 158 34 ls st N I L P = sm_at C X 158 36 ls (.int (nI 10) :: st) N I L P := st_go b158 dX11_births_34 (by decide) rfl
theorem s158_36 : sm_at C X 158 36 ls (.int x0 :: .int x1 :: st) N I L P = if x0 ≤ x1 then sm_at C X 158 52 ls st N I L P else sm_at C X 158 39 ls st N I L P := st_br b158 dX11_births_36 (by decide) rfl
theorem s158_39 : sm_at C X 158 39 [some (.ref a), l1] st N I L P = sm_at C X 158 40 [some (.ref a), l1] (.ref a :: st) N I L P := st_go b158 dX11_births_39 (by decide) rfl
theorem s158_40 (h : a < N) (h1 : sm_lay a = .inl 11) : sm_at C X 158 40 ls (.ref a :: st) N I L P = sm_at C X 158 43 ls (va_rf (P a 11) :: st) N I L P := st_gfR b158 dX11_births_40 rfl rfl h h1
theorem s158_43 : sm_at C X 158 43 [l0, some (.int x0)] st N I L P = sm_at C X 158 44 [l0, some (.int x0)] (.int x0 :: st) N I L P := st_go b158 dX11_births_43 (by decide) rfl
theorem s158_44 : sm_at C X 158 44 ls st N I L P = sm_at C X 158 45 ls (.int (-1) :: st) N I L P := st_go b158 dX11_births_44 (by decide) rfl
theorem s158_45 (h : a < N) (h1 : k < sm_al a) : sm_at C X 158 45 ls (.int x0 :: .int (nI k) :: .ref a :: st) N I L P = sm_at C X 158 46 ls st N (sm_up I a k x0) L P := st_iast b158 dX11_births_45 h h1
theorem s158_46 : sm_at C X 158 46 [l0, some (.int x0)] st N I L P = sm_at C X 158 49 [sm_cl l0, some (.int (x0 + (nI 1)))] st N I L P := st_go b158 dX11_births_46 (by decide) rfl
theorem s158_49 : sm_at C X 158 49 ls st N I L P = sm_at C X 158 33 ls st N I L P := st_go b158 dX11_births_49 (by decide) rfl
theorem s158_52 : sm_at C X 158 52 ls st N I L P = sm_at C X 158 53 ls (.int (nI 0) :: st) N I L P := st_go b158 dX11_births_52 (by decide) rfl
theorem s158_53 : sm_at C X 158 53 [l0, l1] (.int x0 :: st) N I L P = sm_at C X 158 54 [sm_cl l0, some (.int x0)] st N I L P := st_go b158 dX11_births_53 (by decide) rfl
theorem s158_54 : sm_at C X 158 54 [l0, some (.int x0)] st N I L P = sm_at C X 158 55 [l0, some (.int x0)] (.int x0 :: st) N I L P := st_go b158 dX11_births_54 (by decide) rfl
theorem s158_55 : sm_at C X 158 55 ls st N I L P = sm_at C X 158 57 ls (.int (nI 7) :: st) N I L P := st_go b158 dX11_births_55 (by decide) rfl
theorem s158_57 : sm_at C X 158 57 [some (.ref a), l1] st N I L P = sm_at C X 158 58 [some (.ref a), l1] (.ref a :: st) N I L P := st_go b158 dX11_births_57 (by decide) rfl
theorem s158_58 (h : a < N) (h1 : sm_lay a = .inl 11) : sm_at C X 158 58 ls (.ref a :: st) N I L P = sm_at C X 158 61 ls (.int (I a 8) :: st) N I L P := st_gfI b158 dX11_births_58 rfl rfl h h1
theorem s158_61 : sm_at C X 158 61 ls (.int x0 :: .int x1 :: st) N I L P = sm_at C X 158 62 ls (.int (x1 * x0) :: st) N I L P := st_go b158 dX11_births_61 (by decide) rfl
theorem s158_62 : sm_at C X 158 62 ls (.int x0 :: .int x1 :: st) N I L P = if x0 ≤ x1 then sm_at C X 158 116 ls st N I L P else sm_at C X 158 65 ls st N I L P := st_br b158 dX11_births_62 (by decide) rfl
theorem s158_65 : sm_at C X 158 65 [some (.ref a), l1] st N I L P = sm_at C X 158 66 [some (.ref a), l1] (.ref a :: st) N I L P := st_go b158 dX11_births_65 (by decide) rfl
theorem s158_66 (h : a < N) (h1 : sm_lay a = .inl 11) : sm_at C X 158 66 ls (.ref a :: st) N I L P = sm_at C X 158 69 ls (va_rf (P a 10) :: st) N I L P := st_gfR b158 dX11_births_66 rfl rfl h h1
theorem s158_69 : sm_at C X 158 69 [l0, some (.int x0)] st N I L P = sm_at C X 158 70 [l0, some (.int x0)] (.int x0 :: st) N I L P := st_go b158 dX11_births_69 (by decide) rfl
theorem s158_70 : sm_at C X 158 70 [some (.ref a), l1] st N I L P = sm_at C X 158 71 [some (.ref a), l1] (.ref a :: st) N I L P := st_go b158 dX11_births_70 (by decide) rfl
theorem s158_71 (h : a < N) (h1 : sm_lay a = .inl 11) : sm_at C X 158 71 ls (.ref a :: st) N I L P = sm_at C X 158 74 ls (va_rf (P a 7) :: st) N I L P := st_gfR b158 dX11_births_71 rfl rfl h h1
theorem s158_74 : sm_at C X 158 74 [l0, some (.int x0)] st N I L P = sm_at C X 158 75 [l0, some (.int x0)] (.int x0 :: st) N I L P := st_go b158 dX11_births_74 (by decide) rfl
theorem s158_75 (h : a < N) (h1 : k < sm_al a) : sm_at C X 158 75 ls (.int (nI k) :: .ref a :: st) N I L P = sm_at C X 158 76 ls (.int (I a k) :: st) N I L P := st_iald b158 dX11_births_75 h h1
theorem s158_76 (h : a < N) (h1 : k < sm_al a) : sm_at C X 158 76 ls (.int x0 :: .int (nI k) :: .ref a :: st) N I L P = sm_at C X 158 77 ls st N (sm_up I a k x0) L P := st_iast b158 dX11_births_76 h h1
theorem s158_77 : sm_at C X 158 77 [l0, some (.int x0)] st N I L P = sm_at C X 158 78 [l0, some (.int x0)] (.int x0 :: st) N I L P := st_go b158 dX11_births_77 (by decide) rfl
theorem s158_78 : sm_at C X 158 78 ls st N I L P = sm_at C X 158 80 ls (.int (nI 7) :: st) N I L P := st_go b158 dX11_births_78 (by decide) rfl
theorem s158_80 (h : ¬ x0 = 0) : sm_at C X 158 80 ls (.int x0 :: .int x1 :: st) N I L P = sm_at C X 158 81 ls (.int (x1 - x1 / x0 * x0) :: st) N I L P := st_irem b158 dX11_births_80 h
theorem s158_81 : sm_at C X 158 81 ls st N I L P = sm_at C X 158 82 ls (.int (nI 2) :: st) N I L P := st_go b158 dX11_births_81 (by decide) rfl
theorem s158_82 : sm_at C X 158 82 ls (.int x0 :: .int x1 :: st) N I L P = if x1 ≤ x0 then sm_at C X 158 110 ls st N I L P else sm_at C X 158 85 ls st N I L P := st_br b158 dX11_births_82 (by decide) rfl
theorem s158_85 : sm_at C X 158 85 [some (.ref a), l1] st N I L P = sm_at C X 158 86 [some (.ref a), l1] (.ref a :: st) N I L P := st_go b158 dX11_births_85 (by decide) rfl
theorem s158_86 (h : a < N) (h1 : sm_lay a = .inl 11) : sm_at C X 158 86 ls (.ref a :: st) N I L P = sm_at C X 158 89 ls (va_rf (P a 7) :: st) N I L P := st_gfR b158 dX11_births_86 rfl rfl h h1
theorem s158_89 : sm_at C X 158 89 [l0, some (.int x0)] st N I L P = sm_at C X 158 90 [l0, some (.int x0)] (.int x0 :: st) N I L P := st_go b158 dX11_births_89 (by decide) rfl
theorem s158_90 (h : a < N) (h1 : k < sm_al a) : sm_at C X 158 90 ls (.int (nI k) :: .ref a :: st) N I L P = sm_at C X 158 91 ls (.int (I a k) :: st) N I L P := st_iald b158 dX11_births_90 h h1
theorem s158_91 : sm_at C X 158 91 ls st N I L P = sm_at C X 158 92 ls (.int (-1) :: st) N I L P := st_go b158 dX11_births_91 (by decide) rfl
theorem s158_92 : sm_at C X 158 92 ls (.int x0 :: .int x1 :: st) N I L P = if x1 = x0 then sm_at C X 158 110 ls st N I L P else sm_at C X 158 95 ls st N I L P := st_br b158 dX11_births_92 (by decide) rfl
theorem s158_95 : sm_at C X 158 95 [some (.ref a), l1] st N I L P = sm_at C X 158 96 [some (.ref a), l1] (.ref a :: st) N I L P := st_go b158 dX11_births_95 (by decide) rfl
theorem s158_96 (h : a < N) (h1 : sm_lay a = .inl 11) : sm_at C X 158 96 ls (.ref a :: st) N I L P = sm_at C X 158 99 ls (va_rf (P a 11) :: st) N I L P := st_gfR b158 dX11_births_96 rfl rfl h h1
theorem s158_99 : sm_at C X 158 99 [some (.ref a), l1] st N I L P = sm_at C X 158 100 [some (.ref a), l1] (.ref a :: st) N I L P := st_go b158 dX11_births_99 (by decide) rfl
theorem s158_100 (h : a < N) (h1 : sm_lay a = .inl 11) : sm_at C X 158 100 ls (.ref a :: st) N I L P = sm_at C X 158 103 ls (va_rf (P a 7) :: st) N I L P := st_gfR b158 dX11_births_100 rfl rfl h h1
theorem s158_103 : sm_at C X 158 103 [l0, some (.int x0)] st N I L P = sm_at C X 158 104 [l0, some (.int x0)] (.int x0 :: st) N I L P := st_go b158 dX11_births_103 (by decide) rfl
theorem s158_104 (h : a < N) (h1 : k < sm_al a) : sm_at C X 158 104 ls (.int (nI k) :: .ref a :: st) N I L P = sm_at C X 158 105 ls (.int (I a k) :: st) N I L P := st_iald b158 dX11_births_104 h h1
theorem s158_105 : sm_at C X 158 105 [l0, some (.int x0)] st N I L P = sm_at C X 158 106 [l0, some (.int x0)] (.int x0 :: st) N I L P := st_go b158 dX11_births_105 (by decide) rfl
theorem s158_106 : sm_at C X 158 106 ls st N I L P = sm_at C X 158 108 ls (.int (nI 7) :: st) N I L P := st_go b158 dX11_births_106 (by decide) rfl
theorem s158_108 (h : ¬ x0 = 0) : sm_at C X 158 108 ls (.int x0 :: .int x1 :: st) N I L P = sm_at C X 158 109 ls (.int (x1 / x0) :: st) N I L P := st_idiv b158 dX11_births_108 h
theorem s158_109 (h : a < N) (h1 : k < sm_al a) : sm_at C X 158 109 ls (.int x0 :: .int (nI k) :: .ref a :: st) N I L P = sm_at C X 158 110 ls st N (sm_up I a k x0) L P := st_iast b158 dX11_births_109 h h1
theorem s158_110 : sm_at C X 158 110 [l0, some (.int x0)] st N I L P = sm_at C X 158 113 [sm_cl l0, some (.int (x0 + (nI 1)))] st N I L P := st_go b158 dX11_births_110 (by decide) rfl
theorem s158_113 : sm_at C X 158 113 ls st N I L P = sm_at C X 158 54 ls st N I L P := st_go b158 dX11_births_113 (by decide) rfl
theorem s158_116 : sm_at C X 158 116 [some (.ref a), l1] st N I L P = sm_at C X 158 117 [some (.ref a), l1] (.ref a :: st) N I L P := st_go b158 dX11_births_116 (by decide) rfl
theorem s158_117 : sm_at C X 158 117 ls st N I L P = sm_at C X 158 118 ls (.int (nI 0) :: st) N I L P := st_go b158 dX11_births_117 (by decide) rfl
theorem s158_118 (h : a < N) (h1 : sm_lay a = .inl 11) : sm_at C X 158 118 ls (.int x0 :: .ref a :: st) N I L P = sm_at C X 158 121 ls st N (sm_up I a 12 x0) L P := st_pfI b158 dX11_births_118 rfl rfl rfl h h1
theorem s158_121 : sm_at C X 158 121 [some (.ref a), l1] st N I L P = sm_at C X 158 122 [some (.ref a), l1] (.ref a :: st) N I L P := st_go b158 dX11_births_121 (by decide) rfl
theorem s158_122 : sm_at C X 158 122 ls (.ref a :: st) N I L P = sm_at C X 158 123 ls (.ref a :: .ref a :: st) N I L P := st_go b158 dX11_births_122 (by decide) rfl
theorem s158_123 (h : a < N) (h1 : sm_lay a = .inl 11) : sm_at C X 158 123 ls (.ref a :: st) N I L P = sm_at C X 158 126 ls (.int (I a 9) :: st) N I L P := st_gfI b158 dX11_births_123 rfl rfl h h1
theorem s158_126 : sm_at C X 158 126 ls st N I L P = sm_at C X 158 127 ls (.int (nI 1) :: st) N I L P := st_go b158 dX11_births_126 (by decide) rfl
theorem s158_127 : sm_at C X 158 127 ls (.int x0 :: .int x1 :: st) N I L P = sm_at C X 158 128 ls (.int (x1 + x0) :: st) N I L P := st_go b158 dX11_births_127 (by decide) rfl
theorem s158_128 (h : a < N) (h1 : sm_lay a = .inl 11) : sm_at C X 158 128 ls (.int x0 :: .ref a :: st) N I L P = sm_at C X 158 131 ls st N (sm_up I a 9 x0) L P := st_pfI b158 dX11_births_128 rfl rfl rfl h h1
theorem s158_131 : sm_at C X 158 131 [some (.ref a), l1] st N I L P = sm_at C X 158 132 [some (.ref a), l1] (.ref a :: st) N I L P := st_go b158 dX11_births_131 (by decide) rfl
theorem s158_132 : sm_at C X 158 132 ls st N I L P = sm_at C X 158 133 ls (.int (nI 0) :: st) N I L P := st_go b158 dX11_births_132 (by decide) rfl
theorem s158_133 (h : a < N) (h1 : sm_lay a = .inl 11) : sm_at C X 158 133 ls (.int x0 :: .ref a :: st) N I L P = sm_at C X 158 136 ls st N (sm_up I a 3 x0) L P := st_pfI b158 dX11_births_133 rfl rfl rfl h h1
theorem s158_136 : sm_at C X 158 136 [some (.ref a), l1] st N I L P = sm_at C X 158 137 [some (.ref a), l1] (.ref a :: st) N I L P := st_go b158 dX11_births_136 (by decide) rfl
theorem s158_137 (h : a < N) (h1 : sm_lay a = .inl 11) : sm_at C X 158 137 ls (.ref a :: st) N I L P = sm_at C X 158 140 ls (.int (I a 8) :: st) N I L P := st_gfI b158 dX11_births_137 rfl rfl h h1
theorem s158_140 : sm_at C X 158 140 ls [.int x0] N I L P = some (some (.int x0), N, I, L, P) := st_iret b158 dX11_births_140 rfl
theorem b159 : sm_b 159 = cX11_birth := rfl
theorem s159_0 : sm_at C X 159 0 [l0, some (.int x0), l2] st N I L P = sm_at C X 159 1 [l0, some (.int x0), l2] (.int x0 :: st) N I L P := st_go b159 dX11_birth_0 (by decide) rfl
theorem s159_1 : sm_at C X 159 1 ls (.int x0 :: st) N I L P = sm_at C X 159 2 ls (.long x0.toInt64 :: st) N I L P := st_go b159 dX11_birth_1 (by decide) rfl
theorem s159_2 : sm_at C X 159 2 ls st N I L P = sm_at C X 159 3 ls (.long (lN 0) :: st) N I L P := st_go b159 dX11_birth_2 (by decide) rfl
theorem s159_3 : sm_at C X 159 3 [some (.ref a), l1, l2] st N I L P = sm_at C X 159 4 [some (.ref a), l1, l2] (.ref a :: st) N I L P := st_go b159 dX11_birth_3 (by decide) rfl
theorem s159_4 (h : a < N) (h1 : sm_lay a = .inl 11) : sm_at C X 159 4 ls (.ref a :: st) N I L P = sm_at C X 159 7 ls (.int (I a 8) :: st) N I L P := st_gfI b159 dX11_birth_4 rfl rfl h h1
theorem s159_7 : sm_at C X 159 7 ls st N I L P = sm_at C X 159 8 ls (.int (nI 1) :: st) N I L P := st_go b159 dX11_birth_7 (by decide) rfl
theorem s159_8 : sm_at C X 159 8 ls (.int x0 :: .int x1 :: st) N I L P = sm_at C X 159 9 ls (.int (x1 - x0) :: st) N I L P := st_go b159 dX11_birth_8 (by decide) rfl
theorem s159_9 : sm_at C X 159 9 ls (.int x0 :: st) N I L P = sm_at C X 159 10 ls (.long x0.toInt64 :: st) N I L P := st_go b159 dX11_birth_9 (by decide) rfl
theorem s159_10 : sm_at C X 159 10 ls [w2, w1, w0] N I L P = sm_af C X 159 13 ls [] (C 146 [w0, w1, w2] N I L P) := st_stat b159 dX11_birth_10 (n := 3) (rest := []) rfl rfl rfl rfl rfl rfl
theorem s159_13 : sm_at C X 159 13 ls (.int x0 :: st) N I L P = if ¬ x0 = 0 then sm_at C X 159 19 ls st N I L P else sm_at C X 159 16 ls st N I L P := st_br b159 dX11_birth_13 (by decide) rfl
theorem s159_16 : sm_at C X 159 16 ls st N I L P = sm_at C X 159 18 ls (.int (-101) :: st) N I L P := st_go b159 dX11_birth_16 (by decide) rfl
theorem s159_18 : sm_at C X 159 18 ls [.int x0] N I L P = some (some (.int x0), N, I, L, P) := st_iret b159 dX11_birth_18 rfl
theorem s159_19 : sm_at C X 159 19 [l0, l1, some (.int x0)] st N I L P = sm_at C X 159 20 [l0, l1, some (.int x0)] (.int x0 :: st) N I L P := st_go b159 dX11_birth_19 (by decide) rfl
theorem s159_20 : sm_at C X 159 20 ls (.int x0 :: st) N I L P = sm_at C X 159 21 ls (.long x0.toInt64 :: st) N I L P := st_go b159 dX11_birth_20 (by decide) rfl
theorem s159_21 : sm_at C X 159 21 ls st N I L P = sm_at C X 159 22 ls (.long (lN 0) :: st) N I L P := st_go b159 dX11_birth_21 (by decide) rfl
theorem s159_22 : sm_at C X 159 22 ls st N I L P = sm_at C X 159 25 ls (.long (lN 6) :: st) N I L P := st_go b159 dX11_birth_22 (by decide) rfl
theorem s159_25 : sm_at C X 159 25 ls [w2, w1, w0] N I L P = sm_af C X 159 28 ls [] (C 146 [w0, w1, w2] N I L P) := st_stat b159 dX11_birth_25 (n := 3) (rest := []) rfl rfl rfl rfl rfl rfl
theorem s159_28 : sm_at C X 159 28 ls (.int x0 :: st) N I L P = if x0 = 0 then sm_at C X 159 45 ls st N I L P else sm_at C X 159 31 ls st N I L P := st_br b159 dX11_birth_28 (by decide) rfl
theorem s159_31 : sm_at C X 159 31 [some (.ref a), l1, l2] st N I L P = sm_at C X 159 32 [some (.ref a), l1, l2] (.ref a :: st) N I L P := st_go b159 dX11_birth_31 (by decide) rfl
theorem s159_32 (h : a < N) (h1 : sm_lay a = .inl 11) : sm_at C X 159 32 ls (.ref a :: st) N I L P = sm_at C X 159 35 ls (va_rf (P a 10) :: st) N I L P := st_gfR b159 dX11_birth_32 rfl rfl h h1
theorem s159_35 : sm_at C X 159 35 ls st N I L P = sm_at C X 159 37 ls (.int (nI 7) :: st) N I L P := st_go b159 dX11_birth_35 (by decide) rfl
theorem s159_37 : sm_at C X 159 37 [l0, some (.int x0), l2] st N I L P = sm_at C X 159 38 [l0, some (.int x0), l2] (.int x0 :: st) N I L P := st_go b159 dX11_birth_37 (by decide) rfl
theorem s159_38 : sm_at C X 159 38 ls (.int x0 :: .int x1 :: st) N I L P = sm_at C X 159 39 ls (.int (x1 * x0) :: st) N I L P := st_go b159 dX11_birth_38 (by decide) rfl
theorem s159_39 : sm_at C X 159 39 [l0, l1, some (.int x0)] st N I L P = sm_at C X 159 40 [l0, l1, some (.int x0)] (.int x0 :: st) N I L P := st_go b159 dX11_birth_39 (by decide) rfl
theorem s159_40 : sm_at C X 159 40 ls (.int x0 :: .int x1 :: st) N I L P = sm_at C X 159 41 ls (.int (x1 + x0) :: st) N I L P := st_go b159 dX11_birth_40 (by decide) rfl
theorem s159_41 (h : a < N) (h1 : k < sm_al a) : sm_at C X 159 41 ls (.int (nI k) :: .ref a :: st) N I L P = sm_at C X 159 42 ls (.int (I a k) :: st) N I L P := st_iald b159 dX11_birth_41 h h1
theorem s159_42 : sm_at C X 159 42 ls st N I L P = sm_at C X 159 47 ls st N I L P := st_go b159 dX11_birth_42 (by decide) rfl
theorem s159_45 : sm_at C X 159 45 ls st N I L P = sm_at C X 159 47 ls (.int (-102) :: st) N I L P := st_go b159 dX11_birth_45 (by decide) rfl
theorem s159_47 : sm_at C X 159 47 ls [.int x0] N I L P = some (some (.int x0), N, I, L, P) := st_iret b159 dX11_birth_47 rfl
theorem b160 : sm_b 160 = cX11_as := rfl
theorem s160_0 : sm_at C X 160 0 [l0, some (.int x0), l2, l3, l4] st N I L P = sm_at C X 160 1 [l0, some (.int x0), l2, l3, l4] (.int x0 :: st) N I L P := st_go b160 dX11_as_0 (by decide) rfl
theorem s160_1 : sm_at C X 160 1 ls (.int x0 :: st) N I L P = sm_at C X 160 2 ls (.long x0.toInt64 :: st) N I L P := st_go b160 dX11_as_1 (by decide) rfl
theorem s160_2 : sm_at C X 160 2 ls st N I L P = sm_at C X 160 3 ls (.long (lN 0) :: st) N I L P := st_go b160 dX11_as_2 (by decide) rfl
theorem s160_3 : sm_at C X 160 3 [some (.ref a), l1, l2, l3, l4] st N I L P = sm_at C X 160 4 [some (.ref a), l1, l2, l3, l4] (.ref a :: st) N I L P := st_go b160 dX11_as_3 (by decide) rfl
theorem s160_4 (h : a < N) (h1 : sm_lay a = .inl 11) : sm_at C X 160 4 ls (.ref a :: st) N I L P = sm_at C X 160 7 ls (.int (I a 8) :: st) N I L P := st_gfI b160 dX11_as_4 rfl rfl h h1
theorem s160_7 : sm_at C X 160 7 ls st N I L P = sm_at C X 160 8 ls (.int (nI 1) :: st) N I L P := st_go b160 dX11_as_7 (by decide) rfl
theorem s160_8 : sm_at C X 160 8 ls (.int x0 :: .int x1 :: st) N I L P = sm_at C X 160 9 ls (.int (x1 - x0) :: st) N I L P := st_go b160 dX11_as_8 (by decide) rfl
theorem s160_9 : sm_at C X 160 9 ls (.int x0 :: st) N I L P = sm_at C X 160 10 ls (.long x0.toInt64 :: st) N I L P := st_go b160 dX11_as_9 (by decide) rfl
theorem s160_10 : sm_at C X 160 10 ls [w2, w1, w0] N I L P = sm_af C X 160 13 ls [] (C 146 [w0, w1, w2] N I L P) := st_stat b160 dX11_as_10 (n := 3) (rest := []) rfl rfl rfl rfl rfl rfl
theorem s160_13 : sm_at C X 160 13 ls (.int x0 :: st) N I L P = if ¬ x0 = 0 then sm_at C X 160 19 ls st N I L P else sm_at C X 160 16 ls st N I L P := st_br b160 dX11_as_13 (by decide) rfl
theorem s160_16 : sm_at C X 160 16 ls st N I L P = sm_at C X 160 18 ls (.int (-101) :: st) N I L P := st_go b160 dX11_as_16 (by decide) rfl
theorem s160_18 : sm_at C X 160 18 ls [.int x0] N I L P = some (some (.int x0), N, I, L, P) := st_iret b160 dX11_as_18 rfl
theorem s160_19 : sm_at C X 160 19 [l0, l1, some (.int x0), l3, l4] st N I L P = sm_at C X 160 20 [l0, l1, some (.int x0), l3, l4] (.int x0 :: st) N I L P := st_go b160 dX11_as_19 (by decide) rfl
theorem s160_20 : sm_at C X 160 20 ls (.int x0 :: st) N I L P = sm_at C X 160 21 ls (.long x0.toInt64 :: st) N I L P := st_go b160 dX11_as_20 (by decide) rfl
theorem s160_21 : sm_at C X 160 21 ls st N I L P = sm_at C X 160 22 ls (.long (lN 0) :: st) N I L P := st_go b160 dX11_as_21 (by decide) rfl
theorem s160_22 : sm_at C X 160 22 ls st N I L P = sm_at C X 160 25 ls (.long (lN 3) :: st) N I L P := st_go b160 dX11_as_22 (by decide) rfl
theorem s160_25 : sm_at C X 160 25 ls [w2, w1, w0] N I L P = sm_af C X 160 28 ls [] (C 146 [w0, w1, w2] N I L P) := st_stat b160 dX11_as_25 (n := 3) (rest := []) rfl rfl rfl rfl rfl rfl
theorem s160_28 : sm_at C X 160 28 ls (.int x0 :: st) N I L P = if ¬ x0 = 0 then sm_at C X 160 34 ls st N I L P else sm_at C X 160 31 ls st N I L P := st_br b160 dX11_as_28 (by decide) rfl
theorem s160_31 : sm_at C X 160 31 ls st N I L P = sm_at C X 160 33 ls (.int (-102) :: st) N I L P := st_go b160 dX11_as_31 (by decide) rfl
theorem s160_33 : sm_at C X 160 33 ls [.int x0] N I L P = some (some (.int x0), N, I, L, P) := st_iret b160 dX11_as_33 rfl
theorem s160_34 : sm_at C X 160 34 [some (.ref a), l1, l2, l3, l4] st N I L P = sm_at C X 160 35 [some (.ref a), l1, l2, l3, l4] (.ref a :: st) N I L P := st_go b160 dX11_as_34 (by decide) rfl
theorem s160_35 (h : a < N) (h1 : sm_lay a = .inl 11) : sm_at C X 160 35 ls (.ref a :: st) N I L P = sm_at C X 160 38 ls (va_rf (P a 10) :: st) N I L P := st_gfR b160 dX11_as_35 rfl rfl h h1
theorem s160_38 : sm_at C X 160 38 ls st N I L P = sm_at C X 160 40 ls (.int (nI 7) :: st) N I L P := st_go b160 dX11_as_38 (by decide) rfl
theorem s160_40 : sm_at C X 160 40 [l0, some (.int x0), l2, l3, l4] st N I L P = sm_at C X 160 41 [l0, some (.int x0), l2, l3, l4] (.int x0 :: st) N I L P := st_go b160 dX11_as_40 (by decide) rfl
theorem s160_41 : sm_at C X 160 41 ls (.int x0 :: .int x1 :: st) N I L P = sm_at C X 160 42 ls (.int (x1 * x0) :: st) N I L P := st_go b160 dX11_as_41 (by decide) rfl
theorem s160_42 (h : a < N) (h1 : k < sm_al a) : sm_at C X 160 42 ls (.int (nI k) :: .ref a :: st) N I L P = sm_at C X 160 43 ls (.int (I a k) :: st) N I L P := st_iald b160 dX11_as_42 h h1
theorem s160_43 : sm_at C X 160 43 [l0, l1, l2, l3, l4] (.int x0 :: st) N I L P = sm_at C X 160 44 [l0, l1, sm_cl l2, some (.int x0), l4] st N I L P := st_go b160 dX11_as_43 (by decide) rfl
theorem s160_44 : sm_at C X 160 44 [l0, l1, some (.int x0), l3, l4] st N I L P = sm_at C X 160 45 [l0, l1, some (.int x0), l3, l4] (.int x0 :: st) N I L P := st_go b160 dX11_as_44 (by decide) rfl
theorem s160_45 : sm_at C X 160 45 ls (.int x0 :: st) N I L P = if x0 = 0 then sm_at C X 160 53 ls st N I L P else sm_at C X 160 48 ls st N I L P := st_br b160 dX11_as_45 (by decide) rfl
theorem s160_48 : sm_at C X 160 48 [l0, l1, some (.int x0), l3, l4] st N I L P = sm_at C X 160 49 [l0, l1, some (.int x0), l3, l4] (.int x0 :: st) N I L P := st_go b160 dX11_as_48 (by decide) rfl
theorem s160_49 : sm_at C X 160 49 [l0, l1, l2, some (.int x0), l4] st N I L P = sm_at C X 160 50 [l0, l1, l2, some (.int x0), l4] (.int x0 :: st) N I L P := st_go b160 dX11_as_49 (by decide) rfl
theorem s160_50 : sm_at C X 160 50 ls (.int x0 :: .int x1 :: st) N I L P = if ¬ x1 = x0 then sm_at C X 160 57 ls st N I L P else sm_at C X 160 53 ls st N I L P := st_br b160 dX11_as_50 (by decide) rfl
theorem s160_53 : sm_at C X 160 53 ls st N I L P = sm_at C X 160 54 ls (.int (nI 1) :: st) N I L P := st_go b160 dX11_as_53 (by decide) rfl
theorem s160_54 : sm_at C X 160 54 ls st N I L P = sm_at C X 160 58 ls st N I L P := st_go b160 dX11_as_54 (by decide) rfl
theorem s160_57 : sm_at C X 160 57 ls st N I L P = sm_at C X 160 58 ls (.int (nI 0) :: st) N I L P := st_go b160 dX11_as_57 (by decide) rfl
theorem s160_58 : sm_at C X 160 58 [l0, l1, l2, l3, l4] (.int x0 :: st) N I L P = sm_at C X 160 60 [l0, l1, l2, sm_cl l3, some (.int x0)] st N I L P := st_go b160 dX11_as_58 (by decide) rfl
theorem s160_60 : sm_at C X 160 60 [l0, l1, l2, l3, some (.int x0)] st N I L P = sm_at C X 160 62 [l0, l1, l2, l3, some (.int x0)] (.int x0 :: st) N I L P := st_go b160 dX11_as_60 (by decide) rfl
theorem s160_62 : sm_at C X 160 62 ls (.int x0 :: st) N I L P = if x0 = 0 then sm_at C X 160 69 ls st N I L P else sm_at C X 160 65 ls st N I L P := st_br b160 dX11_as_62 (by decide) rfl
theorem s160_65 : sm_at C X 160 65 [l0, some (.int x0), l2, l3, l4] st N I L P = sm_at C X 160 66 [l0, some (.int x0), l2, l3, l4] (.int x0 :: st) N I L P := st_go b160 dX11_as_65 (by decide) rfl
theorem s160_66 : sm_at C X 160 66 ls st N I L P = sm_at C X 160 70 ls st N I L P := st_go b160 dX11_as_66 (by decide) rfl
theorem s160_69 : sm_at C X 160 69 ls st N I L P = sm_at C X 160 70 ls (.int (-1) :: st) N I L P := st_go b160 dX11_as_69 (by decide) rfl
theorem s160_70 : sm_at C X 160 70 ls [.int x0] N I L P = some (some (.int x0), N, I, L, P) := st_iret b160 dX11_as_70 rfl
theorem b161 : sm_b 161 = cX11_touchedBy := rfl
theorem s161_0 : sm_at C X 161 0 ls st N I L P = sm_at C X 161 1 ls (.int (nI 0) :: st) N I L P := st_go b161 dX11_touchedBy_0 (by decide) rfl
theorem s161_1 : sm_at C X 161 1 [l0, l1, l2, l3, l4] (.int x0 :: st) N I L P = sm_at C X 161 2 [l0, l1, sm_cl l2, some (.int x0), l4] st N I L P := st_go b161 dX11_touchedBy_1 (by decide) rfl
theorem s161_2 : sm_at C X 161 2 ls st N I L P = sm_at C X 161 3 ls (.int (nI 0) :: st) N I L P := st_go b161 dX11_touchedBy_2 (by decide) rfl
theorem s161_3 : sm_at C X 161 3 [l0, l1, l2, l3, l4] (.int x0 :: st) N I L P = sm_at C X 161 5 [l0, l1, l2, sm_cl l3, some (.int x0)] st N I L P := st_go b161 dX11_touchedBy_3 (by decide) rfl
theorem s161_5 : sm_at C X 161 5 [l0, l1, l2, l3, some (.int x0)] st N I L P = sm_at C X 161 7 [l0, l1, l2, l3, some (.int x0)] (.int x0 :: st) N I L P := st_go b161 dX11_touchedBy_5 (by decide) rfl
theorem s161_7 : sm_at C X 161 7 [l0, l1, some (.int x0), l3, l4] st N I L P = sm_at C X 161 8 [l0, l1, some (.int x0), l3, l4] (.int x0 :: st) N I L P := st_go b161 dX11_touchedBy_7 (by decide) rfl
theorem s161_8 : sm_at C X 161 8 ls (.int x0 :: .int x1 :: st) N I L P = if x0 ≤ x1 then sm_at C X 161 38 ls st N I L P else sm_at C X 161 11 ls st N I L P := st_br b161 dX11_touchedBy_8 (by decide) rfl
theorem s161_11 : sm_at C X 161 11 [l0, l1, l2, some (.int x0), l4] st N I L P = sm_at C X 161 12 [l0, l1, l2, some (.int x0), l4] (.int x0 :: st) N I L P := st_go b161 dX11_touchedBy_11 (by decide) rfl
theorem s161_12 : sm_at C X 161 12 [some (.ref a), l1, l2, l3, l4] st N I L P = sm_at C X 161 13 [some (.ref a), l1, l2, l3, l4] (.ref a :: st) N I L P := st_go b161 dX11_touchedBy_12 (by decide) rfl
theorem s161_13 (h : a < N) (h1 : sm_lay a = .inl 11) : sm_at C X 161 13 ls (.ref a :: st) N I L P = sm_at C X 161 16 ls (va_rf (P a 13) :: st) N I L P := st_gfR b161 dX11_touchedBy_13 rfl rfl h h1
theorem s161_16 : sm_at C X 161 16 ls st N I L P = sm_at C X 161 17 ls (.int (nI 2) :: st) N I L P := st_go b161 dX11_touchedBy_16 (by decide) rfl
theorem s161_17 : sm_at C X 161 17 [l0, l1, l2, l3, some (.int x0)] st N I L P = sm_at C X 161 19 [l0, l1, l2, l3, some (.int x0)] (.int x0 :: st) N I L P := st_go b161 dX11_touchedBy_17 (by decide) rfl
theorem s161_19 : sm_at C X 161 19 ls (.int x0 :: .int x1 :: st) N I L P = sm_at C X 161 20 ls (.int (x1 * x0) :: st) N I L P := st_go b161 dX11_touchedBy_19 (by decide) rfl
theorem s161_20 (h : a < N) (h1 : k < sm_al a) : sm_at C X 161 20 ls (.int (nI k) :: .ref a :: st) N I L P = sm_at C X 161 21 ls (.int (I a k) :: st) N I L P := st_iald b161 dX11_touchedBy_20 h h1
theorem s161_21 : sm_at C X 161 21 [l0, some (.int x0), l2, l3, l4] st N I L P = sm_at C X 161 22 [l0, some (.int x0), l2, l3, l4] (.int x0 :: st) N I L P := st_go b161 dX11_touchedBy_21 (by decide) rfl
theorem s161_22 : sm_at C X 161 22 ls (.int x0 :: .int x1 :: st) N I L P = if ¬ x1 = x0 then sm_at C X 161 29 ls st N I L P else sm_at C X 161 25 ls st N I L P := st_br b161 dX11_touchedBy_22 (by decide) rfl
theorem s161_25 : sm_at C X 161 25 ls st N I L P = sm_at C X 161 26 ls (.int (nI 1) :: st) N I L P := st_go b161 dX11_touchedBy_25 (by decide) rfl
theorem s161_26 : sm_at C X 161 26 ls st N I L P = sm_at C X 161 30 ls st N I L P := st_go b161 dX11_touchedBy_26 (by decide) rfl
theorem s161_29 : sm_at C X 161 29 ls st N I L P = sm_at C X 161 30 ls (.int (nI 0) :: st) N I L P := st_go b161 dX11_touchedBy_29 (by decide) rfl
theorem s161_30 : sm_at C X 161 30 ls (.int x0 :: .int x1 :: st) N I L P = sm_at C X 161 31 ls (.int (x1 + x0) :: st) N I L P := st_go b161 dX11_touchedBy_30 (by decide) rfl
theorem s161_31 : sm_at C X 161 31 [l0, l1, l2, l3, l4] (.int x0 :: st) N I L P = sm_at C X 161 32 [l0, l1, sm_cl l2, some (.int x0), l4] st N I L P := st_go b161 dX11_touchedBy_31 (by decide) rfl
theorem s161_32 : sm_at C X 161 32 [l0, l1, l2, l3, some (.int x0)] st N I L P = sm_at C X 161 35 [l0, l1, l2, sm_cl l3, some (.int (x0 + (nI 1)))] st N I L P := st_go b161 dX11_touchedBy_32 (by decide) rfl
theorem s161_35 : sm_at C X 161 35 ls st N I L P = sm_at C X 161 5 ls st N I L P := st_go b161 dX11_touchedBy_35 (by decide) rfl
theorem s161_38 : sm_at C X 161 38 [l0, l1, l2, some (.int x0), l4] st N I L P = sm_at C X 161 39 [l0, l1, l2, some (.int x0), l4] (.int x0 :: st) N I L P := st_go b161 dX11_touchedBy_38 (by decide) rfl
theorem s161_39 : sm_at C X 161 39 ls [.int x0] N I L P = some (some (.int x0), N, I, L, P) := st_iret b161 dX11_touchedBy_39 rfl
theorem b162 : sm_b 162 = cX11_tellPerson := rfl
theorem s162_0 : sm_at C X 162 0 [l0, l1, some (.int x0)] st N I L P = sm_at C X 162 1 [l0, l1, some (.int x0)] (.int x0 :: st) N I L P := st_go b162 dX11_tellPerson_0 (by decide) rfl
theorem s162_1 : sm_at C X 162 1 ls (.int x0 :: st) N I L P = if ¬ x0 = 0 then sm_at C X 162 13 ls st N I L P else sm_at C X 162 4 ls st N I L P := st_br b162 dX11_tellPerson_1 (by decide) rfl
theorem s162_4 : sm_at C X 162 4 [some (.ref a), l1, l2] st N I L P = sm_at C X 162 5 [some (.ref a), l1, l2] (.ref a :: st) N I L P := st_go b162 dX11_tellPerson_4 (by decide) rfl
theorem s162_5 (h : a < N) (h1 : sm_lay a = .inl 11) : sm_at C X 162 5 ls (.ref a :: st) N I L P = sm_at C X 162 8 ls (va_rf (P a 1) :: st) N I L P := st_gfR b162 dX11_tellPerson_5 rfl rfl h h1
theorem s162_8 : sm_at C X 162 8 [l0, some (.int x0), l2] st N I L P = sm_at C X 162 9 [l0, some (.int x0), l2] (.int x0 :: st) N I L P := st_go b162 dX11_tellPerson_8 (by decide) rfl
theorem s162_9 (h : a < N) (h1 : k < sm_al a) : sm_at C X 162 9 ls (.int (nI k) :: .ref a :: st) N I L P = sm_at C X 162 10 ls (.int (I a k) :: st) N I L P := st_iald b162 dX11_tellPerson_9 h h1
theorem s162_10 : sm_at C X 162 10 ls st N I L P = sm_at C X 162 46 ls st N I L P := st_go b162 dX11_tellPerson_10 (by decide) rfl
theorem s162_13 : sm_at C X 162 13 [l0, l1, some (.int x0)] st N I L P = sm_at C X 162 14 [l0, l1, some (.int x0)] (.int x0 :: st) N I L P := st_go b162 dX11_tellPerson_13 (by decide) rfl
theorem s162_14 : sm_at C X 162 14 ls st N I L P = sm_at C X 162 15 ls (.int (nI 1) :: st) N I L P := st_go b162 dX11_tellPerson_14 (by decide) rfl
theorem s162_15 : sm_at C X 162 15 ls (.int x0 :: .int x1 :: st) N I L P = if ¬ x1 = x0 then sm_at C X 162 27 ls st N I L P else sm_at C X 162 18 ls st N I L P := st_br b162 dX11_tellPerson_15 (by decide) rfl
theorem s162_18 : sm_at C X 162 18 [some (.ref a), l1, l2] st N I L P = sm_at C X 162 19 [some (.ref a), l1, l2] (.ref a :: st) N I L P := st_go b162 dX11_tellPerson_18 (by decide) rfl
theorem s162_19 (h : a < N) (h1 : sm_lay a = .inl 11) : sm_at C X 162 19 ls (.ref a :: st) N I L P = sm_at C X 162 22 ls (va_rf (P a 11) :: st) N I L P := st_gfR b162 dX11_tellPerson_19 rfl rfl h h1
theorem s162_22 : sm_at C X 162 22 [l0, some (.int x0), l2] st N I L P = sm_at C X 162 23 [l0, some (.int x0), l2] (.int x0 :: st) N I L P := st_go b162 dX11_tellPerson_22 (by decide) rfl
theorem s162_23 (h : a < N) (h1 : k < sm_al a) : sm_at C X 162 23 ls (.int (nI k) :: .ref a :: st) N I L P = sm_at C X 162 24 ls (.int (I a k) :: st) N I L P := st_iald b162 dX11_tellPerson_23 h h1
theorem s162_24 : sm_at C X 162 24 ls st N I L P = sm_at C X 162 46 ls st N I L P := st_go b162 dX11_tellPerson_24 (by decide) rfl
theorem s162_27 : sm_at C X 162 27 [l0, l1, some (.int x0)] st N I L P = sm_at C X 162 28 [l0, l1, some (.int x0)] (.int x0 :: st) N I L P := st_go b162 dX11_tellPerson_27 (by decide) rfl
theorem s162_28 : sm_at C X 162 28 ls st N I L P = sm_at C X 162 29 ls (.int (nI 2) :: st) N I L P := st_go b162 dX11_tellPerson_28 (by decide) rfl
theorem s162_29 : sm_at C X 162 29 ls (.int x0 :: .int x1 :: st) N I L P = if ¬ x1 = x0 then sm_at C X 162 44 ls st N I L P else sm_at C X 162 32 ls st N I L P := st_br b162 dX11_tellPerson_29 (by decide) rfl
theorem s162_32 : sm_at C X 162 32 [some (.ref a), l1, l2] st N I L P = sm_at C X 162 33 [some (.ref a), l1, l2] (.ref a :: st) N I L P := st_go b162 dX11_tellPerson_32 (by decide) rfl
theorem s162_33 : sm_at C X 162 33 [l0, some (.int x0), l2] st N I L P = sm_at C X 162 34 [l0, some (.int x0), l2] (.int x0 :: st) N I L P := st_go b162 dX11_tellPerson_33 (by decide) rfl
theorem s162_34 : sm_at C X 162 34 [some (.ref a), l1, l2] st N I L P = sm_at C X 162 35 [some (.ref a), l1, l2] (.ref a :: st) N I L P := st_go b162 dX11_tellPerson_34 (by decide) rfl
theorem s162_35 (h : a < N) (h1 : sm_lay a = .inl 11) : sm_at C X 162 35 ls (.ref a :: st) N I L P = sm_at C X 162 38 ls (.int (I a 12) :: st) N I L P := st_gfI b162 dX11_tellPerson_35 rfl rfl h h1
theorem s162_38 (h : a < N) (h1 : sm_lay a = .inl 11) : sm_at C X 162 38 ls [w2, w1, .ref a] N I L P = sm_af C X 162 41 ls [] (C 161 [.ref a, w1, w2] N I L P) := st_virt b162 dX11_tellPerson_38 (n := 3) (rest := []) rfl rfl rfl rfl rfl rfl rfl h h1
theorem s162_41 : sm_at C X 162 41 ls st N I L P = sm_at C X 162 46 ls st N I L P := st_go b162 dX11_tellPerson_41 (by decide) rfl
theorem s162_44 : sm_at C X 162 44 ls st N I L P = sm_at C X 162 46 ls (.int (-102) :: st) N I L P := st_go b162 dX11_tellPerson_44 (by decide) rfl
theorem s162_46 : sm_at C X 162 46 ls [.int x0] N I L P = some (some (.int x0), N, I, L, P) := st_iret b162 dX11_tellPerson_46 rfl
theorem b163 : sm_b 163 = cX11_about := rfl
theorem s163_0 : sm_at C X 163 0 [l0, some (.int x0), l2] st N I L P = sm_at C X 163 1 [l0, some (.int x0), l2] (.int x0 :: st) N I L P := st_go b163 dX11_about_0 (by decide) rfl
theorem s163_1 : sm_at C X 163 1 ls [w0] N I L P = sm_af C X 163 4 ls [] (C 148 [w0] N I L P) := st_stat b163 dX11_about_1 (n := 1) (rest := []) rfl rfl rfl rfl rfl rfl
theorem s163_4 : sm_at C X 163 4 ls (.int x0 :: st) N I L P = if x0 = 0 then sm_at C X 163 16 ls st N I L P else sm_at C X 163 7 ls st N I L P := st_br b163 dX11_about_4 (by decide) rfl
theorem s163_7 : sm_at C X 163 7 [some (.ref a), l1, l2] st N I L P = sm_at C X 163 8 [some (.ref a), l1, l2] (.ref a :: st) N I L P := st_go b163 dX11_about_7 (by decide) rfl
theorem s163_8 : sm_at C X 163 8 [l0, some (.int x0), l2] st N I L P = sm_at C X 163 9 [l0, some (.int x0), l2] (.int x0 :: st) N I L P := st_go b163 dX11_about_8 (by decide) rfl
theorem s163_9 : sm_at C X 163 9 [l0, l1, some (.int x0)] st N I L P = sm_at C X 163 10 [l0, l1, some (.int x0)] (.int x0 :: st) N I L P := st_go b163 dX11_about_9 (by decide) rfl
theorem s163_10 (h : a < N) (h1 : sm_lay a = .inl 11) : sm_at C X 163 10 ls [w2, w1, .ref a] N I L P = sm_af C X 163 13 ls [] (C 162 [.ref a, w1, w2] N I L P) := st_virt b163 dX11_about_10 (n := 3) (rest := []) rfl rfl rfl rfl rfl rfl rfl h h1
theorem s163_13 : sm_at C X 163 13 ls st N I L P = sm_at C X 163 18 ls st N I L P := st_go b163 dX11_about_13 (by decide) rfl
theorem s163_16 : sm_at C X 163 16 ls st N I L P = sm_at C X 163 18 ls (.int (-101) :: st) N I L P := st_go b163 dX11_about_16 (by decide) rfl
theorem s163_18 : sm_at C X 163 18 ls [.int x0] N I L P = some (some (.int x0), N, I, L, P) := st_iret b163 dX11_about_18 rfl
theorem b164 : sm_b 164 = cX11_touch := rfl
theorem s164_0 : sm_at C X 164 0 [l0, some (.int x0), l2] st N I L P = sm_at C X 164 1 [l0, some (.int x0), l2] (.int x0 :: st) N I L P := st_go b164 dX11_touch_0 (by decide) rfl
theorem s164_1 : sm_at C X 164 1 ls [w0] N I L P = sm_af C X 164 4 ls [] (C 148 [w0] N I L P) := st_stat b164 dX11_touch_1 (n := 1) (rest := []) rfl rfl rfl rfl rfl rfl
theorem s164_4 : sm_at C X 164 4 ls (.int x0 :: st) N I L P = if ¬ x0 = 0 then sm_at C X 164 10 ls st N I L P else sm_at C X 164 7 ls st N I L P := st_br b164 dX11_touch_4 (by decide) rfl
theorem s164_7 : sm_at C X 164 7 ls st N I L P = sm_at C X 164 9 ls (.int (-101) :: st) N I L P := st_go b164 dX11_touch_7 (by decide) rfl
theorem s164_9 : sm_at C X 164 9 ls [.int x0] N I L P = some (some (.int x0), N, I, L, P) := st_iret b164 dX11_touch_9 rfl
theorem s164_10 : sm_at C X 164 10 [l0, l1, some (.int x0)] st N I L P = sm_at C X 164 11 [l0, l1, some (.int x0)] (.int x0 :: st) N I L P := st_go b164 dX11_touch_10 (by decide) rfl
theorem s164_11 : sm_at C X 164 11 ls (.int x0 :: st) N I L P = sm_at C X 164 12 ls (.long x0.toInt64 :: st) N I L P := st_go b164 dX11_touch_11 (by decide) rfl
theorem s164_12 : sm_at C X 164 12 ls st N I L P = sm_at C X 164 13 ls (.long (lN 0) :: st) N I L P := st_go b164 dX11_touch_12 (by decide) rfl
theorem s164_13 : sm_at C X 164 13 ls st N I L P = sm_at C X 164 16 ls (.long (lN 999) :: st) N I L P := st_go b164 dX11_touch_13 (by decide) rfl
theorem s164_16 : sm_at C X 164 16 ls [w2, w1, w0] N I L P = sm_af C X 164 19 ls [] (C 146 [w0, w1, w2] N I L P) := st_stat b164 dX11_touch_16 (n := 3) (rest := []) rfl rfl rfl rfl rfl rfl
theorem s164_19 : sm_at C X 164 19 ls (.int x0 :: st) N I L P = if ¬ x0 = 0 then sm_at C X 164 25 ls st N I L P else sm_at C X 164 22 ls st N I L P := st_br b164 dX11_touch_19 (by decide) rfl
theorem s164_22 : sm_at C X 164 22 ls st N I L P = sm_at C X 164 24 ls (.int (-102) :: st) N I L P := st_go b164 dX11_touch_22 (by decide) rfl
theorem s164_24 : sm_at C X 164 24 ls [.int x0] N I L P = some (some (.int x0), N, I, L, P) := st_iret b164 dX11_touch_24 rfl
theorem s164_25 : sm_at C X 164 25 [some (.ref a), l1, l2] st N I L P = sm_at C X 164 26 [some (.ref a), l1, l2] (.ref a :: st) N I L P := st_go b164 dX11_touch_25 (by decide) rfl
theorem s164_26 (h : a < N) (h1 : sm_lay a = .inl 11) : sm_at C X 164 26 ls (.ref a :: st) N I L P = sm_at C X 164 29 ls (.int (I a 12) :: st) N I L P := st_gfI b164 dX11_touch_26 rfl rfl h h1
theorem s164_29 : sm_at C X 164 29 ls st N I L P = sm_at C X 164 31 ls (.int (nI 12) :: st) N I L P := st_go b164 dX11_touch_29 (by decide) rfl
theorem s164_31 : sm_at C X 164 31 ls (.int x0 :: .int x1 :: st) N I L P = if ¬ x1 = x0 then sm_at C X 164 37 ls st N I L P else sm_at C X 164 34 ls st N I L P := st_br b164 dX11_touch_31 (by decide) rfl
theorem s164_34 : sm_at C X 164 34 ls st N I L P = sm_at C X 164 36 ls (.int (-104) :: st) N I L P := st_go b164 dX11_touch_34 (by decide) rfl
theorem s164_36 : sm_at C X 164 36 ls [.int x0] N I L P = some (some (.int x0), N, I, L, P) := st_iret b164 dX11_touch_36 rfl
theorem s164_37 : sm_at C X 164 37 [some (.ref a), l1, l2] st N I L P = sm_at C X 164 38 [some (.ref a), l1, l2] (.ref a :: st) N I L P := st_go b164 dX11_touch_37 (by decide) rfl
theorem s164_38 (h : a < N) (h1 : sm_lay a = .inl 11) : sm_at C X 164 38 ls (.ref a :: st) N I L P = sm_at C X 164 41 ls (va_rf (P a 13) :: st) N I L P := st_gfR b164 dX11_touch_38 rfl rfl h h1
theorem s164_41 : sm_at C X 164 41 ls st N I L P = sm_at C X 164 42 ls (.int (nI 2) :: st) N I L P := st_go b164 dX11_touch_41 (by decide) rfl
theorem s164_42 : sm_at C X 164 42 [some (.ref a), l1, l2] st N I L P = sm_at C X 164 43 [some (.ref a), l1, l2] (.ref a :: st) N I L P := st_go b164 dX11_touch_42 (by decide) rfl
theorem s164_43 (h : a < N) (h1 : sm_lay a = .inl 11) : sm_at C X 164 43 ls (.ref a :: st) N I L P = sm_at C X 164 46 ls (.int (I a 12) :: st) N I L P := st_gfI b164 dX11_touch_43 rfl rfl h h1
theorem s164_46 : sm_at C X 164 46 ls (.int x0 :: .int x1 :: st) N I L P = sm_at C X 164 47 ls (.int (x1 * x0) :: st) N I L P := st_go b164 dX11_touch_46 (by decide) rfl
theorem s164_47 : sm_at C X 164 47 [l0, some (.int x0), l2] st N I L P = sm_at C X 164 48 [l0, some (.int x0), l2] (.int x0 :: st) N I L P := st_go b164 dX11_touch_47 (by decide) rfl
theorem s164_48 (h : a < N) (h1 : k < sm_al a) : sm_at C X 164 48 ls (.int x0 :: .int (nI k) :: .ref a :: st) N I L P = sm_at C X 164 49 ls st N (sm_up I a k x0) L P := st_iast b164 dX11_touch_48 h h1
theorem s164_49 : sm_at C X 164 49 [some (.ref a), l1, l2] st N I L P = sm_at C X 164 50 [some (.ref a), l1, l2] (.ref a :: st) N I L P := st_go b164 dX11_touch_49 (by decide) rfl
theorem s164_50 (h : a < N) (h1 : sm_lay a = .inl 11) : sm_at C X 164 50 ls (.ref a :: st) N I L P = sm_at C X 164 53 ls (va_rf (P a 13) :: st) N I L P := st_gfR b164 dX11_touch_50 rfl rfl h h1
theorem s164_53 : sm_at C X 164 53 ls st N I L P = sm_at C X 164 54 ls (.int (nI 2) :: st) N I L P := st_go b164 dX11_touch_53 (by decide) rfl
theorem s164_54 : sm_at C X 164 54 [some (.ref a), l1, l2] st N I L P = sm_at C X 164 55 [some (.ref a), l1, l2] (.ref a :: st) N I L P := st_go b164 dX11_touch_54 (by decide) rfl
theorem s164_55 (h : a < N) (h1 : sm_lay a = .inl 11) : sm_at C X 164 55 ls (.ref a :: st) N I L P = sm_at C X 164 58 ls (.int (I a 12) :: st) N I L P := st_gfI b164 dX11_touch_55 rfl rfl h h1
theorem s164_58 : sm_at C X 164 58 ls (.int x0 :: .int x1 :: st) N I L P = sm_at C X 164 59 ls (.int (x1 * x0) :: st) N I L P := st_go b164 dX11_touch_58 (by decide) rfl
theorem s164_59 : sm_at C X 164 59 ls st N I L P = sm_at C X 164 60 ls (.int (nI 1) :: st) N I L P := st_go b164 dX11_touch_59 (by decide) rfl
theorem s164_60 : sm_at C X 164 60 ls (.int x0 :: .int x1 :: st) N I L P = sm_at C X 164 61 ls (.int (x1 + x0) :: st) N I L P := st_go b164 dX11_touch_60 (by decide) rfl
theorem s164_61 : sm_at C X 164 61 [l0, l1, some (.int x0)] st N I L P = sm_at C X 164 62 [l0, l1, some (.int x0)] (.int x0 :: st) N I L P := st_go b164 dX11_touch_61 (by decide) rfl
theorem s164_62 (h : a < N) (h1 : k < sm_al a) : sm_at C X 164 62 ls (.int x0 :: .int (nI k) :: .ref a :: st) N I L P = sm_at C X 164 63 ls st N (sm_up I a k x0) L P := st_iast b164 dX11_touch_62 h h1
theorem s164_63 : sm_at C X 164 63 [some (.ref a), l1, l2] st N I L P = sm_at C X 164 64 [some (.ref a), l1, l2] (.ref a :: st) N I L P := st_go b164 dX11_touch_63 (by decide) rfl
theorem s164_64 : sm_at C X 164 64 ls (.ref a :: st) N I L P = sm_at C X 164 65 ls (.ref a :: .ref a :: st) N I L P := st_go b164 dX11_touch_64 (by decide) rfl
theorem s164_65 (h : a < N) (h1 : sm_lay a = .inl 11) : sm_at C X 164 65 ls (.ref a :: st) N I L P = sm_at C X 164 68 ls (.int (I a 12) :: st) N I L P := st_gfI b164 dX11_touch_65 rfl rfl h h1
theorem s164_68 : sm_at C X 164 68 ls st N I L P = sm_at C X 164 69 ls (.int (nI 1) :: st) N I L P := st_go b164 dX11_touch_68 (by decide) rfl
theorem s164_69 : sm_at C X 164 69 ls (.int x0 :: .int x1 :: st) N I L P = sm_at C X 164 70 ls (.int (x1 + x0) :: st) N I L P := st_go b164 dX11_touch_69 (by decide) rfl
theorem s164_70 (h : a < N) (h1 : sm_lay a = .inl 11) : sm_at C X 164 70 ls (.int x0 :: .ref a :: st) N I L P = sm_at C X 164 73 ls st N (sm_up I a 12 x0) L P := st_pfI b164 dX11_touch_70 rfl rfl rfl h h1
theorem s164_73 : sm_at C X 164 73 [some (.ref a), l1, l2] st N I L P = sm_at C X 164 74 [some (.ref a), l1, l2] (.ref a :: st) N I L P := st_go b164 dX11_touch_73 (by decide) rfl
theorem s164_74 (h : a < N) (h1 : sm_lay a = .inl 11) : sm_at C X 164 74 ls (.ref a :: st) N I L P = sm_at C X 164 77 ls (.int (I a 12) :: st) N I L P := st_gfI b164 dX11_touch_74 rfl rfl h h1
theorem s164_77 : sm_at C X 164 77 ls [.int x0] N I L P = some (some (.int x0), N, I, L, P) := st_iret b164 dX11_touch_77 rfl
theorem b165 : sm_b 165 = cX11_forget := rfl
theorem s165_0 : sm_at C X 165 0 [some (.ref a), l1] st N I L P = sm_at C X 165 1 [some (.ref a), l1] (.ref a :: st) N I L P := st_go b165 dX11_forget_0 (by decide) rfl
theorem s165_1 (h : a < N) (h1 : sm_lay a = .inl 11) : sm_at C X 165 1 ls (.ref a :: st) N I L P = sm_at C X 165 4 ls (.int (I a 12) :: st) N I L P := st_gfI b165 dX11_forget_1 rfl rfl h h1
theorem s165_4 : sm_at C X 165 4 [l0, l1] (.int x0 :: st) N I L P = sm_at C X 165 5 [sm_cl l0, some (.int x0)] st N I L P := st_go b165 dX11_forget_4 (by decide) rfl
theorem s165_5 : sm_at C X 165 5 [some (.ref a), l1] st N I L P = sm_at C X 165 6 [some (.ref a), l1] (.ref a :: st) N I L P := st_go b165 dX11_forget_5 (by decide) rfl
theorem s165_6 : sm_at C X 165 6 ls st N I L P = sm_at C X 165 7 ls (.int (nI 0) :: st) N I L P := st_go b165 dX11_forget_6 (by decide) rfl
theorem s165_7 (h : a < N) (h1 : sm_lay a = .inl 11) : sm_at C X 165 7 ls (.int x0 :: .ref a :: st) N I L P = sm_at C X 165 10 ls st N (sm_up I a 12 x0) L P := st_pfI b165 dX11_forget_7 rfl rfl rfl h h1
theorem s165_10 : sm_at C X 165 10 [l0, some (.int x0)] st N I L P = sm_at C X 165 11 [l0, some (.int x0)] (.int x0 :: st) N I L P := st_go b165 dX11_forget_10 (by decide) rfl
theorem s165_11 : sm_at C X 165 11 ls [.int x0] N I L P = some (some (.int x0), N, I, L, P) := st_iret b165 dX11_forget_11 rfl
theorem b166 : sm_b 166 = cX11_placeIn := rfl
theorem s166_0 : sm_at C X 166 0 ls st N I L P = sm_at C X 166 1 ls (.int (-1) :: st) N I L P := st_go b166 dX11_placeIn_0 (by decide) rfl
theorem s166_1 : sm_at C X 166 1 [l0, l1, l2, l3, l4] (.int x0 :: st) N I L P = sm_at C X 166 2 [l0, l1, sm_cl l2, some (.int x0), l4] st N I L P := st_go b166 dX11_placeIn_1 (by decide) rfl
theorem s166_2 : sm_at C X 166 2 ls st N I L P = sm_at C X 166 3 ls (.int (nI 0) :: st) N I L P := st_go b166 dX11_placeIn_2 (by decide) rfl
theorem s166_3 : sm_at C X 166 3 [l0, l1, l2, l3, l4] (.int x0 :: st) N I L P = sm_at C X 166 5 [l0, l1, l2, sm_cl l3, some (.int x0)] st N I L P := st_go b166 dX11_placeIn_3 (by decide) rfl
theorem s166_5 : sm_at C X 166 5 [l0, l1, l2, l3, some (.int x0)] st N I L P = sm_at C X 166 7 [l0, l1, l2, l3, some (.int x0)] (.int x0 :: st) N I L P := st_go b166 dX11_placeIn_5 (by decide) rfl
theorem s166_7 : sm_at C X 166 7 [some (.ref a), l1, l2, l3, l4] st N I L P = sm_at C X 166 8 [some (.ref a), l1, l2, l3, l4] (.ref a :: st) N I L P := st_go b166 dX11_placeIn_7 (by decide) rfl
theorem s166_8 (h : a < N) (h1 : sm_lay a = .inl 11) : sm_at C X 166 8 ls (.ref a :: st) N I L P = sm_at C X 166 11 ls (va_rf (P a 10) :: st) N I L P := st_gfR b166 dX11_placeIn_8 rfl rfl h h1
theorem s166_11 : sm_at C X 166 11 ls st N I L P = sm_at C X 166 13 ls (.int (nI 7) :: st) N I L P := st_go b166 dX11_placeIn_11 (by decide) rfl
theorem s166_13 : sm_at C X 166 13 [l0, some (.int x0), l2, l3, l4] st N I L P = sm_at C X 166 14 [l0, some (.int x0), l2, l3, l4] (.int x0 :: st) N I L P := st_go b166 dX11_placeIn_13 (by decide) rfl
theorem s166_14 : sm_at C X 166 14 ls (.int x0 :: .int x1 :: st) N I L P = sm_at C X 166 15 ls (.int (x1 * x0) :: st) N I L P := st_go b166 dX11_placeIn_14 (by decide) rfl
theorem s166_15 : sm_at C X 166 15 ls st N I L P = sm_at C X 166 16 ls (.int (nI 1) :: st) N I L P := st_go b166 dX11_placeIn_15 (by decide) rfl
theorem s166_16 : sm_at C X 166 16 ls (.int x0 :: .int x1 :: st) N I L P = sm_at C X 166 17 ls (.int (x1 + x0) :: st) N I L P := st_go b166 dX11_placeIn_16 (by decide) rfl
theorem s166_17 (h : a < N) (h1 : k < sm_al a) : sm_at C X 166 17 ls (.int (nI k) :: .ref a :: st) N I L P = sm_at C X 166 18 ls (.int (I a k) :: st) N I L P := st_iald b166 dX11_placeIn_17 h h1
theorem s166_18 : sm_at C X 166 18 ls (.int x0 :: .int x1 :: st) N I L P = if x0 ≤ x1 then sm_at C X 166 52 ls st N I L P else sm_at C X 166 21 ls st N I L P := st_br b166 dX11_placeIn_18 (by decide) rfl
theorem s166_21 : sm_at C X 166 21 [some (.ref a), l1, l2, l3, l4] st N I L P = sm_at C X 166 22 [some (.ref a), l1, l2, l3, l4] (.ref a :: st) N I L P := st_go b166 dX11_placeIn_21 (by decide) rfl
theorem s166_22 (h : a < N) (h1 : sm_lay a = .inl 11) : sm_at C X 166 22 ls (.ref a :: st) N I L P = sm_at C X 166 25 ls (va_rf (P a 10) :: st) N I L P := st_gfR b166 dX11_placeIn_22 rfl rfl h h1
theorem s166_25 : sm_at C X 166 25 ls st N I L P = sm_at C X 166 27 ls (.int (nI 7) :: st) N I L P := st_go b166 dX11_placeIn_25 (by decide) rfl
theorem s166_27 : sm_at C X 166 27 [l0, some (.int x0), l2, l3, l4] st N I L P = sm_at C X 166 28 [l0, some (.int x0), l2, l3, l4] (.int x0 :: st) N I L P := st_go b166 dX11_placeIn_27 (by decide) rfl
theorem s166_28 : sm_at C X 166 28 ls (.int x0 :: .int x1 :: st) N I L P = sm_at C X 166 29 ls (.int (x1 * x0) :: st) N I L P := st_go b166 dX11_placeIn_28 (by decide) rfl
theorem s166_29 : sm_at C X 166 29 ls st N I L P = sm_at C X 166 30 ls (.int (nI 3) :: st) N I L P := st_go b166 dX11_placeIn_29 (by decide) rfl
theorem s166_30 : sm_at C X 166 30 ls (.int x0 :: .int x1 :: st) N I L P = sm_at C X 166 31 ls (.int (x1 + x0) :: st) N I L P := st_go b166 dX11_placeIn_30 (by decide) rfl
theorem s166_31 : sm_at C X 166 31 [l0, l1, l2, l3, some (.int x0)] st N I L P = sm_at C X 166 33 [l0, l1, l2, l3, some (.int x0)] (.int x0 :: st) N I L P := st_go b166 dX11_placeIn_31 (by decide) rfl
theorem s166_33 : sm_at C X 166 33 ls (.int x0 :: .int x1 :: st) N I L P = sm_at C X 166 34 ls (.int (x1 + x0) :: st) N I L P := st_go b166 dX11_placeIn_33 (by decide) rfl
theorem s166_34 (h : a < N) (h1 : k < sm_al a) : sm_at C X 166 34 ls (.int (nI k) :: .ref a :: st) N I L P = sm_at C X 166 35 ls (.int (I a k) :: st) N I L P := st_iald b166 dX11_placeIn_34 h h1
theorem s166_35 : sm_at C X 166 35 [l0, l1, some (.int x0), l3, l4] st N I L P = sm_at C X 166 36 [l0, l1, some (.int x0), l3, l4] (.int x0 :: st) N I L P := st_go b166 dX11_placeIn_35 (by decide) rfl
theorem s166_36 : sm_at C X 166 36 ls (.int x0 :: .int x1 :: st) N I L P = if ¬ x1 = x0 then sm_at C X 166 44 ls st N I L P else sm_at C X 166 39 ls st N I L P := st_br b166 dX11_placeIn_36 (by decide) rfl
theorem s166_39 : sm_at C X 166 39 [l0, l1, l2, l3, some (.int x0)] st N I L P = sm_at C X 166 41 [l0, l1, l2, l3, some (.int x0)] (.int x0 :: st) N I L P := st_go b166 dX11_placeIn_39 (by decide) rfl
theorem s166_41 : sm_at C X 166 41 ls st N I L P = sm_at C X 166 45 ls st N I L P := st_go b166 dX11_placeIn_41 (by decide) rfl
theorem s166_44 : sm_at C X 166 44 [l0, l1, l2, some (.int x0), l4] st N I L P = sm_at C X 166 45 [l0, l1, l2, some (.int x0), l4] (.int x0 :: st) N I L P := st_go b166 dX11_placeIn_44 (by decide) rfl
theorem s166_45 : sm_at C X 166 45 [l0, l1, l2, l3, l4] (.int x0 :: st) N I L P = sm_at C X 166 46 [l0, l1, sm_cl l2, some (.int x0), l4] st N I L P := st_go b166 dX11_placeIn_45 (by decide) rfl
theorem s166_46 : sm_at C X 166 46 [l0, l1, l2, l3, some (.int x0)] st N I L P = sm_at C X 166 49 [l0, l1, l2, sm_cl l3, some (.int (x0 + (nI 1)))] st N I L P := st_go b166 dX11_placeIn_46 (by decide) rfl
theorem s166_49 : sm_at C X 166 49 ls st N I L P = sm_at C X 166 5 ls st N I L P := st_go b166 dX11_placeIn_49 (by decide) rfl
theorem s166_52 : sm_at C X 166 52 [l0, l1, l2, some (.int x0), l4] st N I L P = sm_at C X 166 53 [l0, l1, l2, some (.int x0), l4] (.int x0 :: st) N I L P := st_go b166 dX11_placeIn_52 (by decide) rfl
theorem s166_53 : sm_at C X 166 53 ls [.int x0] N I L P = some (some (.int x0), N, I, L, P) := st_iret b166 dX11_placeIn_53 rfl
theorem b167 : sm_b 167 = cX11_lateBy := rfl
theorem s167_0 : sm_at C X 167 0 [some (.ref a), l1, l2, l3, l4, l5, l6] st N I L P = sm_at C X 167 1 [some (.ref a), l1, l2, l3, l4, l5, l6] (.ref a :: st) N I L P := st_go b167 dX11_lateBy_0 (by decide) rfl
theorem s167_1 (h : a < N) (h1 : sm_lay a = .inl 11) : sm_at C X 167 1 ls (.ref a :: st) N I L P = sm_at C X 167 4 ls (va_rf (P a 11) :: st) N I L P := st_gfR b167 dX11_lateBy_1 rfl rfl h h1
theorem s167_4 : sm_at C X 167 4 [l0, l1, some (.int x0), l3, l4, l5, l6] st N I L P = sm_at C X 167 5 [l0, l1, some (.int x0), l3, l4, l5, l6] (.int x0 :: st) N I L P := st_go b167 dX11_lateBy_4 (by decide) rfl
theorem s167_5 (h : a < N) (h1 : k < sm_al a) : sm_at C X 167 5 ls (.int (nI k) :: .ref a :: st) N I L P = sm_at C X 167 6 ls (.int (I a k) :: st) N I L P := st_iald b167 dX11_lateBy_5 h h1
theorem s167_6 : sm_at C X 167 6 [l0, l1, l2, l3, l4, l5, l6] (.int x0 :: st) N I L P = sm_at C X 167 7 [l0, l1, sm_cl l2, some (.int x0), l4, l5, l6] st N I L P := st_go b167 dX11_lateBy_6 (by decide) rfl
theorem s167_7 : sm_at C X 167 7 [l0, l1, l2, some (.int x0), l4, l5, l6] st N I L P = sm_at C X 167 8 [l0, l1, l2, some (.int x0), l4, l5, l6] (.int x0 :: st) N I L P := st_go b167 dX11_lateBy_7 (by decide) rfl
theorem s167_8 : sm_at C X 167 8 ls st N I L P = sm_at C X 167 9 ls (.int (-1) :: st) N I L P := st_go b167 dX11_lateBy_8 (by decide) rfl
theorem s167_9 : sm_at C X 167 9 ls (.int x0 :: .int x1 :: st) N I L P = if x1 = x0 then sm_at C X 167 27 ls st N I L P else sm_at C X 167 12 ls st N I L P := st_br b167 dX11_lateBy_9 (by decide) rfl
theorem s167_12 : sm_at C X 167 12 [some (.ref a), l1, l2, l3, l4, l5, l6] st N I L P = sm_at C X 167 13 [some (.ref a), l1, l2, l3, l4, l5, l6] (.ref a :: st) N I L P := st_go b167 dX11_lateBy_12 (by decide) rfl
theorem s167_13 (h : a < N) (h1 : sm_lay a = .inl 11) : sm_at C X 167 13 ls (.ref a :: st) N I L P = sm_at C X 167 16 ls (va_rf (P a 11) :: st) N I L P := st_gfR b167 dX11_lateBy_13 rfl rfl h h1
theorem s167_16 : sm_at C X 167 16 [l0, some (.int x0), l2, l3, l4, l5, l6] st N I L P = sm_at C X 167 17 [l0, some (.int x0), l2, l3, l4, l5, l6] (.int x0 :: st) N I L P := st_go b167 dX11_lateBy_16 (by decide) rfl
theorem s167_17 (h : a < N) (h1 : k < sm_al a) : sm_at C X 167 17 ls (.int (nI k) :: .ref a :: st) N I L P = sm_at C X 167 18 ls (.int (I a k) :: st) N I L P := st_iald b167 dX11_lateBy_17 h h1
theorem s167_18 : sm_at C X 167 18 [l0, l1, l2, some (.int x0), l4, l5, l6] st N I L P = sm_at C X 167 19 [l0, l1, l2, some (.int x0), l4, l5, l6] (.int x0 :: st) N I L P := st_go b167 dX11_lateBy_18 (by decide) rfl
theorem s167_19 : sm_at C X 167 19 ls (.int x0 :: .int x1 :: st) N I L P = if ¬ x1 = x0 then sm_at C X 167 27 ls st N I L P else sm_at C X 167 22 ls st N I L P := st_br b167 dX11_lateBy_19 (by decide) rfl
theorem s167_22 : sm_at C X 167 22 [l0, some (.int x0), l2, l3, l4, l5, l6] st N I L P = sm_at C X 167 23 [l0, some (.int x0), l2, l3, l4, l5, l6] (.int x0 :: st) N I L P := st_go b167 dX11_lateBy_22 (by decide) rfl
theorem s167_23 : sm_at C X 167 23 [l0, l1, some (.int x0), l3, l4, l5, l6] st N I L P = sm_at C X 167 24 [l0, l1, some (.int x0), l3, l4, l5, l6] (.int x0 :: st) N I L P := st_go b167 dX11_lateBy_23 (by decide) rfl
theorem s167_24 : sm_at C X 167 24 ls (.int x0 :: .int x1 :: st) N I L P = if ¬ x1 = x0 then sm_at C X 167 29 ls st N I L P else sm_at C X 167 27 ls st N I L P := st_br b167 dX11_lateBy_24 (by decide) rfl
theorem s167_27 : sm_at C X 167 27 ls st N I L P = sm_at C X 167 28 ls (.int (-1) :: st) N I L P := st_go b167 dX11_lateBy_27 (by decide) rfl
theorem s167_28 : sm_at C X 167 28 ls [.int x0] N I L P = some (some (.int x0), N, I, L, P) := st_iret b167 dX11_lateBy_28 rfl
theorem s167_29 : sm_at C X 167 29 [some (.ref a), l1, l2, l3, l4, l5, l6] st N I L P = sm_at C X 167 30 [some (.ref a), l1, l2, l3, l4, l5, l6] (.ref a :: st) N I L P := st_go b167 dX11_lateBy_29 (by decide) rfl
theorem s167_30 (h : a < N) (h1 : sm_lay a = .inl 11) : sm_at C X 167 30 ls (.ref a :: st) N I L P = sm_at C X 167 33 ls (va_rf (P a 10) :: st) N I L P := st_gfR b167 dX11_lateBy_30 rfl rfl h h1
theorem s167_33 : sm_at C X 167 33 ls st N I L P = sm_at C X 167 35 ls (.int (nI 7) :: st) N I L P := st_go b167 dX11_lateBy_33 (by decide) rfl
theorem s167_35 : sm_at C X 167 35 [l0, l1, l2, some (.int x0), l4, l5, l6] st N I L P = sm_at C X 167 36 [l0, l1, l2, some (.int x0), l4, l5, l6] (.int x0 :: st) N I L P := st_go b167 dX11_lateBy_35 (by decide) rfl
theorem s167_36 : sm_at C X 167 36 ls (.int x0 :: .int x1 :: st) N I L P = sm_at C X 167 37 ls (.int (x1 * x0) :: st) N I L P := st_go b167 dX11_lateBy_36 (by decide) rfl
theorem s167_37 : sm_at C X 167 37 ls st N I L P = sm_at C X 167 38 ls (.int (nI 1) :: st) N I L P := st_go b167 dX11_lateBy_37 (by decide) rfl
theorem s167_38 : sm_at C X 167 38 ls (.int x0 :: .int x1 :: st) N I L P = sm_at C X 167 39 ls (.int (x1 + x0) :: st) N I L P := st_go b167 dX11_lateBy_38 (by decide) rfl
theorem s167_39 (h : a < N) (h1 : k < sm_al a) : sm_at C X 167 39 ls (.int (nI k) :: .ref a :: st) N I L P = sm_at C X 167 40 ls (.int (I a k) :: st) N I L P := st_iald b167 dX11_lateBy_39 h h1
theorem s167_40 : sm_at C X 167 40 [l0, l1, l2, l3, l4, l5, l6] (.int x0 :: st) N I L P = sm_at C X 167 42 [l0, l1, l2, sm_cl l3, some (.int x0), l5, l6] st N I L P := st_go b167 dX11_lateBy_40 (by decide) rfl
theorem s167_42 : sm_at C X 167 42 [some (.ref a), l1, l2, l3, l4, l5, l6] st N I L P = sm_at C X 167 43 [some (.ref a), l1, l2, l3, l4, l5, l6] (.ref a :: st) N I L P := st_go b167 dX11_lateBy_42 (by decide) rfl
theorem s167_43 (h : a < N) (h1 : sm_lay a = .inl 11) : sm_at C X 167 43 ls (.ref a :: st) N I L P = sm_at C X 167 46 ls (va_rf (P a 10) :: st) N I L P := st_gfR b167 dX11_lateBy_43 rfl rfl h h1
theorem s167_46 : sm_at C X 167 46 ls st N I L P = sm_at C X 167 48 ls (.int (nI 7) :: st) N I L P := st_go b167 dX11_lateBy_46 (by decide) rfl
theorem s167_48 : sm_at C X 167 48 [l0, l1, l2, some (.int x0), l4, l5, l6] st N I L P = sm_at C X 167 49 [l0, l1, l2, some (.int x0), l4, l5, l6] (.int x0 :: st) N I L P := st_go b167 dX11_lateBy_48 (by decide) rfl
theorem s167_49 : sm_at C X 167 49 ls (.int x0 :: .int x1 :: st) N I L P = sm_at C X 167 50 ls (.int (x1 * x0) :: st) N I L P := st_go b167 dX11_lateBy_49 (by decide) rfl
theorem s167_50 (h : a < N) (h1 : k < sm_al a) : sm_at C X 167 50 ls (.int (nI k) :: .ref a :: st) N I L P = sm_at C X 167 51 ls (.int (I a k) :: st) N I L P := st_iald b167 dX11_lateBy_50 h h1
theorem s167_51 : sm_at C X 167 51 [l0, l1, l2, l3, l4, l5, l6] (.int x0 :: st) N I L P = sm_at C X 167 53 [l0, l1, l2, l3, sm_cl l4, some (.int x0), l6] st N I L P := st_go b167 dX11_lateBy_51 (by decide) rfl
theorem s167_53 : sm_at C X 167 53 [some (.ref a), l1, l2, l3, l4, l5, l6] st N I L P = sm_at C X 167 54 [some (.ref a), l1, l2, l3, l4, l5, l6] (.ref a :: st) N I L P := st_go b167 dX11_lateBy_53 (by decide) rfl
theorem s167_54 : sm_at C X 167 54 [l0, l1, l2, some (.int x0), l4, l5, l6] st N I L P = sm_at C X 167 55 [l0, l1, l2, some (.int x0), l4, l5, l6] (.int x0 :: st) N I L P := st_go b167 dX11_lateBy_54 (by decide) rfl
theorem s167_55 : sm_at C X 167 55 [l0, l1, some (.int x0), l3, l4, l5, l6] st N I L P = sm_at C X 167 56 [l0, l1, some (.int x0), l3, l4, l5, l6] (.int x0 :: st) N I L P := st_go b167 dX11_lateBy_55 (by decide) rfl
theorem s167_56 (h : a < N) (h1 : sm_lay a = .inl 11) : sm_at C X 167 56 ls [w2, w1, .ref a] N I L P = sm_af C X 167 59 ls [] (C 166 [.ref a, w1, w2] N I L P) := st_virt b167 dX11_lateBy_56 (n := 3) (rest := []) rfl rfl rfl rfl rfl rfl rfl h h1
theorem s167_59 : sm_at C X 167 59 [some (.ref a), l1, l2, l3, l4, l5, l6] st N I L P = sm_at C X 167 60 [some (.ref a), l1, l2, l3, l4, l5, l6] (.ref a :: st) N I L P := st_go b167 dX11_lateBy_59 (by decide) rfl
theorem s167_60 : sm_at C X 167 60 [l0, l1, l2, some (.int x0), l4, l5, l6] st N I L P = sm_at C X 167 61 [l0, l1, l2, some (.int x0), l4, l5, l6] (.int x0 :: st) N I L P := st_go b167 dX11_lateBy_60 (by decide) rfl
theorem s167_61 : sm_at C X 167 61 [l0, some (.int x0), l2, l3, l4, l5, l6] st N I L P = sm_at C X 167 62 [l0, some (.int x0), l2, l3, l4, l5, l6] (.int x0 :: st) N I L P := st_go b167 dX11_lateBy_61 (by decide) rfl
theorem s167_62 (h : a < N) (h1 : sm_lay a = .inl 11) : sm_at C X 167 62 ls [w2, w1, .ref a, v0] N I L P = sm_af C X 167 65 ls [v0] (C 166 [.ref a, w1, w2] N I L P) := st_virt b167 dX11_lateBy_62 (n := 3) (rest := [v0]) rfl rfl rfl rfl rfl rfl rfl h h1
theorem s167_65 : sm_at C X 167 65 ls (.int x0 :: .int x1 :: st) N I L P = sm_at C X 167 66 ls (.int (x1 - x0) :: st) N I L P := st_go b167 dX11_lateBy_65 (by decide) rfl
theorem s167_66 : sm_at C X 167 66 [l0, l1, l2, l3, some (.int x0), l5, l6] st N I L P = sm_at C X 167 68 [l0, l1, l2, l3, some (.int x0), l5, l6] (.int x0 :: st) N I L P := st_go b167 dX11_lateBy_66 (by decide) rfl
theorem s167_68 : sm_at C X 167 68 ls (.int x0 :: .int x1 :: st) N I L P = sm_at C X 167 69 ls (.int (x1 + x0) :: st) N I L P := st_go b167 dX11_lateBy_68 (by decide) rfl
theorem s167_69 : sm_at C X 167 69 [l0, l1, l2, l3, some (.int x0), l5, l6] st N I L P = sm_at C X 167 71 [l0, l1, l2, l3, some (.int x0), l5, l6] (.int x0 :: st) N I L P := st_go b167 dX11_lateBy_69 (by decide) rfl
theorem s167_71 (h : ¬ x0 = 0) : sm_at C X 167 71 ls (.int x0 :: .int x1 :: st) N I L P = sm_at C X 167 72 ls (.int (x1 - x1 / x0 * x0) :: st) N I L P := st_irem b167 dX11_lateBy_71 h
theorem s167_72 : sm_at C X 167 72 [l0, l1, l2, l3, l4, l5, l6] (.int x0 :: st) N I L P = sm_at C X 167 74 [l0, l1, l2, l3, l4, sm_cl l5, some (.int x0)] st N I L P := st_go b167 dX11_lateBy_72 (by decide) rfl
theorem s167_74 : sm_at C X 167 74 [l0, l1, l2, l3, l4, some (.int x0), l6] st N I L P = sm_at C X 167 76 [l0, l1, l2, l3, l4, some (.int x0), l6] (.int x0 :: st) N I L P := st_go b167 dX11_lateBy_74 (by decide) rfl
theorem s167_76 : sm_at C X 167 76 ls st N I L P = sm_at C X 167 77 ls (.int (nI 1) :: st) N I L P := st_go b167 dX11_lateBy_76 (by decide) rfl
theorem s167_77 : sm_at C X 167 77 ls (.int x0 :: .int x1 :: st) N I L P = if ¬ x1 = x0 then sm_at C X 167 85 ls st N I L P else sm_at C X 167 80 ls st N I L P := st_br b167 dX11_lateBy_77 (by decide) rfl
theorem s167_80 : sm_at C X 167 80 [l0, l1, l2, l3, l4, l5, some (.int x0)] st N I L P = sm_at C X 167 82 [l0, l1, l2, l3, l4, l5, some (.int x0)] (.int x0 :: st) N I L P := st_go b167 dX11_lateBy_80 (by decide) rfl
theorem s167_82 : sm_at C X 167 82 ls st N I L P = sm_at C X 167 106 ls st N I L P := st_go b167 dX11_lateBy_82 (by decide) rfl
theorem s167_85 : sm_at C X 167 85 [l0, l1, l2, l3, l4, some (.int x0), l6] st N I L P = sm_at C X 167 87 [l0, l1, l2, l3, l4, some (.int x0), l6] (.int x0 :: st) N I L P := st_go b167 dX11_lateBy_85 (by decide) rfl
theorem s167_87 : sm_at C X 167 87 ls st N I L P = sm_at C X 167 88 ls (.int (nI 3) :: st) N I L P := st_go b167 dX11_lateBy_87 (by decide) rfl
theorem s167_88 : sm_at C X 167 88 ls (.int x0 :: .int x1 :: st) N I L P = if ¬ x1 = x0 then sm_at C X 167 105 ls st N I L P else sm_at C X 167 91 ls st N I L P := st_br b167 dX11_lateBy_88 (by decide) rfl
theorem s167_91 : sm_at C X 167 91 [some (.ref a), l1, l2, l3, l4, l5, l6] st N I L P = sm_at C X 167 92 [some (.ref a), l1, l2, l3, l4, l5, l6] (.ref a :: st) N I L P := st_go b167 dX11_lateBy_91 (by decide) rfl
theorem s167_92 (h : a < N) (h1 : sm_lay a = .inl 11) : sm_at C X 167 92 ls (.ref a :: st) N I L P = sm_at C X 167 95 ls (va_rf (P a 10) :: st) N I L P := st_gfR b167 dX11_lateBy_92 rfl rfl h h1
theorem s167_95 : sm_at C X 167 95 ls st N I L P = sm_at C X 167 97 ls (.int (nI 7) :: st) N I L P := st_go b167 dX11_lateBy_95 (by decide) rfl
theorem s167_97 : sm_at C X 167 97 [l0, l1, l2, some (.int x0), l4, l5, l6] st N I L P = sm_at C X 167 98 [l0, l1, l2, some (.int x0), l4, l5, l6] (.int x0 :: st) N I L P := st_go b167 dX11_lateBy_97 (by decide) rfl
theorem s167_98 : sm_at C X 167 98 ls (.int x0 :: .int x1 :: st) N I L P = sm_at C X 167 99 ls (.int (x1 * x0) :: st) N I L P := st_go b167 dX11_lateBy_98 (by decide) rfl
theorem s167_99 : sm_at C X 167 99 ls st N I L P = sm_at C X 167 100 ls (.int (nI 2) :: st) N I L P := st_go b167 dX11_lateBy_99 (by decide) rfl
theorem s167_100 : sm_at C X 167 100 ls (.int x0 :: .int x1 :: st) N I L P = sm_at C X 167 101 ls (.int (x1 + x0) :: st) N I L P := st_go b167 dX11_lateBy_100 (by decide) rfl
theorem s167_101 (h : a < N) (h1 : k < sm_al a) : sm_at C X 167 101 ls (.int (nI k) :: .ref a :: st) N I L P = sm_at C X 167 102 ls (.int (I a k) :: st) N I L P := st_iald b167 dX11_lateBy_101 h h1
theorem s167_102 : sm_at C X 167 102 ls st N I L P = sm_at C X 167 106 ls st N I L P := st_go b167 dX11_lateBy_102 (by decide) rfl
theorem s167_105 : sm_at C X 167 105 ls st N I L P = sm_at C X 167 106 ls (.int (nI 0) :: st) N I L P := st_go b167 dX11_lateBy_105 (by decide) rfl
theorem s167_106 : sm_at C X 167 106 ls [.int x0] N I L P = some (some (.int x0), N, I, L, P) := st_iret b167 dX11_lateBy_106 rfl
theorem b168 : sm_b 168 = cX11_feltOf := rfl
theorem s168_0 : sm_at C X 168 0 ls st N I L P = sm_at C X 168 1 ls (.int (nI 0) :: st) N I L P := st_go b168 dX11_feltOf_0 (by decide) rfl
theorem s168_1 : sm_at C X 168 1 [l0, l1, l2, l3, l4, l5, l6, l7] (.int x0 :: st) N I L P = sm_at C X 168 3 [l0, l1, l2, l3, sm_cl l4, some (.int x0), l6, l7] st N I L P := st_go b168 dX11_feltOf_1 (by decide) rfl
theorem s168_3 : sm_at C X 168 3 ls st N I L P = sm_at C X 168 4 ls (.int (nI 0) :: st) N I L P := st_go b168 dX11_feltOf_3 (by decide) rfl
theorem s168_4 : sm_at C X 168 4 [l0, l1, l2, l3, l4, l5, l6, l7] (.int x0 :: st) N I L P = sm_at C X 168 6 [l0, l1, l2, l3, l4, sm_cl l5, some (.int x0), l7] st N I L P := st_go b168 dX11_feltOf_4 (by decide) rfl
theorem s168_6 : sm_at C X 168 6 [l0, l1, l2, l3, l4, l5, some (.int x0), l7] st N I L P = sm_at C X 168 8 [l0, l1, l2, l3, l4, l5, some (.int x0), l7] (.int x0 :: st) N I L P := st_go b168 dX11_feltOf_6 (by decide) rfl
theorem s168_8 : sm_at C X 168 8 [l0, l1, l2, l3, some (.int x0), l5, l6, l7] st N I L P = sm_at C X 168 10 [l0, l1, l2, l3, some (.int x0), l5, l6, l7] (.int x0 :: st) N I L P := st_go b168 dX11_feltOf_8 (by decide) rfl
theorem s168_10 : sm_at C X 168 10 ls (.int x0 :: .int x1 :: st) N I L P = if x0 ≤ x1 then sm_at C X 168 76 ls st N I L P else sm_at C X 168 13 ls st N I L P := st_br b168 dX11_feltOf_10 (by decide) rfl
theorem s168_13 : sm_at C X 168 13 [some (.ref a), l1, l2, l3, l4, l5, l6, l7] st N I L P = sm_at C X 168 14 [some (.ref a), l1, l2, l3, l4, l5, l6, l7] (.ref a :: st) N I L P := st_go b168 dX11_feltOf_13 (by decide) rfl
theorem s168_14 : sm_at C X 168 14 [some (.ref a), l1, l2, l3, l4, l5, l6, l7] st N I L P = sm_at C X 168 15 [some (.ref a), l1, l2, l3, l4, l5, l6, l7] (.ref a :: st) N I L P := st_go b168 dX11_feltOf_14 (by decide) rfl
theorem s168_15 (h : a < N) (h1 : sm_lay a = .inl 11) : sm_at C X 168 15 ls (.ref a :: st) N I L P = sm_at C X 168 18 ls (va_rf (P a 13) :: st) N I L P := st_gfR b168 dX11_feltOf_15 rfl rfl h h1
theorem s168_18 : sm_at C X 168 18 ls st N I L P = sm_at C X 168 19 ls (.int (nI 2) :: st) N I L P := st_go b168 dX11_feltOf_18 (by decide) rfl
theorem s168_19 : sm_at C X 168 19 [l0, l1, l2, l3, l4, l5, some (.int x0), l7] st N I L P = sm_at C X 168 21 [l0, l1, l2, l3, l4, l5, some (.int x0), l7] (.int x0 :: st) N I L P := st_go b168 dX11_feltOf_19 (by decide) rfl
theorem s168_21 : sm_at C X 168 21 ls (.int x0 :: .int x1 :: st) N I L P = sm_at C X 168 22 ls (.int (x1 * x0) :: st) N I L P := st_go b168 dX11_feltOf_21 (by decide) rfl
theorem s168_22 (h : a < N) (h1 : k < sm_al a) : sm_at C X 168 22 ls (.int (nI k) :: .ref a :: st) N I L P = sm_at C X 168 23 ls (.int (I a k) :: st) N I L P := st_iald b168 dX11_feltOf_22 h h1
theorem s168_23 : sm_at C X 168 23 [l0, some (.int x0), l2, l3, l4, l5, l6, l7] st N I L P = sm_at C X 168 24 [l0, some (.int x0), l2, l3, l4, l5, l6, l7] (.int x0 :: st) N I L P := st_go b168 dX11_feltOf_23 (by decide) rfl
theorem s168_24 (h : a < N) (h1 : sm_lay a = .inl 11) : sm_at C X 168 24 ls [w2, w1, .ref a] N I L P = sm_af C X 168 27 ls [] (C 167 [.ref a, w1, w2] N I L P) := st_virt b168 dX11_feltOf_24 (n := 3) (rest := []) rfl rfl rfl rfl rfl rfl rfl h h1
theorem s168_27 : sm_at C X 168 27 [l0, l1, l2, l3, l4, l5, l6, l7] (.int x0 :: st) N I L P = sm_at C X 168 29 [l0, l1, l2, l3, l4, l5, sm_cl l6, some (.int x0)] st N I L P := st_go b168 dX11_feltOf_27 (by decide) rfl
theorem s168_29 : sm_at C X 168 29 [l0, l1, l2, l3, l4, some (.int x0), l6, l7] st N I L P = sm_at C X 168 31 [l0, l1, l2, l3, l4, some (.int x0), l6, l7] (.int x0 :: st) N I L P := st_go b168 dX11_feltOf_29 (by decide) rfl
theorem s168_31 : sm_at C X 168 31 [l0, l1, l2, l3, l4, l5, l6, some (.int x0)] st N I L P = sm_at C X 168 33 [l0, l1, l2, l3, l4, l5, l6, some (.int x0)] (.int x0 :: st) N I L P := st_go b168 dX11_feltOf_31 (by decide) rfl
theorem s168_33 : sm_at C X 168 33 ls st N I L P = sm_at C X 168 34 ls (.int (-1) :: st) N I L P := st_go b168 dX11_feltOf_33 (by decide) rfl
theorem s168_34 : sm_at C X 168 34 ls (.int x0 :: .int x1 :: st) N I L P = if x1 = x0 then sm_at C X 168 66 ls st N I L P else sm_at C X 168 37 ls st N I L P := st_br b168 dX11_feltOf_34 (by decide) rfl
theorem s168_37 : sm_at C X 168 37 [some (.ref a), l1, l2, l3, l4, l5, l6, l7] st N I L P = sm_at C X 168 38 [some (.ref a), l1, l2, l3, l4, l5, l6, l7] (.ref a :: st) N I L P := st_go b168 dX11_feltOf_37 (by decide) rfl
theorem s168_38 (h : a < N) (h1 : sm_lay a = .inl 11) : sm_at C X 168 38 ls (.ref a :: st) N I L P = sm_at C X 168 41 ls (va_rf (P a 13) :: st) N I L P := st_gfR b168 dX11_feltOf_38 rfl rfl h h1
theorem s168_41 : sm_at C X 168 41 ls st N I L P = sm_at C X 168 42 ls (.int (nI 2) :: st) N I L P := st_go b168 dX11_feltOf_41 (by decide) rfl
theorem s168_42 : sm_at C X 168 42 [l0, l1, l2, l3, l4, l5, some (.int x0), l7] st N I L P = sm_at C X 168 44 [l0, l1, l2, l3, l4, l5, some (.int x0), l7] (.int x0 :: st) N I L P := st_go b168 dX11_feltOf_42 (by decide) rfl
theorem s168_44 : sm_at C X 168 44 ls (.int x0 :: .int x1 :: st) N I L P = sm_at C X 168 45 ls (.int (x1 * x0) :: st) N I L P := st_go b168 dX11_feltOf_44 (by decide) rfl
theorem s168_45 : sm_at C X 168 45 ls st N I L P = sm_at C X 168 46 ls (.int (nI 1) :: st) N I L P := st_go b168 dX11_feltOf_45 (by decide) rfl
theorem s168_46 : sm_at C X 168 46 ls (.int x0 :: .int x1 :: st) N I L P = sm_at C X 168 47 ls (.int (x1 + x0) :: st) N I L P := st_go b168 dX11_feltOf_46 (by decide) rfl
theorem s168_47 (h : a < N) (h1 : k < sm_al a) : sm_at C X 168 47 ls (.int (nI k) :: .ref a :: st) N I L P = sm_at C X 168 48 ls (.int (I a k) :: st) N I L P := st_iald b168 dX11_feltOf_47 h h1
theorem s168_48 : sm_at C X 168 48 [l0, l1, l2, l3, l4, l5, l6, some (.int x0)] st N I L P = sm_at C X 168 50 [l0, l1, l2, l3, l4, l5, l6, some (.int x0)] (.int x0 :: st) N I L P := st_go b168 dX11_feltOf_48 (by decide) rfl
theorem s168_50 : sm_at C X 168 50 ls (.int x0 :: .int x1 :: st) N I L P = sm_at C X 168 51 ls (.int (x1 + x0) :: st) N I L P := st_go b168 dX11_feltOf_50 (by decide) rfl
theorem s168_51 : sm_at C X 168 51 ls (.int x0 :: st) N I L P = sm_at C X 168 52 ls (.long x0.toInt64 :: st) N I L P := st_go b168 dX11_feltOf_51 (by decide) rfl
theorem s168_52 : sm_at C X 168 52 [l0, l1, some (.int x0), l3, l4, l5, l6, l7] st N I L P = sm_at C X 168 53 [l0, l1, some (.int x0), l3, l4, l5, l6, l7] (.int x0 :: st) N I L P := st_go b168 dX11_feltOf_52 (by decide) rfl
theorem s168_53 : sm_at C X 168 53 ls (.int x0 :: st) N I L P = sm_at C X 168 54 ls (.long x0.toInt64 :: st) N I L P := st_go b168 dX11_feltOf_53 (by decide) rfl
theorem s168_54 : sm_at C X 168 54 [l0, l1, l2, some (.int x0), l4, l5, l6, l7] st N I L P = sm_at C X 168 55 [l0, l1, l2, some (.int x0), l4, l5, l6, l7] (.int x0 :: st) N I L P := st_go b168 dX11_feltOf_54 (by decide) rfl
theorem s168_55 : sm_at C X 168 55 ls (.int x0 :: st) N I L P = sm_at C X 168 56 ls (.long x0.toInt64 :: st) N I L P := st_go b168 dX11_feltOf_55 (by decide) rfl
theorem s168_56 : sm_at C X 168 56 ls [w2, w1, w0, v0] N I L P = sm_af C X 168 59 ls [v0] (C 146 [w0, w1, w2] N I L P) := st_stat b168 dX11_feltOf_56 (n := 3) (rest := [v0]) rfl rfl rfl rfl rfl rfl
theorem s168_59 : sm_at C X 168 59 ls (.int x0 :: st) N I L P = if x0 = 0 then sm_at C X 168 66 ls st N I L P else sm_at C X 168 62 ls st N I L P := st_br b168 dX11_feltOf_59 (by decide) rfl
theorem s168_62 : sm_at C X 168 62 ls st N I L P = sm_at C X 168 63 ls (.int (nI 1) :: st) N I L P := st_go b168 dX11_feltOf_62 (by decide) rfl
theorem s168_63 : sm_at C X 168 63 ls st N I L P = sm_at C X 168 67 ls st N I L P := st_go b168 dX11_feltOf_63 (by decide) rfl
theorem s168_66 : sm_at C X 168 66 ls st N I L P = sm_at C X 168 67 ls (.int (nI 0) :: st) N I L P := st_go b168 dX11_feltOf_66 (by decide) rfl
theorem s168_67 : sm_at C X 168 67 ls (.int x0 :: .int x1 :: st) N I L P = sm_at C X 168 68 ls (.int (x1 + x0) :: st) N I L P := st_go b168 dX11_feltOf_67 (by decide) rfl
theorem s168_68 : sm_at C X 168 68 [l0, l1, l2, l3, l4, l5, l6, l7] (.int x0 :: st) N I L P = sm_at C X 168 70 [l0, l1, l2, l3, sm_cl l4, some (.int x0), l6, l7] st N I L P := st_go b168 dX11_feltOf_68 (by decide) rfl
theorem s168_70 : sm_at C X 168 70 [l0, l1, l2, l3, l4, l5, some (.int x0), l7] st N I L P = sm_at C X 168 73 [l0, l1, l2, l3, l4, sm_cl l5, some (.int (x0 + (nI 1))), l7] st N I L P := st_go b168 dX11_feltOf_70 (by decide) rfl
theorem s168_73 : sm_at C X 168 73 ls st N I L P = sm_at C X 168 6 ls st N I L P := st_go b168 dX11_feltOf_73 (by decide) rfl
theorem s168_76 : sm_at C X 168 76 [l0, l1, l2, l3, l4, some (.int x0), l6, l7] st N I L P = sm_at C X 168 78 [l0, l1, l2, l3, l4, some (.int x0), l6, l7] (.int x0 :: st) N I L P := st_go b168 dX11_feltOf_76 (by decide) rfl
theorem s168_78 : sm_at C X 168 78 ls [.int x0] N I L P = some (some (.int x0), N, I, L, P) := st_iret b168 dX11_feltOf_78 rfl
theorem b169 : sm_b 169 = cX11_areMinutes := rfl
theorem s169_0 : sm_at C X 169 0 [some (.int x0), l1] st N I L P = sm_at C X 169 1 [some (.int x0), l1] (.int x0 :: st) N I L P := st_go b169 dX11_areMinutes_0 (by decide) rfl
theorem s169_1 : sm_at C X 169 1 ls (.int x0 :: st) N I L P = sm_at C X 169 2 ls (.long x0.toInt64 :: st) N I L P := st_go b169 dX11_areMinutes_1 (by decide) rfl
theorem s169_2 : sm_at C X 169 2 ls st N I L P = sm_at C X 169 3 ls (.long (lN 0) :: st) N I L P := st_go b169 dX11_areMinutes_2 (by decide) rfl
theorem s169_3 : sm_at C X 169 3 ls st N I L P = sm_at C X 169 6 ls (.long (lN 1999) :: st) N I L P := st_go b169 dX11_areMinutes_3 (by decide) rfl
theorem s169_6 : sm_at C X 169 6 ls [w2, w1, w0] N I L P = sm_af C X 169 9 ls [] (C 146 [w0, w1, w2] N I L P) := st_stat b169 dX11_areMinutes_6 (n := 3) (rest := []) rfl rfl rfl rfl rfl rfl
theorem s169_9 : sm_at C X 169 9 ls (.int x0 :: st) N I L P = if x0 = 0 then sm_at C X 169 29 ls st N I L P else sm_at C X 169 12 ls st N I L P := st_br b169 dX11_areMinutes_9 (by decide) rfl
theorem s169_12 : sm_at C X 169 12 [l0, some (.int x0)] st N I L P = sm_at C X 169 13 [l0, some (.int x0)] (.int x0 :: st) N I L P := st_go b169 dX11_areMinutes_12 (by decide) rfl
theorem s169_13 : sm_at C X 169 13 ls (.int x0 :: st) N I L P = sm_at C X 169 14 ls (.long x0.toInt64 :: st) N I L P := st_go b169 dX11_areMinutes_13 (by decide) rfl
theorem s169_14 : sm_at C X 169 14 [some (.int x0), l1] st N I L P = sm_at C X 169 15 [some (.int x0), l1] (.int x0 :: st) N I L P := st_go b169 dX11_areMinutes_14 (by decide) rfl
theorem s169_15 : sm_at C X 169 15 ls (.int x0 :: st) N I L P = sm_at C X 169 16 ls (.long x0.toInt64 :: st) N I L P := st_go b169 dX11_areMinutes_15 (by decide) rfl
theorem s169_16 : sm_at C X 169 16 ls st N I L P = sm_at C X 169 19 ls (.long (lN 1999) :: st) N I L P := st_go b169 dX11_areMinutes_16 (by decide) rfl
theorem s169_19 : sm_at C X 169 19 ls [w2, w1, w0] N I L P = sm_af C X 169 22 ls [] (C 146 [w0, w1, w2] N I L P) := st_stat b169 dX11_areMinutes_19 (n := 3) (rest := []) rfl rfl rfl rfl rfl rfl
theorem s169_22 : sm_at C X 169 22 ls (.int x0 :: st) N I L P = if x0 = 0 then sm_at C X 169 29 ls st N I L P else sm_at C X 169 25 ls st N I L P := st_br b169 dX11_areMinutes_22 (by decide) rfl
theorem s169_25 : sm_at C X 169 25 ls st N I L P = sm_at C X 169 26 ls (.int (nI 1) :: st) N I L P := st_go b169 dX11_areMinutes_25 (by decide) rfl
theorem s169_26 : sm_at C X 169 26 ls st N I L P = sm_at C X 169 30 ls st N I L P := st_go b169 dX11_areMinutes_26 (by decide) rfl
theorem s169_29 : sm_at C X 169 29 ls st N I L P = sm_at C X 169 30 ls (.int (nI 0) :: st) N I L P := st_go b169 dX11_areMinutes_29 (by decide) rfl
theorem s169_30 (h : x0 = 0 ∨ x0 = 1) : sm_at C X 169 30 ls [.int x0] N I L P = some (some (.int x0), N, I, L, P) := st_zret b169 dX11_areMinutes_30 rfl h
theorem b170 : sm_b 170 = cX11_felt := rfl
theorem s170_0 : sm_at C X 170 0 [l0, some (.int x0), l2, l3] st N I L P = sm_at C X 170 1 [l0, some (.int x0), l2, l3] (.int x0 :: st) N I L P := st_go b170 dX11_felt_0 (by decide) rfl
theorem s170_1 : sm_at C X 170 1 ls [w0] N I L P = sm_af C X 170 4 ls [] (C 148 [w0] N I L P) := st_stat b170 dX11_felt_1 (n := 1) (rest := []) rfl rfl rfl rfl rfl rfl
theorem s170_4 : sm_at C X 170 4 ls (.int x0 :: st) N I L P = if ¬ x0 = 0 then sm_at C X 170 10 ls st N I L P else sm_at C X 170 7 ls st N I L P := st_br b170 dX11_felt_4 (by decide) rfl
theorem s170_7 : sm_at C X 170 7 ls st N I L P = sm_at C X 170 9 ls (.int (-101) :: st) N I L P := st_go b170 dX11_felt_7 (by decide) rfl
theorem s170_9 : sm_at C X 170 9 ls [.int x0] N I L P = some (some (.int x0), N, I, L, P) := st_iret b170 dX11_felt_9 rfl
theorem s170_10 : sm_at C X 170 10 [l0, l1, some (.int x0), l3] st N I L P = sm_at C X 170 11 [l0, l1, some (.int x0), l3] (.int x0 :: st) N I L P := st_go b170 dX11_felt_10 (by decide) rfl
theorem s170_11 : sm_at C X 170 11 [l0, l1, l2, some (.int x0)] st N I L P = sm_at C X 170 12 [l0, l1, l2, some (.int x0)] (.int x0 :: st) N I L P := st_go b170 dX11_felt_11 (by decide) rfl
theorem s170_12 : sm_at C X 170 12 ls [w1, w0] N I L P = sm_af C X 170 15 ls [] (C 169 [w0, w1] N I L P) := st_stat b170 dX11_felt_12 (n := 2) (rest := []) rfl rfl rfl rfl rfl rfl
theorem s170_15 : sm_at C X 170 15 ls (.int x0 :: st) N I L P = if x0 = 0 then sm_at C X 170 32 ls st N I L P else sm_at C X 170 18 ls st N I L P := st_br b170 dX11_felt_15 (by decide) rfl
theorem s170_18 : sm_at C X 170 18 [some (.ref a), l1, l2, l3] st N I L P = sm_at C X 170 19 [some (.ref a), l1, l2, l3] (.ref a :: st) N I L P := st_go b170 dX11_felt_18 (by decide) rfl
theorem s170_19 : sm_at C X 170 19 [l0, some (.int x0), l2, l3] st N I L P = sm_at C X 170 20 [l0, some (.int x0), l2, l3] (.int x0 :: st) N I L P := st_go b170 dX11_felt_19 (by decide) rfl
theorem s170_20 : sm_at C X 170 20 [l0, l1, some (.int x0), l3] st N I L P = sm_at C X 170 21 [l0, l1, some (.int x0), l3] (.int x0 :: st) N I L P := st_go b170 dX11_felt_20 (by decide) rfl
theorem s170_21 : sm_at C X 170 21 [l0, l1, l2, some (.int x0)] st N I L P = sm_at C X 170 22 [l0, l1, l2, some (.int x0)] (.int x0 :: st) N I L P := st_go b170 dX11_felt_21 (by decide) rfl
theorem s170_22 : sm_at C X 170 22 [some (.ref a), l1, l2, l3] st N I L P = sm_at C X 170 23 [some (.ref a), l1, l2, l3] (.ref a :: st) N I L P := st_go b170 dX11_felt_22 (by decide) rfl
theorem s170_23 (h : a < N) (h1 : sm_lay a = .inl 11) : sm_at C X 170 23 ls (.ref a :: st) N I L P = sm_at C X 170 26 ls (.int (I a 12) :: st) N I L P := st_gfI b170 dX11_felt_23 rfl rfl h h1
theorem s170_26 (h : a < N) (h1 : sm_lay a = .inl 11) : sm_at C X 170 26 ls [w4, w3, w2, w1, .ref a] N I L P = sm_af C X 170 29 ls [] (C 168 [.ref a, w1, w2, w3, w4] N I L P) := st_virt b170 dX11_felt_26 (n := 5) (rest := []) rfl rfl rfl rfl rfl rfl rfl h h1
theorem s170_29 : sm_at C X 170 29 ls st N I L P = sm_at C X 170 34 ls st N I L P := st_go b170 dX11_felt_29 (by decide) rfl
theorem s170_32 : sm_at C X 170 32 ls st N I L P = sm_at C X 170 34 ls (.int (-102) :: st) N I L P := st_go b170 dX11_felt_32 (by decide) rfl
theorem s170_34 : sm_at C X 170 34 ls [.int x0] N I L P = some (some (.int x0), N, I, L, P) := st_iret b170 dX11_felt_34 rfl
theorem b171 : sm_b 171 = cX11_term := rfl
theorem s171_0 : sm_at C X 171 0 [some (.long z0), l1, l2, l3, l4, l5, l6, l7, l8, l9, l10] st N I L P = sm_at C X 171 1 [some (.long z0), l1, l2, l3, l4, l5, l6, l7, l8, l9, l10] (.long z0 :: st) N I L P := st_go b171 dX11_term_0 (by decide) rfl
theorem s171_1 : sm_at C X 171 1 [l0, l1, l2, l3, l4, l5, l6, l7, l8, l9, l10] (.long z0 :: st) N I L P = sm_at C X 171 3 [l0, l1, l2, l3, sm_cl l4, some (.long z0), none, l7, l8, l9, l10] st N I L P := st_go b171 dX11_term_1 (by decide) rfl
theorem s171_3 : sm_at C X 171 3 [l0, l1, some (.long z0), l3, l4, l5, l6, l7, l8, l9, l10] st N I L P = sm_at C X 171 4 [l0, l1, some (.long z0), l3, l4, l5, l6, l7, l8, l9, l10] (.long z0 :: st) N I L P := st_go b171 dX11_term_3 (by decide) rfl
theorem s171_4 : sm_at C X 171 4 [l0, l1, l2, l3, l4, l5, l6, l7, l8, l9, l10] (.long z0 :: st) N I L P = sm_at C X 171 6 [l0, l1, l2, l3, l4, l5, sm_cl l6, some (.long z0), none, l9, l10] st N I L P := st_go b171 dX11_term_4 (by decide) rfl
theorem s171_6 : sm_at C X 171 6 [l0, l1, l2, l3, l4, some (.long z0), l6, l7, l8, l9, l10] st N I L P = sm_at C X 171 8 [l0, l1, l2, l3, l4, some (.long z0), l6, l7, l8, l9, l10] (.long z0 :: st) N I L P := st_go b171 dX11_term_6 (by decide) rfl
theorem s171_8 : sm_at C X 171 8 ls st N I L P = sm_at C X 171 9 ls (.long (lN 0) :: st) N I L P := st_go b171 dX11_term_8 (by decide) rfl
theorem s171_9 : sm_at C X 171 9 ls (.long z0 :: .long z1 :: st) N I L P = sm_at C X 171 10 ls (.int (lg_cmp z1 z0) :: st) N I L P := st_go b171 dX11_term_9 (by decide) rfl
theorem s171_10 : sm_at C X 171 10 ls (.int x0 :: st) N I L P = if x0 = 0 then sm_at C X 171 31 ls st N I L P else sm_at C X 171 13 ls st N I L P := st_br b171 dX11_term_10 (by decide) rfl
theorem s171_13 : sm_at C X 171 13 [l0, l1, l2, l3, l4, l5, l6, some (.long z0), l8, l9, l10] st N I L P = sm_at C X 171 15 [l0, l1, l2, l3, l4, l5, l6, some (.long z0), l8, l9, l10] (.long z0 :: st) N I L P := st_go b171 dX11_term_13 (by decide) rfl
theorem s171_15 : sm_at C X 171 15 [l0, l1, l2, l3, l4, some (.long z0), l6, l7, l8, l9, l10] st N I L P = sm_at C X 171 17 [l0, l1, l2, l3, l4, some (.long z0), l6, l7, l8, l9, l10] (.long z0 :: st) N I L P := st_go b171 dX11_term_15 (by decide) rfl
theorem s171_17 (h : ¬ z0 = 0) : sm_at C X 171 17 ls (.long z0 :: .long z1 :: st) N I L P = sm_at C X 171 18 ls (.long (z1 - z1 / z0 * z0) :: st) N I L P := st_lrem b171 dX11_term_17 h
theorem s171_18 : sm_at C X 171 18 [l0, l1, l2, l3, l4, l5, l6, l7, l8, l9, l10] (.long z0 :: st) N I L P = sm_at C X 171 20 [l0, l1, l2, l3, l4, l5, l6, l7, sm_cl l8, some (.long z0), none] st N I L P := st_go b171 dX11_term_18 (by decide) rfl
theorem s171_20 : sm_at C X 171 20 [l0, l1, l2, l3, l4, some (.long z0), l6, l7, l8, l9, l10] st N I L P = sm_at C X 171 22 [l0, l1, l2, l3, l4, some (.long z0), l6, l7, l8, l9, l10] (.long z0 :: st) N I L P := st_go b171 dX11_term_20 (by decide) rfl
theorem s171_22 : sm_at C X 171 22 [l0, l1, l2, l3, l4, l5, l6, l7, l8, l9, l10] (.long z0 :: st) N I L P = sm_at C X 171 24 [l0, l1, l2, l3, l4, l5, sm_cl l6, some (.long z0), none, l9, l10] st N I L P := st_go b171 dX11_term_22 (by decide) rfl
theorem s171_24 : sm_at C X 171 24 [l0, l1, l2, l3, l4, l5, l6, l7, l8, some (.long z0), l10] st N I L P = sm_at C X 171 26 [l0, l1, l2, l3, l4, l5, l6, l7, l8, some (.long z0), l10] (.long z0 :: st) N I L P := st_go b171 dX11_term_24 (by decide) rfl
theorem s171_26 : sm_at C X 171 26 [l0, l1, l2, l3, l4, l5, l6, l7, l8, l9, l10] (.long z0 :: st) N I L P = sm_at C X 171 28 [l0, l1, l2, l3, sm_cl l4, some (.long z0), none, l7, l8, l9, l10] st N I L P := st_go b171 dX11_term_26 (by decide) rfl
theorem s171_28 : sm_at C X 171 28 ls st N I L P = sm_at C X 171 6 ls st N I L P := st_go b171 dX11_term_28 (by decide) rfl
theorem s171_31 : sm_at C X 171 31 [l0, l1, l2, l3, some (.int x0), l5, l6, l7, l8, l9, l10] st N I L P = sm_at C X 171 33 [l0, l1, l2, l3, some (.int x0), l5, l6, l7, l8, l9, l10] (.int x0 :: st) N I L P := st_go b171 dX11_term_31 (by decide) rfl
theorem s171_33 : sm_at C X 171 33 ls (.int x0 :: st) N I L P = if ¬ x0 = 0 then sm_at C X 171 43 ls st N I L P else sm_at C X 171 36 ls st N I L P := st_br b171 dX11_term_33 (by decide) rfl
theorem s171_36 : sm_at C X 171 36 [some (.long z0), l1, l2, l3, l4, l5, l6, l7, l8, l9, l10] st N I L P = sm_at C X 171 37 [some (.long z0), l1, l2, l3, l4, l5, l6, l7, l8, l9, l10] (.long z0 :: st) N I L P := st_go b171 dX11_term_36 (by decide) rfl
theorem s171_37 : sm_at C X 171 37 [l0, l1, l2, l3, l4, l5, l6, some (.long z0), l8, l9, l10] st N I L P = sm_at C X 171 39 [l0, l1, l2, l3, l4, l5, l6, some (.long z0), l8, l9, l10] (.long z0 :: st) N I L P := st_go b171 dX11_term_37 (by decide) rfl
theorem s171_39 (h : ¬ z0 = 0) : sm_at C X 171 39 ls (.long z0 :: .long z1 :: st) N I L P = sm_at C X 171 40 ls (.long (z1 / z0) :: st) N I L P := st_ldiv b171 dX11_term_39 h
theorem s171_40 : sm_at C X 171 40 ls st N I L P = sm_at C X 171 47 ls st N I L P := st_go b171 dX11_term_40 (by decide) rfl
theorem s171_43 : sm_at C X 171 43 [l0, l1, some (.long z0), l3, l4, l5, l6, l7, l8, l9, l10] st N I L P = sm_at C X 171 44 [l0, l1, some (.long z0), l3, l4, l5, l6, l7, l8, l9, l10] (.long z0 :: st) N I L P := st_go b171 dX11_term_43 (by decide) rfl
theorem s171_44 : sm_at C X 171 44 [l0, l1, l2, l3, l4, l5, l6, some (.long z0), l8, l9, l10] st N I L P = sm_at C X 171 46 [l0, l1, l2, l3, l4, l5, l6, some (.long z0), l8, l9, l10] (.long z0 :: st) N I L P := st_go b171 dX11_term_44 (by decide) rfl
theorem s171_46 (h : ¬ z0 = 0) : sm_at C X 171 46 ls (.long z0 :: .long z1 :: st) N I L P = sm_at C X 171 47 ls (.long (z1 / z0) :: st) N I L P := st_ldiv b171 dX11_term_46 h
theorem s171_47 : sm_at C X 171 47 ls [.long z0] N I L P = some (some (.long z0), N, I, L, P) := st_ret b171 dX11_term_47 (by decide) rfl
theorem b172 : sm_b 172 = cX11_isPart := rfl
theorem s172_0 : sm_at C X 172 0 [some (.int x0)] st N I L P = sm_at C X 172 1 [some (.int x0)] (.int x0 :: st) N I L P := st_go b172 dX11_isPart_0 (by decide) rfl
theorem s172_1 : sm_at C X 172 1 ls (.int x0 :: st) N I L P = sm_at C X 172 2 ls (.long x0.toInt64 :: st) N I L P := st_go b172 dX11_isPart_1 (by decide) rfl
theorem s172_2 : sm_at C X 172 2 ls st N I L P = sm_at C X 172 3 ls (.long (lN 0) :: st) N I L P := st_go b172 dX11_isPart_2 (by decide) rfl
theorem s172_3 : sm_at C X 172 3 ls st N I L P = sm_at C X 172 4 ls (.long (lN 1) :: st) N I L P := st_go b172 dX11_isPart_3 (by decide) rfl
theorem s172_4 : sm_at C X 172 4 ls [w2, w1, w0] N I L P = sm_af C X 172 7 ls [] (C 146 [w0, w1, w2] N I L P) := st_stat b172 dX11_isPart_4 (n := 3) (rest := []) rfl rfl rfl rfl rfl rfl
theorem s172_7 (h : x0 = 0 ∨ x0 = 1) : sm_at C X 172 7 ls [.int x0] N I L P = some (some (.int x0), N, I, L, P) := st_zret b172 dX11_isPart_7 rfl h
theorem b173 : sm_b 173 = cX11_surely := rfl
theorem s173_0 : sm_at C X 173 0 [l0, some (.int x0), l2, l3, l4, l5, l6, l7, l8, l9, l10, l11] st N I L P = sm_at C X 173 1 [l0, some (.int x0), l2, l3, l4, l5, l6, l7, l8, l9, l10, l11] (.int x0 :: st) N I L P := st_go b173 dX11_surely_0 (by decide) rfl
theorem s173_1 : sm_at C X 173 1 ls [w0] N I L P = sm_af C X 173 4 ls [] (C 148 [w0] N I L P) := st_stat b173 dX11_surely_1 (n := 1) (rest := []) rfl rfl rfl rfl rfl rfl
theorem s173_4 : sm_at C X 173 4 ls (.int x0 :: st) N I L P = if ¬ x0 = 0 then sm_at C X 173 11 ls st N I L P else sm_at C X 173 7 ls st N I L P := st_br b173 dX11_surely_4 (by decide) rfl
theorem s173_7 : sm_at C X 173 7 ls st N I L P = sm_at C X 173 10 ls (.long (-101) :: st) N I L P := st_go b173 dX11_surely_7 (by decide) rfl
theorem s173_10 : sm_at C X 173 10 ls [.long z0] N I L P = some (some (.long z0), N, I, L, P) := st_ret b173 dX11_surely_10 (by decide) rfl
theorem s173_11 : sm_at C X 173 11 [l0, l1, some (.int x0), l3, l4, l5, l6, l7, l8, l9, l10, l11] st N I L P = sm_at C X 173 12 [l0, l1, some (.int x0), l3, l4, l5, l6, l7, l8, l9, l10, l11] (.int x0 :: st) N I L P := st_go b173 dX11_surely_11 (by decide) rfl
theorem s173_12 : sm_at C X 173 12 [l0, l1, l2, some (.int x0), l4, l5, l6, l7, l8, l9, l10, l11] st N I L P = sm_at C X 173 13 [l0, l1, l2, some (.int x0), l4, l5, l6, l7, l8, l9, l10, l11] (.int x0 :: st) N I L P := st_go b173 dX11_surely_12 (by decide) rfl
theorem s173_13 : sm_at C X 173 13 ls [w1, w0] N I L P = sm_af C X 173 16 ls [] (C 169 [w0, w1] N I L P) := st_stat b173 dX11_surely_13 (n := 2) (rest := []) rfl rfl rfl rfl rfl rfl
theorem s173_16 : sm_at C X 173 16 ls (.int x0 :: st) N I L P = if x0 = 0 then sm_at C X 173 27 ls st N I L P else sm_at C X 173 19 ls st N I L P := st_br b173 dX11_surely_16 (by decide) rfl
theorem s173_19 : sm_at C X 173 19 [l0, l1, l2, l3, some (.int x0), l5, l6, l7, l8, l9, l10, l11] st N I L P = sm_at C X 173 21 [l0, l1, l2, l3, some (.int x0), l5, l6, l7, l8, l9, l10, l11] (.int x0 :: st) N I L P := st_go b173 dX11_surely_19 (by decide) rfl
theorem s173_21 : sm_at C X 173 21 ls [w0] N I L P = sm_af C X 173 24 ls [] (C 172 [w0] N I L P) := st_stat b173 dX11_surely_21 (n := 1) (rest := []) rfl rfl rfl rfl rfl rfl
theorem s173_24 : sm_at C X 173 24 ls (.int x0 :: st) N I L P = if ¬ x0 = 0 then sm_at C X 173 31 ls st N I L P else sm_at C X 173 27 ls st N I L P := st_br b173 dX11_surely_24 (by decide) rfl
theorem s173_27 : sm_at C X 173 27 ls st N I L P = sm_at C X 173 30 ls (.long (-102) :: st) N I L P := st_go b173 dX11_surely_27 (by decide) rfl
theorem s173_30 : sm_at C X 173 30 ls [.long z0] N I L P = some (some (.long z0), N, I, L, P) := st_ret b173 dX11_surely_30 (by decide) rfl
theorem s173_31 : sm_at C X 173 31 [some (.ref a), l1, l2, l3, l4, l5, l6, l7, l8, l9, l10, l11] st N I L P = sm_at C X 173 32 [some (.ref a), l1, l2, l3, l4, l5, l6, l7, l8, l9, l10, l11] (.ref a :: st) N I L P := st_go b173 dX11_surely_31 (by decide) rfl
theorem s173_32 : sm_at C X 173 32 [l0, some (.int x0), l2, l3, l4, l5, l6, l7, l8, l9, l10, l11] st N I L P = sm_at C X 173 33 [l0, some (.int x0), l2, l3, l4, l5, l6, l7, l8, l9, l10, l11] (.int x0 :: st) N I L P := st_go b173 dX11_surely_32 (by decide) rfl
theorem s173_33 : sm_at C X 173 33 [l0, l1, some (.int x0), l3, l4, l5, l6, l7, l8, l9, l10, l11] st N I L P = sm_at C X 173 34 [l0, l1, some (.int x0), l3, l4, l5, l6, l7, l8, l9, l10, l11] (.int x0 :: st) N I L P := st_go b173 dX11_surely_33 (by decide) rfl
theorem s173_34 : sm_at C X 173 34 [l0, l1, l2, some (.int x0), l4, l5, l6, l7, l8, l9, l10, l11] st N I L P = sm_at C X 173 35 [l0, l1, l2, some (.int x0), l4, l5, l6, l7, l8, l9, l10, l11] (.int x0 :: st) N I L P := st_go b173 dX11_surely_34 (by decide) rfl
theorem s173_35 : sm_at C X 173 35 [some (.ref a), l1, l2, l3, l4, l5, l6, l7, l8, l9, l10, l11] st N I L P = sm_at C X 173 36 [some (.ref a), l1, l2, l3, l4, l5, l6, l7, l8, l9, l10, l11] (.ref a :: st) N I L P := st_go b173 dX11_surely_35 (by decide) rfl
theorem s173_36 (h : a < N) (h1 : sm_lay a = .inl 11) : sm_at C X 173 36 ls (.ref a :: st) N I L P = sm_at C X 173 39 ls (.int (I a 12) :: st) N I L P := st_gfI b173 dX11_surely_36 rfl rfl h h1
theorem s173_39 (h : a < N) (h1 : sm_lay a = .inl 11) : sm_at C X 173 39 ls [w4, w3, w2, w1, .ref a] N I L P = sm_af C X 173 42 ls [] (C 168 [.ref a, w1, w2, w3, w4] N I L P) := st_virt b173 dX11_surely_39 (n := 5) (rest := []) rfl rfl rfl rfl rfl rfl rfl h h1
theorem s173_42 : sm_at C X 173 42 [l0, l1, l2, l3, l4, l5, l6, l7, l8, l9, l10, l11] (.int x0 :: st) N I L P = sm_at C X 173 44 [l0, l1, l2, l3, sm_cl l4, some (.int x0), l6, l7, l8, l9, l10, l11] st N I L P := st_go b173 dX11_surely_42 (by decide) rfl
theorem s173_44 : sm_at C X 173 44 [some (.ref a), l1, l2, l3, l4, l5, l6, l7, l8, l9, l10, l11] st N I L P = sm_at C X 173 45 [some (.ref a), l1, l2, l3, l4, l5, l6, l7, l8, l9, l10, l11] (.ref a :: st) N I L P := st_go b173 dX11_surely_44 (by decide) rfl
theorem s173_45 (h : a < N) (h1 : sm_lay a = .inl 11) : sm_at C X 173 45 ls (.ref a :: st) N I L P = sm_at C X 173 48 ls (va_rf (P a 11) :: st) N I L P := st_gfR b173 dX11_surely_45 rfl rfl h h1
theorem s173_48 : sm_at C X 173 48 [l0, some (.int x0), l2, l3, l4, l5, l6, l7, l8, l9, l10, l11] st N I L P = sm_at C X 173 49 [l0, some (.int x0), l2, l3, l4, l5, l6, l7, l8, l9, l10, l11] (.int x0 :: st) N I L P := st_go b173 dX11_surely_48 (by decide) rfl
theorem s173_49 (h : a < N) (h1 : k < sm_al a) : sm_at C X 173 49 ls (.int (nI k) :: .ref a :: st) N I L P = sm_at C X 173 50 ls (.int (I a k) :: st) N I L P := st_iald b173 dX11_surely_49 h h1
theorem s173_50 : sm_at C X 173 50 ls st N I L P = sm_at C X 173 51 ls (.int (-1) :: st) N I L P := st_go b173 dX11_surely_50 (by decide) rfl
theorem s173_51 : sm_at C X 173 51 ls (.int x0 :: .int x1 :: st) N I L P = if x1 = x0 then sm_at C X 173 76 ls st N I L P else sm_at C X 173 54 ls st N I L P := st_br b173 dX11_surely_51 (by decide) rfl
theorem s173_54 : sm_at C X 173 54 [some (.ref a), l1, l2, l3, l4, l5, l6, l7, l8, l9, l10, l11] st N I L P = sm_at C X 173 55 [some (.ref a), l1, l2, l3, l4, l5, l6, l7, l8, l9, l10, l11] (.ref a :: st) N I L P := st_go b173 dX11_surely_54 (by decide) rfl
theorem s173_55 (h : a < N) (h1 : sm_lay a = .inl 11) : sm_at C X 173 55 ls (.ref a :: st) N I L P = sm_at C X 173 58 ls (va_rf (P a 10) :: st) N I L P := st_gfR b173 dX11_surely_55 rfl rfl h h1
theorem s173_58 : sm_at C X 173 58 ls st N I L P = sm_at C X 173 60 ls (.int (nI 7) :: st) N I L P := st_go b173 dX11_surely_58 (by decide) rfl
theorem s173_60 : sm_at C X 173 60 [some (.ref a), l1, l2, l3, l4, l5, l6, l7, l8, l9, l10, l11] st N I L P = sm_at C X 173 61 [some (.ref a), l1, l2, l3, l4, l5, l6, l7, l8, l9, l10, l11] (.ref a :: st) N I L P := st_go b173 dX11_surely_60 (by decide) rfl
theorem s173_61 (h : a < N) (h1 : sm_lay a = .inl 11) : sm_at C X 173 61 ls (.ref a :: st) N I L P = sm_at C X 173 64 ls (va_rf (P a 11) :: st) N I L P := st_gfR b173 dX11_surely_61 rfl rfl h h1
theorem s173_64 : sm_at C X 173 64 [l0, some (.int x0), l2, l3, l4, l5, l6, l7, l8, l9, l10, l11] st N I L P = sm_at C X 173 65 [l0, some (.int x0), l2, l3, l4, l5, l6, l7, l8, l9, l10, l11] (.int x0 :: st) N I L P := st_go b173 dX11_surely_64 (by decide) rfl
theorem s173_65 (h : a < N) (h1 : k < sm_al a) : sm_at C X 173 65 ls (.int (nI k) :: .ref a :: st) N I L P = sm_at C X 173 66 ls (.int (I a k) :: st) N I L P := st_iald b173 dX11_surely_65 h h1
theorem s173_66 : sm_at C X 173 66 ls (.int x0 :: .int x1 :: st) N I L P = sm_at C X 173 67 ls (.int (x1 * x0) :: st) N I L P := st_go b173 dX11_surely_66 (by decide) rfl
theorem s173_67 (h : a < N) (h1 : k < sm_al a) : sm_at C X 173 67 ls (.int (nI k) :: .ref a :: st) N I L P = sm_at C X 173 68 ls (.int (I a k) :: st) N I L P := st_iald b173 dX11_surely_67 h h1
theorem s173_68 : sm_at C X 173 68 ls st N I L P = sm_at C X 173 69 ls (.int (nI 2) :: st) N I L P := st_go b173 dX11_surely_68 (by decide) rfl
theorem s173_69 : sm_at C X 173 69 ls (.int x0 :: .int x1 :: st) N I L P = if ¬ x1 = x0 then sm_at C X 173 76 ls st N I L P else sm_at C X 173 72 ls st N I L P := st_br b173 dX11_surely_69 (by decide) rfl
theorem s173_72 : sm_at C X 173 72 ls st N I L P = sm_at C X 173 73 ls (.int (nI 1) :: st) N I L P := st_go b173 dX11_surely_72 (by decide) rfl
theorem s173_73 : sm_at C X 173 73 ls st N I L P = sm_at C X 173 77 ls st N I L P := st_go b173 dX11_surely_73 (by decide) rfl
theorem s173_76 : sm_at C X 173 76 ls st N I L P = sm_at C X 173 77 ls (.int (nI 0) :: st) N I L P := st_go b173 dX11_surely_76 (by decide) rfl
theorem s173_77 : sm_at C X 173 77 [l0, l1, l2, l3, l4, l5, l6, l7, l8, l9, l10, l11] (.int x0 :: st) N I L P = sm_at C X 173 79 [l0, l1, l2, l3, l4, sm_cl l5, some (.int x0), l7, l8, l9, l10, l11] st N I L P := st_go b173 dX11_surely_77 (by decide) rfl
theorem s173_79 : sm_at C X 173 79 [l0, l1, l2, l3, l4, some (.int x0), l6, l7, l8, l9, l10, l11] st N I L P = sm_at C X 173 81 [l0, l1, l2, l3, l4, some (.int x0), l6, l7, l8, l9, l10, l11] (.int x0 :: st) N I L P := st_go b173 dX11_surely_79 (by decide) rfl
theorem s173_81 : sm_at C X 173 81 ls (.int x0 :: st) N I L P = if x0 = 0 then sm_at C X 173 89 ls st N I L P else sm_at C X 173 84 ls st N I L P := st_br b173 dX11_surely_81 (by decide) rfl
theorem s173_84 : sm_at C X 173 84 [l0, l1, l2, l3, l4, l5, some (.int x0), l7, l8, l9, l10, l11] st N I L P = sm_at C X 173 86 [l0, l1, l2, l3, l4, l5, some (.int x0), l7, l8, l9, l10, l11] (.int x0 :: st) N I L P := st_go b173 dX11_surely_84 (by decide) rfl
theorem s173_86 : sm_at C X 173 86 ls (.int x0 :: st) N I L P = if ¬ x0 = 0 then sm_at C X 173 106 ls st N I L P else sm_at C X 173 89 ls st N I L P := st_br b173 dX11_surely_86 (by decide) rfl
theorem s173_89 : sm_at C X 173 89 [l0, l1, l2, l3, l4, some (.int x0), l6, l7, l8, l9, l10, l11] st N I L P = sm_at C X 173 91 [l0, l1, l2, l3, l4, some (.int x0), l6, l7, l8, l9, l10, l11] (.int x0 :: st) N I L P := st_go b173 dX11_surely_89 (by decide) rfl
theorem s173_91 : sm_at C X 173 91 ls (.int x0 :: st) N I L P = if x0 ≤ 0 then sm_at C X 173 98 ls st N I L P else sm_at C X 173 94 ls st N I L P := st_br b173 dX11_surely_91 (by decide) rfl
theorem s173_94 : sm_at C X 173 94 ls st N I L P = sm_at C X 173 95 ls (.long (lN 1) :: st) N I L P := st_go b173 dX11_surely_94 (by decide) rfl
theorem s173_95 : sm_at C X 173 95 ls st N I L P = sm_at C X 173 99 ls st N I L P := st_go b173 dX11_surely_95 (by decide) rfl
theorem s173_98 : sm_at C X 173 98 ls st N I L P = sm_at C X 173 99 ls (.long (lN 0) :: st) N I L P := st_go b173 dX11_surely_98 (by decide) rfl
theorem s173_99 : sm_at C X 173 99 ls st N I L P = sm_at C X 173 100 ls (.long (lN 1) :: st) N I L P := st_go b173 dX11_surely_99 (by decide) rfl
theorem s173_100 : sm_at C X 173 100 [l0, l1, l2, l3, some (.int x0), l5, l6, l7, l8, l9, l10, l11] st N I L P = sm_at C X 173 102 [l0, l1, l2, l3, some (.int x0), l5, l6, l7, l8, l9, l10, l11] (.int x0 :: st) N I L P := st_go b173 dX11_surely_100 (by decide) rfl
theorem s173_102 : sm_at C X 173 102 ls [w2, w1, w0] N I L P = sm_af C X 173 105 ls [] (C 171 [w0, w1, w2] N I L P) := st_stat b173 dX11_surely_102 (n := 3) (rest := []) rfl rfl rfl rfl rfl rfl
theorem s173_105 : sm_at C X 173 105 ls [.long z0] N I L P = some (some (.long z0), N, I, L, P) := st_ret b173 dX11_surely_105 (by decide) rfl
theorem s173_106 : sm_at C X 173 106 ls st N I L P = sm_at C X 173 107 ls (.long (lN 1) :: st) N I L P := st_go b173 dX11_surely_106 (by decide) rfl
theorem s173_107 : sm_at C X 173 107 [l0, l1, l2, l3, l4, l5, l6, l7, l8, l9, l10, l11] (.long z0 :: st) N I L P = sm_at C X 173 109 [l0, l1, l2, l3, l4, l5, sm_cl l6, some (.long z0), none, l9, l10, l11] st N I L P := st_go b173 dX11_surely_107 (by decide) rfl
theorem s173_109 : sm_at C X 173 109 ls st N I L P = sm_at C X 173 110 ls (.long (lN 1) :: st) N I L P := st_go b173 dX11_surely_109 (by decide) rfl
theorem s173_110 : sm_at C X 173 110 [l0, l1, l2, l3, l4, l5, l6, l7, l8, l9, l10, l11] (.long z0 :: st) N I L P = sm_at C X 173 112 [l0, l1, l2, l3, l4, l5, l6, l7, sm_cl l8, some (.long z0), none, l11] st N I L P := st_go b173 dX11_surely_110 (by decide) rfl
theorem s173_112 : sm_at C X 173 112 ls st N I L P = sm_at C X 173 113 ls (.int (nI 0) :: st) N I L P := st_go b173 dX11_surely_112 (by decide) rfl
theorem s173_113 : sm_at C X 173 113 [l0, l1, l2, l3, l4, l5, l6, l7, l8, l9, l10, l11] (.int x0 :: st) N I L P = sm_at C X 173 115 [l0, l1, l2, l3, l4, l5, l6, l7, l8, l9, sm_cl l10, some (.int x0)] st N I L P := st_go b173 dX11_surely_113 (by decide) rfl
theorem s173_115 : sm_at C X 173 115 [l0, l1, l2, l3, l4, l5, l6, l7, l8, l9, l10, some (.int x0)] st N I L P = sm_at C X 173 117 [l0, l1, l2, l3, l4, l5, l6, l7, l8, l9, l10, some (.int x0)] (.int x0 :: st) N I L P := st_go b173 dX11_surely_115 (by decide) rfl
theorem s173_117 : sm_at C X 173 117 [l0, l1, l2, l3, l4, some (.int x0), l6, l7, l8, l9, l10, l11] st N I L P = sm_at C X 173 119 [l0, l1, l2, l3, l4, some (.int x0), l6, l7, l8, l9, l10, l11] (.int x0 :: st) N I L P := st_go b173 dX11_surely_117 (by decide) rfl
theorem s173_119 : sm_at C X 173 119 ls (.int x0 :: .int x1 :: st) N I L P = if x0 ≤ x1 then sm_at C X 173 161 ls st N I L P else sm_at C X 173 122 ls st N I L P := st_br b173 dX11_surely_119 (by decide) rfl
theorem s173_122 : sm_at C X 173 122 [l0, l1, l2, l3, l4, l5, l6, some (.long z0), l8, l9, l10, l11] st N I L P = sm_at C X 173 124 [l0, l1, l2, l3, l4, l5, l6, some (.long z0), l8, l9, l10, l11] (.long z0 :: st) N I L P := st_go b173 dX11_surely_122 (by decide) rfl
theorem s173_124 : sm_at C X 173 124 ls st N I L P = sm_at C X 173 126 ls (.int (nI 10) :: st) N I L P := st_go b173 dX11_surely_124 (by decide) rfl
theorem s173_126 : sm_at C X 173 126 [some (.ref a), l1, l2, l3, l4, l5, l6, l7, l8, l9, l10, l11] st N I L P = sm_at C X 173 127 [some (.ref a), l1, l2, l3, l4, l5, l6, l7, l8, l9, l10, l11] (.ref a :: st) N I L P := st_go b173 dX11_surely_126 (by decide) rfl
theorem s173_127 (h : a < N) (h1 : sm_lay a = .inl 11) : sm_at C X 173 127 ls (.ref a :: st) N I L P = sm_at C X 173 130 ls (va_rf (P a 10) :: st) N I L P := st_gfR b173 dX11_surely_127 rfl rfl h h1
theorem s173_130 : sm_at C X 173 130 ls st N I L P = sm_at C X 173 132 ls (.int (nI 7) :: st) N I L P := st_go b173 dX11_surely_130 (by decide) rfl
theorem s173_132 : sm_at C X 173 132 [some (.ref a), l1, l2, l3, l4, l5, l6, l7, l8, l9, l10, l11] st N I L P = sm_at C X 173 133 [some (.ref a), l1, l2, l3, l4, l5, l6, l7, l8, l9, l10, l11] (.ref a :: st) N I L P := st_go b173 dX11_surely_132 (by decide) rfl
theorem s173_133 (h : a < N) (h1 : sm_lay a = .inl 11) : sm_at C X 173 133 ls (.ref a :: st) N I L P = sm_at C X 173 136 ls (va_rf (P a 11) :: st) N I L P := st_gfR b173 dX11_surely_133 rfl rfl h h1
theorem s173_136 : sm_at C X 173 136 [l0, some (.int x0), l2, l3, l4, l5, l6, l7, l8, l9, l10, l11] st N I L P = sm_at C X 173 137 [l0, some (.int x0), l2, l3, l4, l5, l6, l7, l8, l9, l10, l11] (.int x0 :: st) N I L P := st_go b173 dX11_surely_136 (by decide) rfl
theorem s173_137 (h : a < N) (h1 : k < sm_al a) : sm_at C X 173 137 ls (.int (nI k) :: .ref a :: st) N I L P = sm_at C X 173 138 ls (.int (I a k) :: st) N I L P := st_iald b173 dX11_surely_137 h h1
theorem s173_138 : sm_at C X 173 138 ls (.int x0 :: .int x1 :: st) N I L P = sm_at C X 173 139 ls (.int (x1 * x0) :: st) N I L P := st_go b173 dX11_surely_138 (by decide) rfl
theorem s173_139 : sm_at C X 173 139 ls st N I L P = sm_at C X 173 140 ls (.int (nI 2) :: st) N I L P := st_go b173 dX11_surely_139 (by decide) rfl
theorem s173_140 : sm_at C X 173 140 ls (.int x0 :: .int x1 :: st) N I L P = sm_at C X 173 141 ls (.int (x1 + x0) :: st) N I L P := st_go b173 dX11_surely_140 (by decide) rfl
theorem s173_141 (h : a < N) (h1 : k < sm_al a) : sm_at C X 173 141 ls (.int (nI k) :: .ref a :: st) N I L P = sm_at C X 173 142 ls (.int (I a k) :: st) N I L P := st_iald b173 dX11_surely_141 h h1
theorem s173_142 : sm_at C X 173 142 ls (.int x0 :: .int x1 :: st) N I L P = sm_at C X 173 143 ls (.int (x1 - x0) :: st) N I L P := st_go b173 dX11_surely_142 (by decide) rfl
theorem s173_143 : sm_at C X 173 143 ls (.int x0 :: st) N I L P = sm_at C X 173 144 ls (.long x0.toInt64 :: st) N I L P := st_go b173 dX11_surely_143 (by decide) rfl
theorem s173_144 : sm_at C X 173 144 ls (.long z0 :: .long z1 :: st) N I L P = sm_at C X 173 145 ls (.long (z1 * z0) :: st) N I L P := st_go b173 dX11_surely_144 (by decide) rfl
theorem s173_145 : sm_at C X 173 145 [l0, l1, l2, l3, l4, l5, l6, l7, l8, l9, l10, l11] (.long z0 :: st) N I L P = sm_at C X 173 147 [l0, l1, l2, l3, l4, l5, sm_cl l6, some (.long z0), none, l9, l10, l11] st N I L P := st_go b173 dX11_surely_145 (by decide) rfl
theorem s173_147 : sm_at C X 173 147 [l0, l1, l2, l3, l4, l5, l6, l7, l8, some (.long z0), l10, l11] st N I L P = sm_at C X 173 149 [l0, l1, l2, l3, l4, l5, l6, l7, l8, some (.long z0), l10, l11] (.long z0 :: st) N I L P := st_go b173 dX11_surely_147 (by decide) rfl
theorem s173_149 : sm_at C X 173 149 ls st N I L P = sm_at C X 173 152 ls (.long (lN 10) :: st) N I L P := st_go b173 dX11_surely_149 (by decide) rfl
theorem s173_152 : sm_at C X 173 152 ls (.long z0 :: .long z1 :: st) N I L P = sm_at C X 173 153 ls (.long (z1 * z0) :: st) N I L P := st_go b173 dX11_surely_152 (by decide) rfl
theorem s173_153 : sm_at C X 173 153 [l0, l1, l2, l3, l4, l5, l6, l7, l8, l9, l10, l11] (.long z0 :: st) N I L P = sm_at C X 173 155 [l0, l1, l2, l3, l4, l5, l6, l7, sm_cl l8, some (.long z0), none, l11] st N I L P := st_go b173 dX11_surely_153 (by decide) rfl
theorem s173_155 : sm_at C X 173 155 [l0, l1, l2, l3, l4, l5, l6, l7, l8, l9, l10, some (.int x0)] st N I L P = sm_at C X 173 158 [l0, l1, l2, l3, l4, l5, l6, l7, l8, l9, sm_cl l10, some (.int (x0 + (nI 1)))] st N I L P := st_go b173 dX11_surely_155 (by decide) rfl
theorem s173_158 : sm_at C X 173 158 ls st N I L P = sm_at C X 173 115 ls st N I L P := st_go b173 dX11_surely_158 (by decide) rfl
theorem s173_161 : sm_at C X 173 161 [l0, l1, l2, l3, l4, l5, l6, l7, l8, some (.long z0), l10, l11] st N I L P = sm_at C X 173 163 [l0, l1, l2, l3, l4, l5, l6, l7, l8, some (.long z0), l10, l11] (.long z0 :: st) N I L P := st_go b173 dX11_surely_161 (by decide) rfl
theorem s173_163 : sm_at C X 173 163 [l0, l1, l2, l3, l4, l5, l6, some (.long z0), l8, l9, l10, l11] st N I L P = sm_at C X 173 165 [l0, l1, l2, l3, l4, l5, l6, some (.long z0), l8, l9, l10, l11] (.long z0 :: st) N I L P := st_go b173 dX11_surely_163 (by decide) rfl
theorem s173_165 : sm_at C X 173 165 ls (.long z0 :: .long z1 :: st) N I L P = sm_at C X 173 166 ls (.long (z1 - z0) :: st) N I L P := st_go b173 dX11_surely_165 (by decide) rfl
theorem s173_166 : sm_at C X 173 166 [l0, l1, l2, l3, l4, l5, l6, l7, l8, some (.long z0), l10, l11] st N I L P = sm_at C X 173 168 [l0, l1, l2, l3, l4, l5, l6, l7, l8, some (.long z0), l10, l11] (.long z0 :: st) N I L P := st_go b173 dX11_surely_166 (by decide) rfl
theorem s173_168 : sm_at C X 173 168 [l0, l1, l2, l3, some (.int x0), l5, l6, l7, l8, l9, l10, l11] st N I L P = sm_at C X 173 170 [l0, l1, l2, l3, some (.int x0), l5, l6, l7, l8, l9, l10, l11] (.int x0 :: st) N I L P := st_go b173 dX11_surely_168 (by decide) rfl
theorem s173_170 : sm_at C X 173 170 ls [w2, w1, w0] N I L P = sm_af C X 173 173 ls [] (C 171 [w0, w1, w2] N I L P) := st_stat b173 dX11_surely_170 (n := 3) (rest := []) rfl rfl rfl rfl rfl rfl
theorem s173_173 : sm_at C X 173 173 ls [.long z0] N I L P = some (some (.long z0), N, I, L, P) := st_ret b173 dX11_surely_173 (by decide) rfl
theorem b174 : sm_b 174 = cX11_isOver := rfl
theorem s174_0 : sm_at C X 174 0 ls st N I L P = sm_at C X 174 1 ls (.int (nI 0) :: st) N I L P := st_go b174 dX11_isOver_0 (by decide) rfl
theorem s174_1 : sm_at C X 174 1 [l0, l1, l2, l3, l4, l5, l6] (.int x0 :: st) N I L P = sm_at C X 174 2 [l0, sm_cl l1, some (.int x0), l3, l4, l5, l6] st N I L P := st_go b174 dX11_isOver_1 (by decide) rfl
theorem s174_2 : sm_at C X 174 2 ls st N I L P = sm_at C X 174 3 ls (.int (nI 0) :: st) N I L P := st_go b174 dX11_isOver_2 (by decide) rfl
theorem s174_3 : sm_at C X 174 3 [l0, l1, l2, l3, l4, l5, l6] (.int x0 :: st) N I L P = sm_at C X 174 4 [l0, l1, sm_cl l2, some (.int x0), l4, l5, l6] st N I L P := st_go b174 dX11_isOver_3 (by decide) rfl
theorem s174_4 : sm_at C X 174 4 [l0, l1, l2, some (.int x0), l4, l5, l6] st N I L P = sm_at C X 174 5 [l0, l1, l2, some (.int x0), l4, l5, l6] (.int x0 :: st) N I L P := st_go b174 dX11_isOver_4 (by decide) rfl
theorem s174_5 : sm_at C X 174 5 ls st N I L P = sm_at C X 174 7 ls (.int (nI 10) :: st) N I L P := st_go b174 dX11_isOver_5 (by decide) rfl
theorem s174_7 : sm_at C X 174 7 ls (.int x0 :: .int x1 :: st) N I L P = if x0 ≤ x1 then sm_at C X 174 127 ls st N I L P else sm_at C X 174 10 ls st N I L P := st_br b174 dX11_isOver_7 (by decide) rfl
theorem s174_10 : sm_at C X 174 10 ls st N I L P = sm_at C X 174 11 ls (.int (nI 0) :: st) N I L P := st_go b174 dX11_isOver_10 (by decide) rfl
theorem s174_11 : sm_at C X 174 11 [l0, l1, l2, l3, l4, l5, l6] (.int x0 :: st) N I L P = sm_at C X 174 13 [l0, l1, l2, sm_cl l3, some (.int x0), l5, l6] st N I L P := st_go b174 dX11_isOver_11 (by decide) rfl
theorem s174_13 : sm_at C X 174 13 [l0, l1, l2, l3, some (.int x0), l5, l6] st N I L P = sm_at C X 174 15 [l0, l1, l2, l3, some (.int x0), l5, l6] (.int x0 :: st) N I L P := st_go b174 dX11_isOver_13 (by decide) rfl
theorem s174_15 : sm_at C X 174 15 ls st N I L P = sm_at C X 174 17 ls (.int (nI 20) :: st) N I L P := st_go b174 dX11_isOver_15 (by decide) rfl
theorem s174_17 : sm_at C X 174 17 ls (.int x0 :: .int x1 :: st) N I L P = if x0 ≤ x1 then sm_at C X 174 121 ls st N I L P else sm_at C X 174 20 ls st N I L P := st_br b174 dX11_isOver_17 (by decide) rfl
theorem s174_20 : sm_at C X 174 20 [some (.ref a), l1, l2, l3, l4, l5, l6] st N I L P = sm_at C X 174 21 [some (.ref a), l1, l2, l3, l4, l5, l6] (.ref a :: st) N I L P := st_go b174 dX11_isOver_20 (by decide) rfl
theorem s174_21 : sm_at C X 174 21 [l0, l1, l2, some (.int x0), l4, l5, l6] st N I L P = sm_at C X 174 22 [l0, l1, l2, some (.int x0), l4, l5, l6] (.int x0 :: st) N I L P := st_go b174 dX11_isOver_21 (by decide) rfl
theorem s174_22 : sm_at C X 174 22 ls st N I L P = sm_at C X 174 24 ls (.int (nI 100) :: st) N I L P := st_go b174 dX11_isOver_22 (by decide) rfl
theorem s174_24 : sm_at C X 174 24 [l0, l1, l2, l3, some (.int x0), l5, l6] st N I L P = sm_at C X 174 26 [l0, l1, l2, l3, some (.int x0), l5, l6] (.int x0 :: st) N I L P := st_go b174 dX11_isOver_24 (by decide) rfl
theorem s174_26 : sm_at C X 174 26 ls (.int x0 :: .int x1 :: st) N I L P = sm_at C X 174 27 ls (.int (x1 * x0) :: st) N I L P := st_go b174 dX11_isOver_26 (by decide) rfl
theorem s174_27 : sm_at C X 174 27 ls st N I L P = sm_at C X 174 29 ls (.int (nI 100) :: st) N I L P := st_go b174 dX11_isOver_27 (by decide) rfl
theorem s174_29 : sm_at C X 174 29 [l0, l1, l2, l3, some (.int x0), l5, l6] st N I L P = sm_at C X 174 31 [l0, l1, l2, l3, some (.int x0), l5, l6] (.int x0 :: st) N I L P := st_go b174 dX11_isOver_29 (by decide) rfl
theorem s174_31 : sm_at C X 174 31 ls (.int x0 :: .int x1 :: st) N I L P = sm_at C X 174 32 ls (.int (x1 * x0) :: st) N I L P := st_go b174 dX11_isOver_31 (by decide) rfl
theorem s174_32 : sm_at C X 174 32 ls st N I L P = sm_at C X 174 34 ls (.int (nI 99) :: st) N I L P := st_go b174 dX11_isOver_32 (by decide) rfl
theorem s174_34 : sm_at C X 174 34 ls (.int x0 :: .int x1 :: st) N I L P = sm_at C X 174 35 ls (.int (x1 + x0) :: st) N I L P := st_go b174 dX11_isOver_34 (by decide) rfl
theorem s174_35 : sm_at C X 174 35 [l0, some (.int x0), l2, l3, l4, l5, l6] st N I L P = sm_at C X 174 36 [l0, some (.int x0), l2, l3, l4, l5, l6] (.int x0 :: st) N I L P := st_go b174 dX11_isOver_35 (by decide) rfl
theorem s174_36 (h : a < N) (h1 : sm_lay a = .inl 11) : sm_at C X 174 36 ls [w4, w3, w2, w1, .ref a] N I L P = sm_af C X 174 39 ls [] (C 168 [.ref a, w1, w2, w3, w4] N I L P) := st_virt b174 dX11_isOver_36 (n := 5) (rest := []) rfl rfl rfl rfl rfl rfl rfl h h1
theorem s174_39 : sm_at C X 174 39 [l0, l1, l2, l3, l4, l5, l6] (.int x0 :: st) N I L P = sm_at C X 174 41 [l0, l1, l2, l3, sm_cl l4, some (.int x0), l6] st N I L P := st_go b174 dX11_isOver_39 (by decide) rfl
theorem s174_41 : sm_at C X 174 41 ls st N I L P = sm_at C X 174 42 ls (.int (nI 0) :: st) N I L P := st_go b174 dX11_isOver_41 (by decide) rfl
theorem s174_42 : sm_at C X 174 42 [l0, l1, l2, l3, l4, l5, l6] (.int x0 :: st) N I L P = sm_at C X 174 44 [l0, l1, l2, l3, l4, sm_cl l5, some (.int x0)] st N I L P := st_go b174 dX11_isOver_42 (by decide) rfl
theorem s174_44 : sm_at C X 174 44 [l0, l1, l2, l3, l4, l5, some (.int x0)] st N I L P = sm_at C X 174 46 [l0, l1, l2, l3, l4, l5, some (.int x0)] (.int x0 :: st) N I L P := st_go b174 dX11_isOver_44 (by decide) rfl
theorem s174_46 : sm_at C X 174 46 [l0, some (.int x0), l2, l3, l4, l5, l6] st N I L P = sm_at C X 174 47 [l0, some (.int x0), l2, l3, l4, l5, l6] (.int x0 :: st) N I L P := st_go b174 dX11_isOver_46 (by decide) rfl
theorem s174_47 : sm_at C X 174 47 ls (.int x0 :: .int x1 :: st) N I L P = if x0 ≤ x1 then sm_at C X 174 98 ls st N I L P else sm_at C X 174 50 ls st N I L P := st_br b174 dX11_isOver_47 (by decide) rfl
theorem s174_50 : sm_at C X 174 50 [l0, l1, l2, l3, l4, some (.int x0), l6] st N I L P = sm_at C X 174 52 [l0, l1, l2, l3, l4, some (.int x0), l6] (.int x0 :: st) N I L P := st_go b174 dX11_isOver_50 (by decide) rfl
theorem s174_52 : sm_at C X 174 52 [some (.ref a), l1, l2, l3, l4, l5, l6] st N I L P = sm_at C X 174 53 [some (.ref a), l1, l2, l3, l4, l5, l6] (.ref a :: st) N I L P := st_go b174 dX11_isOver_52 (by decide) rfl
theorem s174_53 (h : a < N) (h1 : sm_lay a = .inl 11) : sm_at C X 174 53 ls (.ref a :: st) N I L P = sm_at C X 174 56 ls (va_rf (P a 13) :: st) N I L P := st_gfR b174 dX11_isOver_53 rfl rfl h h1
theorem s174_56 : sm_at C X 174 56 ls st N I L P = sm_at C X 174 57 ls (.int (nI 2) :: st) N I L P := st_go b174 dX11_isOver_56 (by decide) rfl
theorem s174_57 : sm_at C X 174 57 [l0, l1, l2, l3, l4, l5, some (.int x0)] st N I L P = sm_at C X 174 59 [l0, l1, l2, l3, l4, l5, some (.int x0)] (.int x0 :: st) N I L P := st_go b174 dX11_isOver_57 (by decide) rfl
theorem s174_59 : sm_at C X 174 59 ls (.int x0 :: .int x1 :: st) N I L P = sm_at C X 174 60 ls (.int (x1 * x0) :: st) N I L P := st_go b174 dX11_isOver_59 (by decide) rfl
theorem s174_60 (h : a < N) (h1 : k < sm_al a) : sm_at C X 174 60 ls (.int (nI k) :: .ref a :: st) N I L P = sm_at C X 174 61 ls (.int (I a k) :: st) N I L P := st_iald b174 dX11_isOver_60 h h1
theorem s174_61 : sm_at C X 174 61 [l0, l1, l2, some (.int x0), l4, l5, l6] st N I L P = sm_at C X 174 62 [l0, l1, l2, some (.int x0), l4, l5, l6] (.int x0 :: st) N I L P := st_go b174 dX11_isOver_61 (by decide) rfl
theorem s174_62 : sm_at C X 174 62 ls (.int x0 :: .int x1 :: st) N I L P = if ¬ x1 = x0 then sm_at C X 174 88 ls st N I L P else sm_at C X 174 65 ls st N I L P := st_br b174 dX11_isOver_62 (by decide) rfl
theorem s174_65 : sm_at C X 174 65 [some (.ref a), l1, l2, l3, l4, l5, l6] st N I L P = sm_at C X 174 66 [some (.ref a), l1, l2, l3, l4, l5, l6] (.ref a :: st) N I L P := st_go b174 dX11_isOver_65 (by decide) rfl
theorem s174_66 (h : a < N) (h1 : sm_lay a = .inl 11) : sm_at C X 174 66 ls (.ref a :: st) N I L P = sm_at C X 174 69 ls (va_rf (P a 13) :: st) N I L P := st_gfR b174 dX11_isOver_66 rfl rfl h h1
theorem s174_69 : sm_at C X 174 69 ls st N I L P = sm_at C X 174 70 ls (.int (nI 2) :: st) N I L P := st_go b174 dX11_isOver_69 (by decide) rfl
theorem s174_70 : sm_at C X 174 70 [l0, l1, l2, l3, l4, l5, some (.int x0)] st N I L P = sm_at C X 174 72 [l0, l1, l2, l3, l4, l5, some (.int x0)] (.int x0 :: st) N I L P := st_go b174 dX11_isOver_70 (by decide) rfl
theorem s174_72 : sm_at C X 174 72 ls (.int x0 :: .int x1 :: st) N I L P = sm_at C X 174 73 ls (.int (x1 * x0) :: st) N I L P := st_go b174 dX11_isOver_72 (by decide) rfl
theorem s174_73 : sm_at C X 174 73 ls st N I L P = sm_at C X 174 74 ls (.int (nI 1) :: st) N I L P := st_go b174 dX11_isOver_73 (by decide) rfl
theorem s174_74 : sm_at C X 174 74 ls (.int x0 :: .int x1 :: st) N I L P = sm_at C X 174 75 ls (.int (x1 + x0) :: st) N I L P := st_go b174 dX11_isOver_74 (by decide) rfl
theorem s174_75 (h : a < N) (h1 : k < sm_al a) : sm_at C X 174 75 ls (.int (nI k) :: .ref a :: st) N I L P = sm_at C X 174 76 ls (.int (I a k) :: st) N I L P := st_iald b174 dX11_isOver_75 h h1
theorem s174_76 : sm_at C X 174 76 ls st N I L P = sm_at C X 174 78 ls (.int (nI 100) :: st) N I L P := st_go b174 dX11_isOver_76 (by decide) rfl
theorem s174_78 (h : ¬ x0 = 0) : sm_at C X 174 78 ls (.int x0 :: .int x1 :: st) N I L P = sm_at C X 174 79 ls (.int (x1 / x0) :: st) N I L P := st_idiv b174 dX11_isOver_78 h
theorem s174_79 : sm_at C X 174 79 [l0, l1, l2, l3, some (.int x0), l5, l6] st N I L P = sm_at C X 174 81 [l0, l1, l2, l3, some (.int x0), l5, l6] (.int x0 :: st) N I L P := st_go b174 dX11_isOver_79 (by decide) rfl
theorem s174_81 : sm_at C X 174 81 ls (.int x0 :: .int x1 :: st) N I L P = if ¬ x1 = x0 then sm_at C X 174 88 ls st N I L P else sm_at C X 174 84 ls st N I L P := st_br b174 dX11_isOver_81 (by decide) rfl
theorem s174_84 : sm_at C X 174 84 ls st N I L P = sm_at C X 174 85 ls (.int (nI 1) :: st) N I L P := st_go b174 dX11_isOver_84 (by decide) rfl
theorem s174_85 : sm_at C X 174 85 ls st N I L P = sm_at C X 174 89 ls st N I L P := st_go b174 dX11_isOver_85 (by decide) rfl
theorem s174_88 : sm_at C X 174 88 ls st N I L P = sm_at C X 174 89 ls (.int (nI 0) :: st) N I L P := st_go b174 dX11_isOver_88 (by decide) rfl
theorem s174_89 : sm_at C X 174 89 ls (.int x0 :: .int x1 :: st) N I L P = sm_at C X 174 90 ls (.int (x1 + x0) :: st) N I L P := st_go b174 dX11_isOver_89 (by decide) rfl
theorem s174_90 : sm_at C X 174 90 [l0, l1, l2, l3, l4, l5, l6] (.int x0 :: st) N I L P = sm_at C X 174 92 [l0, l1, l2, l3, sm_cl l4, some (.int x0), l6] st N I L P := st_go b174 dX11_isOver_90 (by decide) rfl
theorem s174_92 : sm_at C X 174 92 [l0, l1, l2, l3, l4, l5, some (.int x0)] st N I L P = sm_at C X 174 95 [l0, l1, l2, l3, l4, sm_cl l5, some (.int (x0 + (nI 1)))] st N I L P := st_go b174 dX11_isOver_92 (by decide) rfl
theorem s174_95 : sm_at C X 174 95 ls st N I L P = sm_at C X 174 44 ls st N I L P := st_go b174 dX11_isOver_95 (by decide) rfl
theorem s174_98 : sm_at C X 174 98 [l0, l1, some (.int x0), l3, l4, l5, l6] st N I L P = sm_at C X 174 99 [l0, l1, some (.int x0), l3, l4, l5, l6] (.int x0 :: st) N I L P := st_go b174 dX11_isOver_98 (by decide) rfl
theorem s174_99 : sm_at C X 174 99 ls (.int x0 :: st) N I L P = if ¬ x0 = 0 then sm_at C X 174 109 ls st N I L P else sm_at C X 174 102 ls st N I L P := st_br b174 dX11_isOver_99 (by decide) rfl
theorem s174_102 : sm_at C X 174 102 [l0, l1, l2, l3, l4, some (.int x0), l6] st N I L P = sm_at C X 174 104 [l0, l1, l2, l3, l4, some (.int x0), l6] (.int x0 :: st) N I L P := st_go b174 dX11_isOver_102 (by decide) rfl
theorem s174_104 : sm_at C X 174 104 ls st N I L P = sm_at C X 174 106 ls (.int (nI 9) :: st) N I L P := st_go b174 dX11_isOver_104 (by decide) rfl
theorem s174_106 : sm_at C X 174 106 ls (.int x0 :: .int x1 :: st) N I L P = if x1 ≤ x0 then sm_at C X 174 113 ls st N I L P else sm_at C X 174 109 ls st N I L P := st_br b174 dX11_isOver_106 (by decide) rfl
theorem s174_109 : sm_at C X 174 109 ls st N I L P = sm_at C X 174 110 ls (.int (nI 1) :: st) N I L P := st_go b174 dX11_isOver_109 (by decide) rfl
theorem s174_110 : sm_at C X 174 110 ls st N I L P = sm_at C X 174 114 ls st N I L P := st_go b174 dX11_isOver_110 (by decide) rfl
theorem s174_113 : sm_at C X 174 113 ls st N I L P = sm_at C X 174 114 ls (.int (nI 0) :: st) N I L P := st_go b174 dX11_isOver_113 (by decide) rfl
theorem s174_114 : sm_at C X 174 114 [l0, l1, l2, l3, l4, l5, l6] (.int x0 :: st) N I L P = sm_at C X 174 115 [l0, sm_cl l1, some (.int x0), l3, l4, l5, l6] st N I L P := st_go b174 dX11_isOver_114 (by decide) rfl
theorem s174_115 : sm_at C X 174 115 [l0, l1, l2, l3, some (.int x0), l5, l6] st N I L P = sm_at C X 174 118 [l0, l1, l2, sm_cl l3, some (.int (x0 + (nI 1))), l5, l6] st N I L P := st_go b174 dX11_isOver_115 (by decide) rfl
theorem s174_118 : sm_at C X 174 118 ls st N I L P = sm_at C X 174 13 ls st N I L P := st_go b174 dX11_isOver_118 (by decide) rfl
theorem s174_121 : sm_at C X 174 121 [l0, l1, l2, some (.int x0), l4, l5, l6] st N I L P = sm_at C X 174 124 [l0, l1, sm_cl l2, some (.int (x0 + (nI 1))), l4, l5, l6] st N I L P := st_go b174 dX11_isOver_121 (by decide) rfl
theorem s174_124 : sm_at C X 174 124 ls st N I L P = sm_at C X 174 4 ls st N I L P := st_go b174 dX11_isOver_124 (by decide) rfl
theorem s174_127 : sm_at C X 174 127 [l0, l1, some (.int x0), l3, l4, l5, l6] st N I L P = sm_at C X 174 128 [l0, l1, some (.int x0), l3, l4, l5, l6] (.int x0 :: st) N I L P := st_go b174 dX11_isOver_127 (by decide) rfl
theorem s174_128 (h : x0 = 0 ∨ x0 = 1) : sm_at C X 174 128 ls [.int x0] N I L P = some (some (.int x0), N, I, L, P) := st_zret b174 dX11_isOver_128 rfl h
theorem b175 : sm_b 175 = cX11_overOf := rfl
theorem s175_0 : sm_at C X 175 0 ls st N I L P = sm_at C X 175 1 ls (.int (nI 1) :: st) N I L P := st_go b175 dX11_overOf_0 (by decide) rfl
theorem s175_1 : sm_at C X 175 1 [l0, l1] (.int x0 :: st) N I L P = sm_at C X 175 2 [sm_cl l0, some (.int x0)] st N I L P := st_go b175 dX11_overOf_1 (by decide) rfl
theorem s175_2 : sm_at C X 175 2 [l0, some (.int x0)] st N I L P = sm_at C X 175 3 [l0, some (.int x0)] (.int x0 :: st) N I L P := st_go b175 dX11_overOf_2 (by decide) rfl
theorem s175_3 : sm_at C X 175 3 [some (.ref a), l1] st N I L P = sm_at C X 175 4 [some (.ref a), l1] (.ref a :: st) N I L P := st_go b175 dX11_overOf_3 (by decide) rfl
theorem s175_4 (h : a < N) (h1 : sm_lay a = .inl 11) : sm_at C X 175 4 ls (.ref a :: st) N I L P = sm_at C X 175 7 ls (.int (I a 12) :: st) N I L P := st_gfI b175 dX11_overOf_4 rfl rfl h h1
theorem s175_7 : sm_at C X 175 7 ls (.int x0 :: .int x1 :: st) N I L P = if x0 < x1 then sm_at C X 175 28 ls st N I L P else sm_at C X 175 10 ls st N I L P := st_br b175 dX11_overOf_7 (by decide) rfl
theorem s175_10 : sm_at C X 175 10 [some (.ref a), l1] st N I L P = sm_at C X 175 11 [some (.ref a), l1] (.ref a :: st) N I L P := st_go b175 dX11_overOf_10 (by decide) rfl
theorem s175_11 : sm_at C X 175 11 [l0, some (.int x0)] st N I L P = sm_at C X 175 12 [l0, some (.int x0)] (.int x0 :: st) N I L P := st_go b175 dX11_overOf_11 (by decide) rfl
theorem s175_12 (h : a < N) (h1 : sm_lay a = .inl 11) : sm_at C X 175 12 ls [w1, .ref a] N I L P = sm_af C X 175 15 ls [] (C 174 [.ref a, w1] N I L P) := st_virt b175 dX11_overOf_12 (n := 2) (rest := []) rfl rfl rfl rfl rfl rfl rfl h h1
theorem s175_15 : sm_at C X 175 15 ls (.int x0 :: st) N I L P = if x0 = 0 then sm_at C X 175 22 ls st N I L P else sm_at C X 175 18 ls st N I L P := st_br b175 dX11_overOf_15 (by decide) rfl
theorem s175_18 : sm_at C X 175 18 [l0, some (.int x0)] st N I L P = sm_at C X 175 19 [l0, some (.int x0)] (.int x0 :: st) N I L P := st_go b175 dX11_overOf_18 (by decide) rfl
theorem s175_19 : sm_at C X 175 19 ls st N I L P = sm_at C X 175 20 ls (.int (nI 1) :: st) N I L P := st_go b175 dX11_overOf_19 (by decide) rfl
theorem s175_20 : sm_at C X 175 20 ls (.int x0 :: .int x1 :: st) N I L P = sm_at C X 175 21 ls (.int (x1 - x0) :: st) N I L P := st_go b175 dX11_overOf_20 (by decide) rfl
theorem s175_21 : sm_at C X 175 21 ls [.int x0] N I L P = some (some (.int x0), N, I, L, P) := st_iret b175 dX11_overOf_21 rfl
theorem s175_22 : sm_at C X 175 22 [l0, some (.int x0)] st N I L P = sm_at C X 175 25 [sm_cl l0, some (.int (x0 + (nI 1)))] st N I L P := st_go b175 dX11_overOf_22 (by decide) rfl
theorem s175_25 : sm_at C X 175 25 ls st N I L P = sm_at C X 175 2 ls st N I L P := st_go b175 dX11_overOf_25 (by decide) rfl
theorem s175_28 : sm_at C X 175 28 ls st N I L P = sm_at C X 175 29 ls (.int (-1) :: st) N I L P := st_go b175 dX11_overOf_28 (by decide) rfl
theorem s175_29 : sm_at C X 175 29 ls [.int x0] N I L P = some (some (.int x0), N, I, L, P) := st_iret b175 dX11_overOf_29 rfl
theorem b176 : sm_b 176 = cX11_over := rfl
theorem s176_0 : sm_at C X 176 0 [some (.ref a)] st N I L P = sm_at C X 176 1 [some (.ref a)] (.ref a :: st) N I L P := st_go b176 dX11_over_0 (by decide) rfl
theorem s176_1 (h : a < N) (h1 : sm_lay a = .inl 11) : sm_at C X 176 1 ls [.ref a] N I L P = sm_af C X 176 4 ls [] (C 175 [.ref a] N I L P) := st_virt b176 dX11_over_1 (n := 1) (rest := []) rfl rfl rfl rfl rfl rfl rfl h h1
theorem s176_4 : sm_at C X 176 4 ls [.int x0] N I L P = some (some (.int x0), N, I, L, P) := st_iret b176 dX11_over_4 rfl
theorem b177 : sm_b 177 = cX11_mayCome := rfl
theorem s177_0 : sm_at C X 177 0 [some (.ref a), l1, l2, l3] st N I L P = sm_at C X 177 1 [some (.ref a), l1, l2, l3] (.ref a :: st) N I L P := st_go b177 dX11_mayCome_0 (by decide) rfl
theorem s177_1 (h : a < N) (h1 : sm_lay a = .inl 11) : sm_at C X 177 1 ls (.ref a :: st) N I L P = sm_at C X 177 4 ls (va_rf (P a 14) :: st) N I L P := st_gfR b177 dX11_mayCome_1 rfl rfl h h1
theorem s177_4 : sm_at C X 177 4 ls st N I L P = sm_at C X 177 6 ls (.int (nI 6) :: st) N I L P := st_go b177 dX11_mayCome_4 (by decide) rfl
theorem s177_6 : sm_at C X 177 6 [l0, some (.int x0), l2, l3] st N I L P = sm_at C X 177 7 [l0, some (.int x0), l2, l3] (.int x0 :: st) N I L P := st_go b177 dX11_mayCome_6 (by decide) rfl
theorem s177_7 : sm_at C X 177 7 ls (.int x0 :: .int x1 :: st) N I L P = sm_at C X 177 8 ls (.int (x1 * x0) :: st) N I L P := st_go b177 dX11_mayCome_7 (by decide) rfl
theorem s177_8 : sm_at C X 177 8 [l0, l1, some (.int x0), l3] st N I L P = sm_at C X 177 9 [l0, l1, some (.int x0), l3] (.int x0 :: st) N I L P := st_go b177 dX11_mayCome_8 (by decide) rfl
theorem s177_9 : sm_at C X 177 9 ls (.int x0 :: .int x1 :: st) N I L P = sm_at C X 177 10 ls (.int (x1 + x0) :: st) N I L P := st_go b177 dX11_mayCome_9 (by decide) rfl
theorem s177_10 : sm_at C X 177 10 [l0, l1, l2, some (.int x0)] st N I L P = sm_at C X 177 11 [l0, l1, l2, some (.int x0)] (.int x0 :: st) N I L P := st_go b177 dX11_mayCome_10 (by decide) rfl
theorem s177_11 : sm_at C X 177 11 [some (.ref a), l1, l2, l3] st N I L P = sm_at C X 177 12 [some (.ref a), l1, l2, l3] (.ref a :: st) N I L P := st_go b177 dX11_mayCome_11 (by decide) rfl
theorem s177_12 (h : a < N) (h1 : sm_lay a = .inl 11) : sm_at C X 177 12 ls (.ref a :: st) N I L P = sm_at C X 177 15 ls (va_rf (P a 14) :: st) N I L P := st_gfR b177 dX11_mayCome_12 rfl rfl h h1
theorem s177_15 : sm_at C X 177 15 ls st N I L P = sm_at C X 177 17 ls (.int (nI 6) :: st) N I L P := st_go b177 dX11_mayCome_15 (by decide) rfl
theorem s177_17 : sm_at C X 177 17 [l0, some (.int x0), l2, l3] st N I L P = sm_at C X 177 18 [l0, some (.int x0), l2, l3] (.int x0 :: st) N I L P := st_go b177 dX11_mayCome_17 (by decide) rfl
theorem s177_18 : sm_at C X 177 18 ls (.int x0 :: .int x1 :: st) N I L P = sm_at C X 177 19 ls (.int (x1 * x0) :: st) N I L P := st_go b177 dX11_mayCome_18 (by decide) rfl
theorem s177_19 : sm_at C X 177 19 [l0, l1, some (.int x0), l3] st N I L P = sm_at C X 177 20 [l0, l1, some (.int x0), l3] (.int x0 :: st) N I L P := st_go b177 dX11_mayCome_19 (by decide) rfl
theorem s177_20 : sm_at C X 177 20 ls (.int x0 :: .int x1 :: st) N I L P = sm_at C X 177 21 ls (.int (x1 + x0) :: st) N I L P := st_go b177 dX11_mayCome_20 (by decide) rfl
theorem s177_21 (h : a < N) (h1 : k < sm_al a) : sm_at C X 177 21 ls (.int (nI k) :: .ref a :: st) N I L P = sm_at C X 177 22 ls (.int (I a k) :: st) N I L P := st_iald b177 dX11_mayCome_21 h h1
theorem s177_22 : sm_at C X 177 22 ls (.int x0 :: .int x1 :: st) N I L P = if x0 ≤ x1 then sm_at C X 177 29 ls st N I L P else sm_at C X 177 25 ls st N I L P := st_br b177 dX11_mayCome_22 (by decide) rfl
theorem s177_25 : sm_at C X 177 25 [l0, l1, l2, some (.int x0)] st N I L P = sm_at C X 177 26 [l0, l1, l2, some (.int x0)] (.int x0 :: st) N I L P := st_go b177 dX11_mayCome_25 (by decide) rfl
theorem s177_26 : sm_at C X 177 26 ls st N I L P = sm_at C X 177 40 ls st N I L P := st_go b177 dX11_mayCome_26 (by decide) rfl
theorem s177_29 : sm_at C X 177 29 [some (.ref a), l1, l2, l3] st N I L P = sm_at C X 177 30 [some (.ref a), l1, l2, l3] (.ref a :: st) N I L P := st_go b177 dX11_mayCome_29 (by decide) rfl
theorem s177_30 (h : a < N) (h1 : sm_lay a = .inl 11) : sm_at C X 177 30 ls (.ref a :: st) N I L P = sm_at C X 177 33 ls (va_rf (P a 14) :: st) N I L P := st_gfR b177 dX11_mayCome_30 rfl rfl h h1
theorem s177_33 : sm_at C X 177 33 ls st N I L P = sm_at C X 177 35 ls (.int (nI 6) :: st) N I L P := st_go b177 dX11_mayCome_33 (by decide) rfl
theorem s177_35 : sm_at C X 177 35 [l0, some (.int x0), l2, l3] st N I L P = sm_at C X 177 36 [l0, some (.int x0), l2, l3] (.int x0 :: st) N I L P := st_go b177 dX11_mayCome_35 (by decide) rfl
theorem s177_36 : sm_at C X 177 36 ls (.int x0 :: .int x1 :: st) N I L P = sm_at C X 177 37 ls (.int (x1 * x0) :: st) N I L P := st_go b177 dX11_mayCome_36 (by decide) rfl
theorem s177_37 : sm_at C X 177 37 [l0, l1, some (.int x0), l3] st N I L P = sm_at C X 177 38 [l0, l1, some (.int x0), l3] (.int x0 :: st) N I L P := st_go b177 dX11_mayCome_37 (by decide) rfl
theorem s177_38 : sm_at C X 177 38 ls (.int x0 :: .int x1 :: st) N I L P = sm_at C X 177 39 ls (.int (x1 + x0) :: st) N I L P := st_go b177 dX11_mayCome_38 (by decide) rfl
theorem s177_39 (h : a < N) (h1 : k < sm_al a) : sm_at C X 177 39 ls (.int (nI k) :: .ref a :: st) N I L P = sm_at C X 177 40 ls (.int (I a k) :: st) N I L P := st_iald b177 dX11_mayCome_39 h h1
theorem s177_40 (h : a < N) (h1 : k < sm_al a) : sm_at C X 177 40 ls (.int x0 :: .int (nI k) :: .ref a :: st) N I L P = sm_at C X 177 41 ls st N (sm_up I a k x0) L P := st_iast b177 dX11_mayCome_40 h h1
theorem s177_41 : sm_at C X 177 41 ls [] N I L P = some (none, N, I, L, P) := st_ret b177 dX11_mayCome_41 (by decide) rfl
theorem b178 : sm_b 178 = cX11_layTouch := rfl
theorem s178_0 : sm_at C X 178 0 [some (.ref a), l1, l2, l3, l4, l5, l6, l7] st N I L P = sm_at C X 178 1 [some (.ref a), l1, l2, l3, l4, l5, l6, l7] (.ref a :: st) N I L P := st_go b178 dX11_layTouch_0 (by decide) rfl
theorem s178_1 (h : a < N) (h1 : sm_lay a = .inl 11) : sm_at C X 178 1 ls (.ref a :: st) N I L P = sm_at C X 178 4 ls (va_rf (P a 11) :: st) N I L P := st_gfR b178 dX11_layTouch_1 rfl rfl h h1
theorem s178_4 : sm_at C X 178 4 [l0, some (.int x0), l2, l3, l4, l5, l6, l7] st N I L P = sm_at C X 178 5 [l0, some (.int x0), l2, l3, l4, l5, l6, l7] (.int x0 :: st) N I L P := st_go b178 dX11_layTouch_4 (by decide) rfl
theorem s178_5 (h : a < N) (h1 : k < sm_al a) : sm_at C X 178 5 ls (.int (nI k) :: .ref a :: st) N I L P = sm_at C X 178 6 ls (.int (I a k) :: st) N I L P := st_iald b178 dX11_layTouch_5 h h1
theorem s178_6 : sm_at C X 178 6 [l0, l1, l2, l3, l4, l5, l6, l7] (.int x0 :: st) N I L P = sm_at C X 178 7 [l0, l1, sm_cl l2, some (.int x0), l4, l5, l6, l7] st N I L P := st_go b178 dX11_layTouch_6 (by decide) rfl
theorem s178_7 : sm_at C X 178 7 [l0, l1, l2, some (.int x0), l4, l5, l6, l7] st N I L P = sm_at C X 178 8 [l0, l1, l2, some (.int x0), l4, l5, l6, l7] (.int x0 :: st) N I L P := st_go b178 dX11_layTouch_7 (by decide) rfl
theorem s178_8 : sm_at C X 178 8 ls st N I L P = sm_at C X 178 9 ls (.int (-1) :: st) N I L P := st_go b178 dX11_layTouch_8 (by decide) rfl
theorem s178_9 : sm_at C X 178 9 ls (.int x0 :: .int x1 :: st) N I L P = if x1 = x0 then sm_at C X 178 25 ls st N I L P else sm_at C X 178 12 ls st N I L P := st_br b178 dX11_layTouch_9 (by decide) rfl
theorem s178_12 : sm_at C X 178 12 [some (.ref a), l1, l2, l3, l4, l5, l6, l7] st N I L P = sm_at C X 178 13 [some (.ref a), l1, l2, l3, l4, l5, l6, l7] (.ref a :: st) N I L P := st_go b178 dX11_layTouch_12 (by decide) rfl
theorem s178_13 (h : a < N) (h1 : sm_lay a = .inl 11) : sm_at C X 178 13 ls (.ref a :: st) N I L P = sm_at C X 178 16 ls (va_rf (P a 10) :: st) N I L P := st_gfR b178 dX11_layTouch_13 rfl rfl h h1
theorem s178_16 : sm_at C X 178 16 ls st N I L P = sm_at C X 178 18 ls (.int (nI 7) :: st) N I L P := st_go b178 dX11_layTouch_16 (by decide) rfl
theorem s178_18 : sm_at C X 178 18 [l0, l1, l2, some (.int x0), l4, l5, l6, l7] st N I L P = sm_at C X 178 19 [l0, l1, l2, some (.int x0), l4, l5, l6, l7] (.int x0 :: st) N I L P := st_go b178 dX11_layTouch_18 (by decide) rfl
theorem s178_19 : sm_at C X 178 19 ls (.int x0 :: .int x1 :: st) N I L P = sm_at C X 178 20 ls (.int (x1 * x0) :: st) N I L P := st_go b178 dX11_layTouch_19 (by decide) rfl
theorem s178_20 (h : a < N) (h1 : k < sm_al a) : sm_at C X 178 20 ls (.int (nI k) :: .ref a :: st) N I L P = sm_at C X 178 21 ls (.int (I a k) :: st) N I L P := st_iald b178 dX11_layTouch_20 h h1
theorem s178_21 : sm_at C X 178 21 ls st N I L P = sm_at C X 178 22 ls (.int (nI 2) :: st) N I L P := st_go b178 dX11_layTouch_21 (by decide) rfl
theorem s178_22 : sm_at C X 178 22 ls (.int x0 :: .int x1 :: st) N I L P = if ¬ x1 = x0 then sm_at C X 178 26 ls st N I L P else sm_at C X 178 25 ls st N I L P := st_br b178 dX11_layTouch_22 (by decide) rfl
theorem s178_25 : sm_at C X 178 25 ls [] N I L P = some (none, N, I, L, P) := st_ret b178 dX11_layTouch_25 (by decide) rfl
theorem s178_26 : sm_at C X 178 26 [some (.ref a), l1, l2, l3, l4, l5, l6, l7] st N I L P = sm_at C X 178 27 [some (.ref a), l1, l2, l3, l4, l5, l6, l7] (.ref a :: st) N I L P := st_go b178 dX11_layTouch_26 (by decide) rfl
theorem s178_27 (h : a < N) (h1 : sm_lay a = .inl 11) : sm_at C X 178 27 ls (.ref a :: st) N I L P = sm_at C X 178 30 ls (va_rf (P a 10) :: st) N I L P := st_gfR b178 dX11_layTouch_27 rfl rfl h h1
theorem s178_30 : sm_at C X 178 30 ls st N I L P = sm_at C X 178 32 ls (.int (nI 7) :: st) N I L P := st_go b178 dX11_layTouch_30 (by decide) rfl
theorem s178_32 : sm_at C X 178 32 [l0, l1, l2, some (.int x0), l4, l5, l6, l7] st N I L P = sm_at C X 178 33 [l0, l1, l2, some (.int x0), l4, l5, l6, l7] (.int x0 :: st) N I L P := st_go b178 dX11_layTouch_32 (by decide) rfl
theorem s178_33 : sm_at C X 178 33 ls (.int x0 :: .int x1 :: st) N I L P = sm_at C X 178 34 ls (.int (x1 * x0) :: st) N I L P := st_go b178 dX11_layTouch_33 (by decide) rfl
theorem s178_34 : sm_at C X 178 34 ls st N I L P = sm_at C X 178 35 ls (.int (nI 1) :: st) N I L P := st_go b178 dX11_layTouch_34 (by decide) rfl
theorem s178_35 : sm_at C X 178 35 ls (.int x0 :: .int x1 :: st) N I L P = sm_at C X 178 36 ls (.int (x1 + x0) :: st) N I L P := st_go b178 dX11_layTouch_35 (by decide) rfl
theorem s178_36 (h : a < N) (h1 : k < sm_al a) : sm_at C X 178 36 ls (.int (nI k) :: .ref a :: st) N I L P = sm_at C X 178 37 ls (.int (I a k) :: st) N I L P := st_iald b178 dX11_layTouch_36 h h1
theorem s178_37 : sm_at C X 178 37 [l0, l1, l2, l3, l4, l5, l6, l7] (.int x0 :: st) N I L P = sm_at C X 178 39 [l0, l1, l2, sm_cl l3, some (.int x0), l5, l6, l7] st N I L P := st_go b178 dX11_layTouch_37 (by decide) rfl
theorem s178_39 : sm_at C X 178 39 ls st N I L P = sm_at C X 178 40 ls (.int (nI 1) :: st) N I L P := st_go b178 dX11_layTouch_39 (by decide) rfl
theorem s178_40 : sm_at C X 178 40 [l0, l1, l2, l3, l4, l5, l6, l7] (.int x0 :: st) N I L P = sm_at C X 178 42 [l0, l1, l2, l3, sm_cl l4, some (.int x0), l6, l7] st N I L P := st_go b178 dX11_layTouch_40 (by decide) rfl
theorem s178_42 : sm_at C X 178 42 ls st N I L P = sm_at C X 178 43 ls (.int (nI 0) :: st) N I L P := st_go b178 dX11_layTouch_42 (by decide) rfl
theorem s178_43 : sm_at C X 178 43 [l0, l1, l2, l3, l4, l5, l6, l7] (.int x0 :: st) N I L P = sm_at C X 178 45 [l0, l1, l2, l3, l4, sm_cl l5, some (.int x0), l7] st N I L P := st_go b178 dX11_layTouch_43 (by decide) rfl
theorem s178_45 : sm_at C X 178 45 [l0, l1, l2, l3, l4, l5, some (.int x0), l7] st N I L P = sm_at C X 178 47 [l0, l1, l2, l3, l4, l5, some (.int x0), l7] (.int x0 :: st) N I L P := st_go b178 dX11_layTouch_45 (by decide) rfl
theorem s178_47 : sm_at C X 178 47 [l0, l1, l2, l3, some (.int x0), l5, l6, l7] st N I L P = sm_at C X 178 49 [l0, l1, l2, l3, some (.int x0), l5, l6, l7] (.int x0 :: st) N I L P := st_go b178 dX11_layTouch_47 (by decide) rfl
theorem s178_49 : sm_at C X 178 49 ls (.int x0 :: .int x1 :: st) N I L P = if x0 ≤ x1 then sm_at C X 178 91 ls st N I L P else sm_at C X 178 52 ls st N I L P := st_br b178 dX11_layTouch_49 (by decide) rfl
theorem s178_52 : sm_at C X 178 52 [l0, l1, l2, l3, l4, some (.int x0), l6, l7] st N I L P = sm_at C X 178 54 [l0, l1, l2, l3, l4, some (.int x0), l6, l7] (.int x0 :: st) N I L P := st_go b178 dX11_layTouch_52 (by decide) rfl
theorem s178_54 : sm_at C X 178 54 ls (.int x0 :: st) N I L P = if x0 = 0 then sm_at C X 178 82 ls st N I L P else sm_at C X 178 57 ls st N I L P := st_br b178 dX11_layTouch_54 (by decide) rfl
theorem s178_57 : sm_at C X 178 57 [l0, l1, some (.int x0), l3, l4, l5, l6, l7] st N I L P = sm_at C X 178 58 [l0, l1, some (.int x0), l3, l4, l5, l6, l7] (.int x0 :: st) N I L P := st_go b178 dX11_layTouch_57 (by decide) rfl
theorem s178_58 : sm_at C X 178 58 [some (.ref a), l1, l2, l3, l4, l5, l6, l7] st N I L P = sm_at C X 178 59 [some (.ref a), l1, l2, l3, l4, l5, l6, l7] (.ref a :: st) N I L P := st_go b178 dX11_layTouch_58 (by decide) rfl
theorem s178_59 (h : a < N) (h1 : sm_lay a = .inl 11) : sm_at C X 178 59 ls (.ref a :: st) N I L P = sm_at C X 178 62 ls (va_rf (P a 10) :: st) N I L P := st_gfR b178 dX11_layTouch_59 rfl rfl h h1
theorem s178_62 : sm_at C X 178 62 ls st N I L P = sm_at C X 178 64 ls (.int (nI 7) :: st) N I L P := st_go b178 dX11_layTouch_62 (by decide) rfl
theorem s178_64 : sm_at C X 178 64 [l0, l1, l2, some (.int x0), l4, l5, l6, l7] st N I L P = sm_at C X 178 65 [l0, l1, l2, some (.int x0), l4, l5, l6, l7] (.int x0 :: st) N I L P := st_go b178 dX11_layTouch_64 (by decide) rfl
theorem s178_65 : sm_at C X 178 65 ls (.int x0 :: .int x1 :: st) N I L P = sm_at C X 178 66 ls (.int (x1 * x0) :: st) N I L P := st_go b178 dX11_layTouch_65 (by decide) rfl
theorem s178_66 : sm_at C X 178 66 ls st N I L P = sm_at C X 178 67 ls (.int (nI 3) :: st) N I L P := st_go b178 dX11_layTouch_66 (by decide) rfl
theorem s178_67 : sm_at C X 178 67 ls (.int x0 :: .int x1 :: st) N I L P = sm_at C X 178 68 ls (.int (x1 + x0) :: st) N I L P := st_go b178 dX11_layTouch_67 (by decide) rfl
theorem s178_68 : sm_at C X 178 68 [l0, l1, l2, l3, l4, l5, some (.int x0), l7] st N I L P = sm_at C X 178 70 [l0, l1, l2, l3, l4, l5, some (.int x0), l7] (.int x0 :: st) N I L P := st_go b178 dX11_layTouch_68 (by decide) rfl
theorem s178_70 : sm_at C X 178 70 ls (.int x0 :: .int x1 :: st) N I L P = sm_at C X 178 71 ls (.int (x1 + x0) :: st) N I L P := st_go b178 dX11_layTouch_70 (by decide) rfl
theorem s178_71 (h : a < N) (h1 : k < sm_al a) : sm_at C X 178 71 ls (.int (nI k) :: .ref a :: st) N I L P = sm_at C X 178 72 ls (.int (I a k) :: st) N I L P := st_iald b178 dX11_layTouch_71 h h1
theorem s178_72 : sm_at C X 178 72 ls (.int x0 :: .int x1 :: st) N I L P = sm_at C X 178 73 ls (.int (x1 >>> (x0 &&& 31)) :: st) N I L P := st_go b178 dX11_layTouch_72 (by decide) rfl
theorem s178_73 : sm_at C X 178 73 ls st N I L P = sm_at C X 178 74 ls (.int (nI 1) :: st) N I L P := st_go b178 dX11_layTouch_73 (by decide) rfl
theorem s178_74 : sm_at C X 178 74 ls (.int x0 :: .int x1 :: st) N I L P = sm_at C X 178 75 ls (.int (x1 &&& x0) :: st) N I L P := st_go b178 dX11_layTouch_74 (by decide) rfl
theorem s178_75 : sm_at C X 178 75 ls (.int x0 :: st) N I L P = if ¬ x0 = 0 then sm_at C X 178 82 ls st N I L P else sm_at C X 178 78 ls st N I L P := st_br b178 dX11_layTouch_75 (by decide) rfl
theorem s178_78 : sm_at C X 178 78 ls st N I L P = sm_at C X 178 79 ls (.int (nI 1) :: st) N I L P := st_go b178 dX11_layTouch_78 (by decide) rfl
theorem s178_79 : sm_at C X 178 79 ls st N I L P = sm_at C X 178 83 ls st N I L P := st_go b178 dX11_layTouch_79 (by decide) rfl
theorem s178_82 : sm_at C X 178 82 ls st N I L P = sm_at C X 178 83 ls (.int (nI 0) :: st) N I L P := st_go b178 dX11_layTouch_82 (by decide) rfl
theorem s178_83 : sm_at C X 178 83 [l0, l1, l2, l3, l4, l5, l6, l7] (.int x0 :: st) N I L P = sm_at C X 178 85 [l0, l1, l2, l3, sm_cl l4, some (.int x0), l6, l7] st N I L P := st_go b178 dX11_layTouch_83 (by decide) rfl
theorem s178_85 : sm_at C X 178 85 [l0, l1, l2, l3, l4, l5, some (.int x0), l7] st N I L P = sm_at C X 178 88 [l0, l1, l2, l3, l4, sm_cl l5, some (.int (x0 + (nI 1))), l7] st N I L P := st_go b178 dX11_layTouch_85 (by decide) rfl
theorem s178_88 : sm_at C X 178 88 ls st N I L P = sm_at C X 178 45 ls st N I L P := st_go b178 dX11_layTouch_88 (by decide) rfl
theorem s178_91 : sm_at C X 178 91 ls st N I L P = sm_at C X 178 92 ls (.int (nI 0) :: st) N I L P := st_go b178 dX11_layTouch_91 (by decide) rfl
theorem s178_92 : sm_at C X 178 92 [l0, l1, l2, l3, l4, l5, l6, l7] (.int x0 :: st) N I L P = sm_at C X 178 94 [l0, l1, l2, l3, l4, sm_cl l5, some (.int x0), l7] st N I L P := st_go b178 dX11_layTouch_92 (by decide) rfl
theorem s178_94 : sm_at C X 178 94 [l0, l1, l2, l3, l4, l5, some (.int x0), l7] st N I L P = sm_at C X 178 96 [l0, l1, l2, l3, l4, l5, some (.int x0), l7] (.int x0 :: st) N I L P := st_go b178 dX11_layTouch_94 (by decide) rfl
theorem s178_96 : sm_at C X 178 96 [l0, l1, l2, l3, some (.int x0), l5, l6, l7] st N I L P = sm_at C X 178 98 [l0, l1, l2, l3, some (.int x0), l5, l6, l7] (.int x0 :: st) N I L P := st_go b178 dX11_layTouch_96 (by decide) rfl
theorem s178_98 : sm_at C X 178 98 ls (.int x0 :: .int x1 :: st) N I L P = if x0 ≤ x1 then sm_at C X 178 160 ls st N I L P else sm_at C X 178 101 ls st N I L P := st_br b178 dX11_layTouch_98 (by decide) rfl
theorem s178_101 : sm_at C X 178 101 [l0, l1, l2, l3, l4, some (.int x0), l6, l7] st N I L P = sm_at C X 178 103 [l0, l1, l2, l3, l4, some (.int x0), l6, l7] (.int x0 :: st) N I L P := st_go b178 dX11_layTouch_101 (by decide) rfl
theorem s178_103 : sm_at C X 178 103 ls (.int x0 :: st) N I L P = if x0 = 0 then sm_at C X 178 160 ls st N I L P else sm_at C X 178 106 ls st N I L P := st_br b178 dX11_layTouch_103 (by decide) rfl
theorem s178_106 : sm_at C X 178 106 [some (.ref a), l1, l2, l3, l4, l5, l6, l7] st N I L P = sm_at C X 178 107 [some (.ref a), l1, l2, l3, l4, l5, l6, l7] (.ref a :: st) N I L P := st_go b178 dX11_layTouch_106 (by decide) rfl
theorem s178_107 (h : a < N) (h1 : sm_lay a = .inl 11) : sm_at C X 178 107 ls (.ref a :: st) N I L P = sm_at C X 178 110 ls (va_rf (P a 10) :: st) N I L P := st_gfR b178 dX11_layTouch_107 rfl rfl h h1
theorem s178_110 : sm_at C X 178 110 ls st N I L P = sm_at C X 178 112 ls (.int (nI 7) :: st) N I L P := st_go b178 dX11_layTouch_110 (by decide) rfl
theorem s178_112 : sm_at C X 178 112 [l0, l1, l2, some (.int x0), l4, l5, l6, l7] st N I L P = sm_at C X 178 113 [l0, l1, l2, some (.int x0), l4, l5, l6, l7] (.int x0 :: st) N I L P := st_go b178 dX11_layTouch_112 (by decide) rfl
theorem s178_113 : sm_at C X 178 113 ls (.int x0 :: .int x1 :: st) N I L P = sm_at C X 178 114 ls (.int (x1 * x0) :: st) N I L P := st_go b178 dX11_layTouch_113 (by decide) rfl
theorem s178_114 : sm_at C X 178 114 ls st N I L P = sm_at C X 178 115 ls (.int (nI 3) :: st) N I L P := st_go b178 dX11_layTouch_114 (by decide) rfl
theorem s178_115 : sm_at C X 178 115 ls (.int x0 :: .int x1 :: st) N I L P = sm_at C X 178 116 ls (.int (x1 + x0) :: st) N I L P := st_go b178 dX11_layTouch_115 (by decide) rfl
theorem s178_116 : sm_at C X 178 116 [l0, l1, l2, l3, l4, l5, some (.int x0), l7] st N I L P = sm_at C X 178 118 [l0, l1, l2, l3, l4, l5, some (.int x0), l7] (.int x0 :: st) N I L P := st_go b178 dX11_layTouch_116 (by decide) rfl
theorem s178_118 : sm_at C X 178 118 ls (.int x0 :: .int x1 :: st) N I L P = sm_at C X 178 119 ls (.int (x1 + x0) :: st) N I L P := st_go b178 dX11_layTouch_118 (by decide) rfl
theorem s178_119 (h : a < N) (h1 : k < sm_al a) : sm_at C X 178 119 ls (.int (nI k) :: .ref a :: st) N I L P = sm_at C X 178 120 ls (.int (I a k) :: st) N I L P := st_iald b178 dX11_layTouch_119 h h1
theorem s178_120 : sm_at C X 178 120 [l0, l1, l2, l3, l4, l5, l6, l7] (.int x0 :: st) N I L P = sm_at C X 178 122 [l0, l1, l2, l3, l4, l5, sm_cl l6, some (.int x0)] st N I L P := st_go b178 dX11_layTouch_120 (by decide) rfl
theorem s178_122 : sm_at C X 178 122 [l0, l1, l2, l3, l4, l5, l6, some (.int x0)] st N I L P = sm_at C X 178 124 [l0, l1, l2, l3, l4, l5, l6, some (.int x0)] (.int x0 :: st) N I L P := st_go b178 dX11_layTouch_122 (by decide) rfl
theorem s178_124 : sm_at C X 178 124 [l0, some (.int x0), l2, l3, l4, l5, l6, l7] st N I L P = sm_at C X 178 125 [l0, some (.int x0), l2, l3, l4, l5, l6, l7] (.int x0 :: st) N I L P := st_go b178 dX11_layTouch_124 (by decide) rfl
theorem s178_125 : sm_at C X 178 125 ls (.int x0 :: .int x1 :: st) N I L P = if x1 = x0 then sm_at C X 178 154 ls st N I L P else sm_at C X 178 128 ls st N I L P := st_br b178 dX11_layTouch_125 (by decide) rfl
theorem s178_128 : sm_at C X 178 128 [some (.ref a), l1, l2, l3, l4, l5, l6, l7] st N I L P = sm_at C X 178 129 [some (.ref a), l1, l2, l3, l4, l5, l6, l7] (.ref a :: st) N I L P := st_go b178 dX11_layTouch_128 (by decide) rfl
theorem s178_129 : sm_at C X 178 129 [some (.ref a), l1, l2, l3, l4, l5, l6, l7] st N I L P = sm_at C X 178 130 [some (.ref a), l1, l2, l3, l4, l5, l6, l7] (.ref a :: st) N I L P := st_go b178 dX11_layTouch_129 (by decide) rfl
theorem s178_130 (h : a < N) (h1 : sm_lay a = .inl 11) : sm_at C X 178 130 ls (.ref a :: st) N I L P = sm_at C X 178 133 ls (va_rf (P a 1) :: st) N I L P := st_gfR b178 dX11_layTouch_130 rfl rfl h h1
theorem s178_133 : sm_at C X 178 133 [l0, some (.int x0), l2, l3, l4, l5, l6, l7] st N I L P = sm_at C X 178 134 [l0, some (.int x0), l2, l3, l4, l5, l6, l7] (.int x0 :: st) N I L P := st_go b178 dX11_layTouch_133 (by decide) rfl
theorem s178_134 (h : a < N) (h1 : k < sm_al a) : sm_at C X 178 134 ls (.int (nI k) :: .ref a :: st) N I L P = sm_at C X 178 135 ls (.int (I a k) :: st) N I L P := st_iald b178 dX11_layTouch_134 h h1
theorem s178_135 : sm_at C X 178 135 [some (.ref a), l1, l2, l3, l4, l5, l6, l7] st N I L P = sm_at C X 178 136 [some (.ref a), l1, l2, l3, l4, l5, l6, l7] (.ref a :: st) N I L P := st_go b178 dX11_layTouch_135 (by decide) rfl
theorem s178_136 (h : a < N) (h1 : sm_lay a = .inl 11) : sm_at C X 178 136 ls (.ref a :: st) N I L P = sm_at C X 178 139 ls (va_rf (P a 1) :: st) N I L P := st_gfR b178 dX11_layTouch_136 rfl rfl h h1
theorem s178_139 : sm_at C X 178 139 [l0, l1, l2, l3, l4, l5, l6, some (.int x0)] st N I L P = sm_at C X 178 141 [l0, l1, l2, l3, l4, l5, l6, some (.int x0)] (.int x0 :: st) N I L P := st_go b178 dX11_layTouch_139 (by decide) rfl
theorem s178_141 (h : a < N) (h1 : k < sm_al a) : sm_at C X 178 141 ls (.int (nI k) :: .ref a :: st) N I L P = sm_at C X 178 142 ls (.int (I a k) :: st) N I L P := st_iald b178 dX11_layTouch_141 h h1
theorem s178_142 : sm_at C X 178 142 ls st N I L P = sm_at C X 178 143 ls (.int (nI 1) :: st) N I L P := st_go b178 dX11_layTouch_142 (by decide) rfl
theorem s178_143 : sm_at C X 178 143 [some (.ref a), l1, l2, l3, l4, l5, l6, l7] st N I L P = sm_at C X 178 144 [some (.ref a), l1, l2, l3, l4, l5, l6, l7] (.ref a :: st) N I L P := st_go b178 dX11_layTouch_143 (by decide) rfl
theorem s178_144 : sm_at C X 178 144 [l0, some (.int x0), l2, l3, l4, l5, l6, l7] st N I L P = sm_at C X 178 145 [l0, some (.int x0), l2, l3, l4, l5, l6, l7] (.int x0 :: st) N I L P := st_go b178 dX11_layTouch_144 (by decide) rfl
theorem s178_145 : sm_at C X 178 145 [l0, l1, l2, l3, l4, l5, l6, some (.int x0)] st N I L P = sm_at C X 178 147 [l0, l1, l2, l3, l4, l5, l6, some (.int x0)] (.int x0 :: st) N I L P := st_go b178 dX11_layTouch_145 (by decide) rfl
theorem s178_147 (h : a < N) (h1 : sm_lay a = .inl 11) : sm_at C X 178 147 ls [w2, w1, .ref a, v3, v2, v1, v0] N I L P = sm_af C X 178 150 ls [v3, v2, v1, v0] (C 167 [.ref a, w1, w2] N I L P) := st_virt b178 dX11_layTouch_147 (n := 3) (rest := [v3, v2, v1, v0]) rfl rfl rfl rfl rfl rfl rfl h h1
theorem s178_150 : sm_at C X 178 150 ls (.int x0 :: .int x1 :: st) N I L P = sm_at C X 178 151 ls (.int (x1 + x0) :: st) N I L P := st_go b178 dX11_layTouch_150 (by decide) rfl
theorem s178_151 (h : a < N) (h1 : sm_lay a = .inl 11) : sm_at C X 178 151 ls [w3, w2, w1, .ref a] N I L P = sm_af C X 178 154 ls [] (C 177 [.ref a, w1, w2, w3] N I L P) := st_virt b178 dX11_layTouch_151 (n := 4) (rest := []) rfl rfl rfl rfl rfl rfl rfl h h1
theorem s178_154 : sm_at C X 178 154 [l0, l1, l2, l3, l4, l5, some (.int x0), l7] st N I L P = sm_at C X 178 157 [l0, l1, l2, l3, l4, sm_cl l5, some (.int (x0 + (nI 1))), l7] st N I L P := st_go b178 dX11_layTouch_154 (by decide) rfl
theorem s178_157 : sm_at C X 178 157 ls st N I L P = sm_at C X 178 94 ls st N I L P := st_go b178 dX11_layTouch_157 (by decide) rfl
theorem s178_160 : sm_at C X 178 160 ls [] N I L P = some (none, N, I, L, P) := st_ret b178 dX11_layTouch_160 (by decide) rfl
theorem b179 : sm_b 179 = cX11_layWays := rfl
theorem s179_0 : sm_at C X 179 0 ls st N I L P = sm_at C X 179 1 ls (.int (nI 0) :: st) N I L P := st_go b179 dX11_layWays_0 (by decide) rfl
theorem s179_1 : sm_at C X 179 1 [l0, l1, l2] (.int x0 :: st) N I L P = sm_at C X 179 2 [l0, sm_cl l1, some (.int x0)] st N I L P := st_go b179 dX11_layWays_1 (by decide) rfl
theorem s179_2 : sm_at C X 179 2 [l0, l1, some (.int x0)] st N I L P = sm_at C X 179 3 [l0, l1, some (.int x0)] (.int x0 :: st) N I L P := st_go b179 dX11_layWays_2 (by decide) rfl
theorem s179_3 : sm_at C X 179 3 ls st N I L P = sm_at C X 179 5 ls (.int (nI 36) :: st) N I L P := st_go b179 dX11_layWays_3 (by decide) rfl
theorem s179_5 : sm_at C X 179 5 ls (.int x0 :: .int x1 :: st) N I L P = if x0 ≤ x1 then sm_at C X 179 55 ls st N I L P else sm_at C X 179 8 ls st N I L P := st_br b179 dX11_layWays_5 (by decide) rfl
theorem s179_8 : sm_at C X 179 8 [some (.ref a), l1, l2] st N I L P = sm_at C X 179 9 [some (.ref a), l1, l2] (.ref a :: st) N I L P := st_go b179 dX11_layWays_8 (by decide) rfl
theorem s179_9 (h : a < N) (h1 : sm_lay a = .inl 11) : sm_at C X 179 9 ls (.ref a :: st) N I L P = sm_at C X 179 12 ls (va_rf (P a 14) :: st) N I L P := st_gfR b179 dX11_layWays_9 rfl rfl h h1
theorem s179_12 : sm_at C X 179 12 [l0, l1, some (.int x0)] st N I L P = sm_at C X 179 13 [l0, l1, some (.int x0)] (.int x0 :: st) N I L P := st_go b179 dX11_layWays_12 (by decide) rfl
theorem s179_13 : sm_at C X 179 13 [l0, l1, some (.int x0)] st N I L P = sm_at C X 179 14 [l0, l1, some (.int x0)] (.int x0 :: st) N I L P := st_go b179 dX11_layWays_13 (by decide) rfl
theorem s179_14 : sm_at C X 179 14 ls st N I L P = sm_at C X 179 16 ls (.int (nI 6) :: st) N I L P := st_go b179 dX11_layWays_14 (by decide) rfl
theorem s179_16 (h : ¬ x0 = 0) : sm_at C X 179 16 ls (.int x0 :: .int x1 :: st) N I L P = sm_at C X 179 17 ls (.int (x1 / x0) :: st) N I L P := st_idiv b179 dX11_layWays_16 h
theorem s179_17 : sm_at C X 179 17 [l0, l1, some (.int x0)] st N I L P = sm_at C X 179 18 [l0, l1, some (.int x0)] (.int x0 :: st) N I L P := st_go b179 dX11_layWays_17 (by decide) rfl
theorem s179_18 : sm_at C X 179 18 ls st N I L P = sm_at C X 179 20 ls (.int (nI 6) :: st) N I L P := st_go b179 dX11_layWays_18 (by decide) rfl
theorem s179_20 (h : ¬ x0 = 0) : sm_at C X 179 20 ls (.int x0 :: .int x1 :: st) N I L P = sm_at C X 179 21 ls (.int (x1 - x1 / x0 * x0) :: st) N I L P := st_irem b179 dX11_layWays_20 h
theorem s179_21 : sm_at C X 179 21 ls (.int x0 :: .int x1 :: st) N I L P = if ¬ x1 = x0 then sm_at C X 179 28 ls st N I L P else sm_at C X 179 24 ls st N I L P := st_br b179 dX11_layWays_21 (by decide) rfl
theorem s179_24 : sm_at C X 179 24 ls st N I L P = sm_at C X 179 25 ls (.int (nI 0) :: st) N I L P := st_go b179 dX11_layWays_24 (by decide) rfl
theorem s179_25 : sm_at C X 179 25 ls st N I L P = sm_at C X 179 48 ls st N I L P := st_go b179 dX11_layWays_25 (by decide) rfl
theorem s179_28 : sm_at C X 179 28 [some (.ref a), l1, l2] st N I L P = sm_at C X 179 29 [some (.ref a), l1, l2] (.ref a :: st) N I L P := st_go b179 dX11_layWays_28 (by decide) rfl
theorem s179_29 (h : a < N) (h1 : sm_lay a = .inl 11) : sm_at C X 179 29 ls (.ref a :: st) N I L P = sm_at C X 179 32 ls (va_rf (P a 0) :: st) N I L P := st_gfR b179 dX11_layWays_29 rfl rfl h h1
theorem s179_32 : sm_at C X 179 32 [l0, l1, some (.int x0)] st N I L P = sm_at C X 179 33 [l0, l1, some (.int x0)] (.int x0 :: st) N I L P := st_go b179 dX11_layWays_32 (by decide) rfl
theorem s179_33 (h : a < N) (h1 : k < sm_al a) : sm_at C X 179 33 ls (.int (nI k) :: .ref a :: st) N I L P = sm_at C X 179 34 ls (.int (I a k) :: st) N I L P := st_iald b179 dX11_layWays_33 h h1
theorem s179_34 : sm_at C X 179 34 ls (.int x0 :: st) N I L P = if x0 ≤ 0 then sm_at C X 179 46 ls st N I L P else sm_at C X 179 37 ls st N I L P := st_br b179 dX11_layWays_34 (by decide) rfl
theorem s179_37 : sm_at C X 179 37 [some (.ref a), l1, l2] st N I L P = sm_at C X 179 38 [some (.ref a), l1, l2] (.ref a :: st) N I L P := st_go b179 dX11_layWays_37 (by decide) rfl
theorem s179_38 (h : a < N) (h1 : sm_lay a = .inl 11) : sm_at C X 179 38 ls (.ref a :: st) N I L P = sm_at C X 179 41 ls (va_rf (P a 0) :: st) N I L P := st_gfR b179 dX11_layWays_38 rfl rfl h h1
theorem s179_41 : sm_at C X 179 41 [l0, l1, some (.int x0)] st N I L P = sm_at C X 179 42 [l0, l1, some (.int x0)] (.int x0 :: st) N I L P := st_go b179 dX11_layWays_41 (by decide) rfl
theorem s179_42 (h : a < N) (h1 : k < sm_al a) : sm_at C X 179 42 ls (.int (nI k) :: .ref a :: st) N I L P = sm_at C X 179 43 ls (.int (I a k) :: st) N I L P := st_iald b179 dX11_layWays_42 h h1
theorem s179_43 : sm_at C X 179 43 ls st N I L P = sm_at C X 179 48 ls st N I L P := st_go b179 dX11_layWays_43 (by decide) rfl
theorem s179_46 : sm_at C X 179 46 ls st N I L P = sm_at C X 179 48 ls (.int (nI 1000000) :: st) N I L P := st_go b179 dX11_layWays_46 (by decide) rfl
theorem s179_48 (h : a < N) (h1 : k < sm_al a) : sm_at C X 179 48 ls (.int x0 :: .int (nI k) :: .ref a :: st) N I L P = sm_at C X 179 49 ls st N (sm_up I a k x0) L P := st_iast b179 dX11_layWays_48 h h1
theorem s179_49 : sm_at C X 179 49 [l0, l1, some (.int x0)] st N I L P = sm_at C X 179 52 [l0, sm_cl l1, some (.int (x0 + (nI 1)))] st N I L P := st_go b179 dX11_layWays_49 (by decide) rfl
theorem s179_52 : sm_at C X 179 52 ls st N I L P = sm_at C X 179 2 ls st N I L P := st_go b179 dX11_layWays_52 (by decide) rfl
theorem s179_55 : sm_at C X 179 55 ls st N I L P = sm_at C X 179 56 ls (.int (nI 0) :: st) N I L P := st_go b179 dX11_layWays_55 (by decide) rfl
theorem s179_56 : sm_at C X 179 56 [l0, l1, l2] (.int x0 :: st) N I L P = sm_at C X 179 57 [l0, sm_cl l1, some (.int x0)] st N I L P := st_go b179 dX11_layWays_56 (by decide) rfl
theorem s179_57 : sm_at C X 179 57 [l0, l1, some (.int x0)] st N I L P = sm_at C X 179 58 [l0, l1, some (.int x0)] (.int x0 :: st) N I L P := st_go b179 dX11_layWays_57 (by decide) rfl
theorem s179_58 : sm_at C X 179 58 ls st N I L P = sm_at C X 179 60 ls (.int (nI 10) :: st) N I L P := st_go b179 dX11_layWays_58 (by decide) rfl
theorem s179_60 : sm_at C X 179 60 ls (.int x0 :: .int x1 :: st) N I L P = if x0 ≤ x1 then sm_at C X 179 75 ls st N I L P else sm_at C X 179 63 ls st N I L P := st_br b179 dX11_layWays_60 (by decide) rfl
theorem s179_63 : sm_at C X 179 63 [some (.ref a), l1, l2] st N I L P = sm_at C X 179 64 [some (.ref a), l1, l2] (.ref a :: st) N I L P := st_go b179 dX11_layWays_63 (by decide) rfl
theorem s179_64 : sm_at C X 179 64 [l0, l1, some (.int x0)] st N I L P = sm_at C X 179 65 [l0, l1, some (.int x0)] (.int x0 :: st) N I L P := st_go b179 dX11_layWays_64 (by decide) rfl
theorem s179_65 : sm_at C X 179 65 [l0, some (.int x0), l2] st N I L P = sm_at C X 179 66 [l0, some (.int x0), l2] (.int x0 :: st) N I L P := st_go b179 dX11_layWays_65 (by decide) rfl
theorem s179_66 (h : a < N) (h1 : sm_lay a = .inl 11) : sm_at C X 179 66 ls [w2, w1, .ref a] N I L P = sm_af C X 179 69 ls [] (C 178 [.ref a, w1, w2] N I L P) := st_virt b179 dX11_layWays_66 (n := 3) (rest := []) rfl rfl rfl rfl rfl rfl rfl h h1
theorem s179_69 : sm_at C X 179 69 [l0, l1, some (.int x0)] st N I L P = sm_at C X 179 72 [l0, sm_cl l1, some (.int (x0 + (nI 1)))] st N I L P := st_go b179 dX11_layWays_69 (by decide) rfl
theorem s179_72 : sm_at C X 179 72 ls st N I L P = sm_at C X 179 57 ls st N I L P := st_go b179 dX11_layWays_72 (by decide) rfl
theorem s179_75 : sm_at C X 179 75 ls [] N I L P = some (none, N, I, L, P) := st_ret b179 dX11_layWays_75 (by decide) rfl
theorem b180 : sm_b 180 = cX11_closeWays := rfl
theorem s180_0 : sm_at C X 180 0 ls st N I L P = sm_at C X 180 1 ls (.int (nI 0) :: st) N I L P := st_go b180 dX11_closeWays_0 (by decide) rfl
theorem s180_1 : sm_at C X 180 1 [l0, l1, l2, l3] (.int x0 :: st) N I L P = sm_at C X 180 2 [sm_cl l0, some (.int x0), l2, l3] st N I L P := st_go b180 dX11_closeWays_1 (by decide) rfl
theorem s180_2 : sm_at C X 180 2 [l0, some (.int x0), l2, l3] st N I L P = sm_at C X 180 3 [l0, some (.int x0), l2, l3] (.int x0 :: st) N I L P := st_go b180 dX11_closeWays_2 (by decide) rfl
theorem s180_3 : sm_at C X 180 3 ls st N I L P = sm_at C X 180 5 ls (.int (nI 6) :: st) N I L P := st_go b180 dX11_closeWays_3 (by decide) rfl
theorem s180_5 : sm_at C X 180 5 ls (.int x0 :: .int x1 :: st) N I L P = if x0 ≤ x1 then sm_at C X 180 71 ls st N I L P else sm_at C X 180 8 ls st N I L P := st_br b180 dX11_closeWays_5 (by decide) rfl
theorem s180_8 : sm_at C X 180 8 ls st N I L P = sm_at C X 180 9 ls (.int (nI 0) :: st) N I L P := st_go b180 dX11_closeWays_8 (by decide) rfl
theorem s180_9 : sm_at C X 180 9 [l0, l1, l2, l3] (.int x0 :: st) N I L P = sm_at C X 180 10 [l0, sm_cl l1, some (.int x0), l3] st N I L P := st_go b180 dX11_closeWays_9 (by decide) rfl
theorem s180_10 : sm_at C X 180 10 [l0, l1, some (.int x0), l3] st N I L P = sm_at C X 180 11 [l0, l1, some (.int x0), l3] (.int x0 :: st) N I L P := st_go b180 dX11_closeWays_10 (by decide) rfl
theorem s180_11 : sm_at C X 180 11 ls st N I L P = sm_at C X 180 13 ls (.int (nI 6) :: st) N I L P := st_go b180 dX11_closeWays_11 (by decide) rfl
theorem s180_13 : sm_at C X 180 13 ls (.int x0 :: .int x1 :: st) N I L P = if x0 ≤ x1 then sm_at C X 180 65 ls st N I L P else sm_at C X 180 16 ls st N I L P := st_br b180 dX11_closeWays_13 (by decide) rfl
theorem s180_16 : sm_at C X 180 16 ls st N I L P = sm_at C X 180 17 ls (.int (nI 0) :: st) N I L P := st_go b180 dX11_closeWays_16 (by decide) rfl
theorem s180_17 : sm_at C X 180 17 [l0, l1, l2, l3] (.int x0 :: st) N I L P = sm_at C X 180 18 [l0, l1, sm_cl l2, some (.int x0)] st N I L P := st_go b180 dX11_closeWays_17 (by decide) rfl
theorem s180_18 : sm_at C X 180 18 [l0, l1, l2, some (.int x0)] st N I L P = sm_at C X 180 19 [l0, l1, l2, some (.int x0)] (.int x0 :: st) N I L P := st_go b180 dX11_closeWays_18 (by decide) rfl
theorem s180_19 : sm_at C X 180 19 ls st N I L P = sm_at C X 180 21 ls (.int (nI 6) :: st) N I L P := st_go b180 dX11_closeWays_19 (by decide) rfl
theorem s180_21 : sm_at C X 180 21 ls (.int x0 :: .int x1 :: st) N I L P = if x0 ≤ x1 then sm_at C X 180 59 ls st N I L P else sm_at C X 180 24 ls st N I L P := st_br b180 dX11_closeWays_21 (by decide) rfl
theorem s180_24 : sm_at C X 180 24 [some (.ref a), l1, l2, l3] st N I L P = sm_at C X 180 25 [some (.ref a), l1, l2, l3] (.ref a :: st) N I L P := st_go b180 dX11_closeWays_24 (by decide) rfl
theorem s180_25 : sm_at C X 180 25 [l0, l1, some (.int x0), l3] st N I L P = sm_at C X 180 26 [l0, l1, some (.int x0), l3] (.int x0 :: st) N I L P := st_go b180 dX11_closeWays_25 (by decide) rfl
theorem s180_26 : sm_at C X 180 26 [l0, l1, l2, some (.int x0)] st N I L P = sm_at C X 180 27 [l0, l1, l2, some (.int x0)] (.int x0 :: st) N I L P := st_go b180 dX11_closeWays_26 (by decide) rfl
theorem s180_27 : sm_at C X 180 27 [some (.ref a), l1, l2, l3] st N I L P = sm_at C X 180 28 [some (.ref a), l1, l2, l3] (.ref a :: st) N I L P := st_go b180 dX11_closeWays_27 (by decide) rfl
theorem s180_28 (h : a < N) (h1 : sm_lay a = .inl 11) : sm_at C X 180 28 ls (.ref a :: st) N I L P = sm_at C X 180 31 ls (va_rf (P a 14) :: st) N I L P := st_gfR b180 dX11_closeWays_28 rfl rfl h h1
theorem s180_31 : sm_at C X 180 31 ls st N I L P = sm_at C X 180 33 ls (.int (nI 6) :: st) N I L P := st_go b180 dX11_closeWays_31 (by decide) rfl
theorem s180_33 : sm_at C X 180 33 [l0, l1, some (.int x0), l3] st N I L P = sm_at C X 180 34 [l0, l1, some (.int x0), l3] (.int x0 :: st) N I L P := st_go b180 dX11_closeWays_33 (by decide) rfl
theorem s180_34 : sm_at C X 180 34 ls (.int x0 :: .int x1 :: st) N I L P = sm_at C X 180 35 ls (.int (x1 * x0) :: st) N I L P := st_go b180 dX11_closeWays_34 (by decide) rfl
theorem s180_35 : sm_at C X 180 35 [l0, some (.int x0), l2, l3] st N I L P = sm_at C X 180 36 [l0, some (.int x0), l2, l3] (.int x0 :: st) N I L P := st_go b180 dX11_closeWays_35 (by decide) rfl
theorem s180_36 : sm_at C X 180 36 ls (.int x0 :: .int x1 :: st) N I L P = sm_at C X 180 37 ls (.int (x1 + x0) :: st) N I L P := st_go b180 dX11_closeWays_36 (by decide) rfl
theorem s180_37 (h : a < N) (h1 : k < sm_al a) : sm_at C X 180 37 ls (.int (nI k) :: .ref a :: st) N I L P = sm_at C X 180 38 ls (.int (I a k) :: st) N I L P := st_iald b180 dX11_closeWays_37 h h1
theorem s180_38 : sm_at C X 180 38 [some (.ref a), l1, l2, l3] st N I L P = sm_at C X 180 39 [some (.ref a), l1, l2, l3] (.ref a :: st) N I L P := st_go b180 dX11_closeWays_38 (by decide) rfl
theorem s180_39 (h : a < N) (h1 : sm_lay a = .inl 11) : sm_at C X 180 39 ls (.ref a :: st) N I L P = sm_at C X 180 42 ls (va_rf (P a 14) :: st) N I L P := st_gfR b180 dX11_closeWays_39 rfl rfl h h1
theorem s180_42 : sm_at C X 180 42 ls st N I L P = sm_at C X 180 44 ls (.int (nI 6) :: st) N I L P := st_go b180 dX11_closeWays_42 (by decide) rfl
theorem s180_44 : sm_at C X 180 44 [l0, some (.int x0), l2, l3] st N I L P = sm_at C X 180 45 [l0, some (.int x0), l2, l3] (.int x0 :: st) N I L P := st_go b180 dX11_closeWays_44 (by decide) rfl
theorem s180_45 : sm_at C X 180 45 ls (.int x0 :: .int x1 :: st) N I L P = sm_at C X 180 46 ls (.int (x1 * x0) :: st) N I L P := st_go b180 dX11_closeWays_45 (by decide) rfl
theorem s180_46 : sm_at C X 180 46 [l0, l1, l2, some (.int x0)] st N I L P = sm_at C X 180 47 [l0, l1, l2, some (.int x0)] (.int x0 :: st) N I L P := st_go b180 dX11_closeWays_46 (by decide) rfl
theorem s180_47 : sm_at C X 180 47 ls (.int x0 :: .int x1 :: st) N I L P = sm_at C X 180 48 ls (.int (x1 + x0) :: st) N I L P := st_go b180 dX11_closeWays_47 (by decide) rfl
theorem s180_48 (h : a < N) (h1 : k < sm_al a) : sm_at C X 180 48 ls (.int (nI k) :: .ref a :: st) N I L P = sm_at C X 180 49 ls (.int (I a k) :: st) N I L P := st_iald b180 dX11_closeWays_48 h h1
theorem s180_49 : sm_at C X 180 49 ls (.int x0 :: .int x1 :: st) N I L P = sm_at C X 180 50 ls (.int (x1 + x0) :: st) N I L P := st_go b180 dX11_closeWays_49 (by decide) rfl
theorem s180_50 (h : a < N) (h1 : sm_lay a = .inl 11) : sm_at C X 180 50 ls [w3, w2, w1, .ref a] N I L P = sm_af C X 180 53 ls [] (C 177 [.ref a, w1, w2, w3] N I L P) := st_virt b180 dX11_closeWays_50 (n := 4) (rest := []) rfl rfl rfl rfl rfl rfl rfl h h1
theorem s180_53 : sm_at C X 180 53 [l0, l1, l2, some (.int x0)] st N I L P = sm_at C X 180 56 [l0, l1, sm_cl l2, some (.int (x0 + (nI 1)))] st N I L P := st_go b180 dX11_closeWays_53 (by decide) rfl
theorem s180_56 : sm_at C X 180 56 ls st N I L P = sm_at C X 180 18 ls st N I L P := st_go b180 dX11_closeWays_56 (by decide) rfl
theorem s180_59 : sm_at C X 180 59 [l0, l1, some (.int x0), l3] st N I L P = sm_at C X 180 62 [l0, sm_cl l1, some (.int (x0 + (nI 1))), l3] st N I L P := st_go b180 dX11_closeWays_59 (by decide) rfl
theorem s180_62 : sm_at C X 180 62 ls st N I L P = sm_at C X 180 10 ls st N I L P := st_go b180 dX11_closeWays_62 (by decide) rfl
theorem s180_65 : sm_at C X 180 65 [l0, some (.int x0), l2, l3] st N I L P = sm_at C X 180 68 [sm_cl l0, some (.int (x0 + (nI 1))), l2, l3] st N I L P := st_go b180 dX11_closeWays_65 (by decide) rfl
theorem s180_68 : sm_at C X 180 68 ls st N I L P = sm_at C X 180 2 ls st N I L P := st_go b180 dX11_closeWays_68 (by decide) rfl
theorem s180_71 : sm_at C X 180 71 ls [] N I L P = some (none, N, I, L, P) := st_ret b180 dX11_closeWays_71 (by decide) rfl
theorem b181 : sm_b 181 = cX11_soonestNow := rfl
theorem s181_0 : sm_at C X 181 0 [some (.ref a), l1, l2, l3] st N I L P = sm_at C X 181 1 [some (.ref a), l1, l2, l3] (.ref a :: st) N I L P := st_go b181 dX11_soonestNow_0 (by decide) rfl
theorem s181_1 (h : a < N) (h1 : sm_lay a = .inl 11) : sm_at C X 181 1 ls (.ref a :: st) N I L P = sm_at C X 181 4 ls (va_rf (P a 14) :: st) N I L P := st_gfR b181 dX11_soonestNow_1 rfl rfl h h1
theorem s181_4 : sm_at C X 181 4 ls st N I L P = sm_at C X 181 6 ls (.int (nI 6) :: st) N I L P := st_go b181 dX11_soonestNow_4 (by decide) rfl
theorem s181_6 : sm_at C X 181 6 [l0, some (.int x0), l2, l3] st N I L P = sm_at C X 181 7 [l0, some (.int x0), l2, l3] (.int x0 :: st) N I L P := st_go b181 dX11_soonestNow_6 (by decide) rfl
theorem s181_7 : sm_at C X 181 7 ls (.int x0 :: .int x1 :: st) N I L P = sm_at C X 181 8 ls (.int (x1 * x0) :: st) N I L P := st_go b181 dX11_soonestNow_7 (by decide) rfl
theorem s181_8 : sm_at C X 181 8 [l0, l1, some (.int x0), l3] st N I L P = sm_at C X 181 9 [l0, l1, some (.int x0), l3] (.int x0 :: st) N I L P := st_go b181 dX11_soonestNow_8 (by decide) rfl
theorem s181_9 : sm_at C X 181 9 ls (.int x0 :: .int x1 :: st) N I L P = sm_at C X 181 10 ls (.int (x1 + x0) :: st) N I L P := st_go b181 dX11_soonestNow_9 (by decide) rfl
theorem s181_10 (h : a < N) (h1 : k < sm_al a) : sm_at C X 181 10 ls (.int (nI k) :: .ref a :: st) N I L P = sm_at C X 181 11 ls (.int (I a k) :: st) N I L P := st_iald b181 dX11_soonestNow_10 h h1
theorem s181_11 : sm_at C X 181 11 [l0, l1, l2, l3] (.int x0 :: st) N I L P = sm_at C X 181 12 [l0, l1, sm_cl l2, some (.int x0)] st N I L P := st_go b181 dX11_soonestNow_11 (by decide) rfl
theorem s181_12 : sm_at C X 181 12 [l0, l1, l2, some (.int x0)] st N I L P = sm_at C X 181 13 [l0, l1, l2, some (.int x0)] (.int x0 :: st) N I L P := st_go b181 dX11_soonestNow_12 (by decide) rfl
theorem s181_13 : sm_at C X 181 13 ls st N I L P = sm_at C X 181 15 ls (.int (nI 1000000) :: st) N I L P := st_go b181 dX11_soonestNow_13 (by decide) rfl
theorem s181_15 : sm_at C X 181 15 ls (.int x0 :: .int x1 :: st) N I L P = if x1 < x0 then sm_at C X 181 22 ls st N I L P else sm_at C X 181 18 ls st N I L P := st_br b181 dX11_soonestNow_15 (by decide) rfl
theorem s181_18 : sm_at C X 181 18 ls st N I L P = sm_at C X 181 19 ls (.int (-1) :: st) N I L P := st_go b181 dX11_soonestNow_18 (by decide) rfl
theorem s181_19 : sm_at C X 181 19 ls st N I L P = sm_at C X 181 23 ls st N I L P := st_go b181 dX11_soonestNow_19 (by decide) rfl
theorem s181_22 : sm_at C X 181 22 [l0, l1, l2, some (.int x0)] st N I L P = sm_at C X 181 23 [l0, l1, l2, some (.int x0)] (.int x0 :: st) N I L P := st_go b181 dX11_soonestNow_22 (by decide) rfl
theorem s181_23 : sm_at C X 181 23 ls [.int x0] N I L P = some (some (.int x0), N, I, L, P) := st_iret b181 dX11_soonestNow_23 rfl
theorem b182 : sm_b 182 = cX11_soonest := rfl
theorem s182_0 : sm_at C X 182 0 [l0, some (.int x0), l2] st N I L P = sm_at C X 182 1 [l0, some (.int x0), l2] (.int x0 :: st) N I L P := st_go b182 dX11_soonest_0 (by decide) rfl
theorem s182_1 : sm_at C X 182 1 ls [w0] N I L P = sm_af C X 182 4 ls [] (C 147 [w0] N I L P) := st_stat b182 dX11_soonest_1 (n := 1) (rest := []) rfl rfl rfl rfl rfl rfl
theorem s182_4 : sm_at C X 182 4 ls (.int x0 :: st) N I L P = if x0 = 0 then sm_at C X 182 14 ls st N I L P else sm_at C X 182 7 ls st N I L P := st_br b182 dX11_soonest_4 (by decide) rfl
theorem s182_7 : sm_at C X 182 7 [l0, l1, some (.int x0)] st N I L P = sm_at C X 182 8 [l0, l1, some (.int x0)] (.int x0 :: st) N I L P := st_go b182 dX11_soonest_7 (by decide) rfl
theorem s182_8 : sm_at C X 182 8 ls [w0] N I L P = sm_af C X 182 11 ls [] (C 147 [w0] N I L P) := st_stat b182 dX11_soonest_8 (n := 1) (rest := []) rfl rfl rfl rfl rfl rfl
theorem s182_11 : sm_at C X 182 11 ls (.int x0 :: st) N I L P = if ¬ x0 = 0 then sm_at C X 182 17 ls st N I L P else sm_at C X 182 14 ls st N I L P := st_br b182 dX11_soonest_11 (by decide) rfl
theorem s182_14 : sm_at C X 182 14 ls st N I L P = sm_at C X 182 16 ls (.int (-101) :: st) N I L P := st_go b182 dX11_soonest_14 (by decide) rfl
theorem s182_16 : sm_at C X 182 16 ls [.int x0] N I L P = some (some (.int x0), N, I, L, P) := st_iret b182 dX11_soonest_16 rfl
theorem s182_17 : sm_at C X 182 17 [some (.ref a), l1, l2] st N I L P = sm_at C X 182 18 [some (.ref a), l1, l2] (.ref a :: st) N I L P := st_go b182 dX11_soonest_17 (by decide) rfl
theorem s182_18 : sm_at C X 182 18 ls st N I L P = sm_at C X 182 19 ls (.int (nI 0) :: st) N I L P := st_go b182 dX11_soonest_18 (by decide) rfl
theorem s182_19 (h : a < N) (h1 : sm_lay a = .inl 11) : sm_at C X 182 19 ls [w1, .ref a] N I L P = sm_af C X 182 22 ls [] (C 179 [.ref a, w1] N I L P) := st_virt b182 dX11_soonest_19 (n := 2) (rest := []) rfl rfl rfl rfl rfl rfl rfl h h1
theorem s182_22 : sm_at C X 182 22 [some (.ref a), l1, l2] st N I L P = sm_at C X 182 23 [some (.ref a), l1, l2] (.ref a :: st) N I L P := st_go b182 dX11_soonest_22 (by decide) rfl
theorem s182_23 (h : a < N) (h1 : sm_lay a = .inl 11) : sm_at C X 182 23 ls [.ref a] N I L P = sm_af C X 182 26 ls [] (C 180 [.ref a] N I L P) := st_virt b182 dX11_soonest_23 (n := 1) (rest := []) rfl rfl rfl rfl rfl rfl rfl h h1
theorem s182_26 : sm_at C X 182 26 [some (.ref a), l1, l2] st N I L P = sm_at C X 182 27 [some (.ref a), l1, l2] (.ref a :: st) N I L P := st_go b182 dX11_soonest_26 (by decide) rfl
theorem s182_27 : sm_at C X 182 27 [l0, some (.int x0), l2] st N I L P = sm_at C X 182 28 [l0, some (.int x0), l2] (.int x0 :: st) N I L P := st_go b182 dX11_soonest_27 (by decide) rfl
theorem s182_28 : sm_at C X 182 28 [l0, l1, some (.int x0)] st N I L P = sm_at C X 182 29 [l0, l1, some (.int x0)] (.int x0 :: st) N I L P := st_go b182 dX11_soonest_28 (by decide) rfl
theorem s182_29 (h : a < N) (h1 : sm_lay a = .inl 11) : sm_at C X 182 29 ls [w2, w1, .ref a] N I L P = sm_af C X 182 32 ls [] (C 181 [.ref a, w1, w2] N I L P) := st_virt b182 dX11_soonest_29 (n := 3) (rest := []) rfl rfl rfl rfl rfl rfl rfl h h1
theorem s182_32 : sm_at C X 182 32 ls [.int x0] N I L P = some (some (.int x0), N, I, L, P) := st_iret b182 dX11_soonest_32 rfl
theorem b183 : sm_b 183 = cX11_unseen := rfl
theorem s183_0 : sm_at C X 183 0 [l0, some (.int x0), l2, l3] st N I L P = sm_at C X 183 1 [l0, some (.int x0), l2, l3] (.int x0 :: st) N I L P := st_go b183 dX11_unseen_0 (by decide) rfl
theorem s183_1 : sm_at C X 183 1 ls [w0] N I L P = sm_af C X 183 4 ls [] (C 147 [w0] N I L P) := st_stat b183 dX11_unseen_1 (n := 1) (rest := []) rfl rfl rfl rfl rfl rfl
theorem s183_4 : sm_at C X 183 4 ls (.int x0 :: st) N I L P = if x0 = 0 then sm_at C X 183 14 ls st N I L P else sm_at C X 183 7 ls st N I L P := st_br b183 dX11_unseen_4 (by decide) rfl
theorem s183_7 : sm_at C X 183 7 [l0, l1, some (.int x0), l3] st N I L P = sm_at C X 183 8 [l0, l1, some (.int x0), l3] (.int x0 :: st) N I L P := st_go b183 dX11_unseen_7 (by decide) rfl
theorem s183_8 : sm_at C X 183 8 ls [w0] N I L P = sm_af C X 183 11 ls [] (C 147 [w0] N I L P) := st_stat b183 dX11_unseen_8 (n := 1) (rest := []) rfl rfl rfl rfl rfl rfl
theorem s183_11 : sm_at C X 183 11 ls (.int x0 :: st) N I L P = if ¬ x0 = 0 then sm_at C X 183 17 ls st N I L P else sm_at C X 183 14 ls st N I L P := st_br b183 dX11_unseen_11 (by decide) rfl
theorem s183_14 : sm_at C X 183 14 ls st N I L P = sm_at C X 183 16 ls (.int (-101) :: st) N I L P := st_go b183 dX11_unseen_14 (by decide) rfl
theorem s183_16 : sm_at C X 183 16 ls [.int x0] N I L P = some (some (.int x0), N, I, L, P) := st_iret b183 dX11_unseen_16 rfl
theorem s183_17 : sm_at C X 183 17 [l0, l1, l2, some (.int x0)] st N I L P = sm_at C X 183 18 [l0, l1, l2, some (.int x0)] (.int x0 :: st) N I L P := st_go b183 dX11_unseen_17 (by decide) rfl
theorem s183_18 : sm_at C X 183 18 ls (.int x0 :: st) N I L P = sm_at C X 183 19 ls (.long x0.toInt64 :: st) N I L P := st_go b183 dX11_unseen_18 (by decide) rfl
theorem s183_19 : sm_at C X 183 19 ls st N I L P = sm_at C X 183 20 ls (.long (lN 0) :: st) N I L P := st_go b183 dX11_unseen_19 (by decide) rfl
theorem s183_20 : sm_at C X 183 20 ls st N I L P = sm_at C X 183 23 ls (.long (lN 1023) :: st) N I L P := st_go b183 dX11_unseen_20 (by decide) rfl
theorem s183_23 : sm_at C X 183 23 ls [w2, w1, w0] N I L P = sm_af C X 183 26 ls [] (C 146 [w0, w1, w2] N I L P) := st_stat b183 dX11_unseen_23 (n := 3) (rest := []) rfl rfl rfl rfl rfl rfl
theorem s183_26 : sm_at C X 183 26 ls (.int x0 :: st) N I L P = if ¬ x0 = 0 then sm_at C X 183 32 ls st N I L P else sm_at C X 183 29 ls st N I L P := st_br b183 dX11_unseen_26 (by decide) rfl
theorem s183_29 : sm_at C X 183 29 ls st N I L P = sm_at C X 183 31 ls (.int (-102) :: st) N I L P := st_go b183 dX11_unseen_29 (by decide) rfl
theorem s183_31 : sm_at C X 183 31 ls [.int x0] N I L P = some (some (.int x0), N, I, L, P) := st_iret b183 dX11_unseen_31 rfl
theorem s183_32 : sm_at C X 183 32 [some (.ref a), l1, l2, l3] st N I L P = sm_at C X 183 33 [some (.ref a), l1, l2, l3] (.ref a :: st) N I L P := st_go b183 dX11_unseen_32 (by decide) rfl
theorem s183_33 : sm_at C X 183 33 [l0, l1, l2, some (.int x0)] st N I L P = sm_at C X 183 34 [l0, l1, l2, some (.int x0)] (.int x0 :: st) N I L P := st_go b183 dX11_unseen_33 (by decide) rfl
theorem s183_34 (h : a < N) (h1 : sm_lay a = .inl 11) : sm_at C X 183 34 ls [w1, .ref a] N I L P = sm_af C X 183 37 ls [] (C 179 [.ref a, w1] N I L P) := st_virt b183 dX11_unseen_34 (n := 2) (rest := []) rfl rfl rfl rfl rfl rfl rfl h h1
theorem s183_37 : sm_at C X 183 37 [some (.ref a), l1, l2, l3] st N I L P = sm_at C X 183 38 [some (.ref a), l1, l2, l3] (.ref a :: st) N I L P := st_go b183 dX11_unseen_37 (by decide) rfl
theorem s183_38 (h : a < N) (h1 : sm_lay a = .inl 11) : sm_at C X 183 38 ls [.ref a] N I L P = sm_af C X 183 41 ls [] (C 180 [.ref a] N I L P) := st_virt b183 dX11_unseen_38 (n := 1) (rest := []) rfl rfl rfl rfl rfl rfl rfl h h1
theorem s183_41 : sm_at C X 183 41 [some (.ref a), l1, l2, l3] st N I L P = sm_at C X 183 42 [some (.ref a), l1, l2, l3] (.ref a :: st) N I L P := st_go b183 dX11_unseen_41 (by decide) rfl
theorem s183_42 : sm_at C X 183 42 [l0, some (.int x0), l2, l3] st N I L P = sm_at C X 183 43 [l0, some (.int x0), l2, l3] (.int x0 :: st) N I L P := st_go b183 dX11_unseen_42 (by decide) rfl
theorem s183_43 : sm_at C X 183 43 [l0, l1, some (.int x0), l3] st N I L P = sm_at C X 183 44 [l0, l1, some (.int x0), l3] (.int x0 :: st) N I L P := st_go b183 dX11_unseen_43 (by decide) rfl
theorem s183_44 (h : a < N) (h1 : sm_lay a = .inl 11) : sm_at C X 183 44 ls [w2, w1, .ref a] N I L P = sm_af C X 183 47 ls [] (C 181 [.ref a, w1, w2] N I L P) := st_virt b183 dX11_unseen_44 (n := 3) (rest := []) rfl rfl rfl rfl rfl rfl rfl h h1
theorem s183_47 : sm_at C X 183 47 ls [.int x0] N I L P = some (some (.int x0), N, I, L, P) := st_iret b183 dX11_unseen_47 rfl
theorem b184 : sm_b 184 = cX11_isSoon := rfl
theorem s184_0 : sm_at C X 184 0 [some (.ref a), l1, l2, l3, l4, l5] st N I L P = sm_at C X 184 1 [some (.ref a), l1, l2, l3, l4, l5] (.ref a :: st) N I L P := st_go b184 dX11_isSoon_0 (by decide) rfl
theorem s184_1 : sm_at C X 184 1 ls st N I L P = sm_at C X 184 2 ls (.int (nI 0) :: st) N I L P := st_go b184 dX11_isSoon_1 (by decide) rfl
theorem s184_2 (h : a < N) (h1 : sm_lay a = .inl 11) : sm_at C X 184 2 ls [w1, .ref a] N I L P = sm_af C X 184 5 ls [] (C 179 [.ref a, w1] N I L P) := st_virt b184 dX11_isSoon_2 (n := 2) (rest := []) rfl rfl rfl rfl rfl rfl rfl h h1
theorem s184_5 : sm_at C X 184 5 [l0, l1, some (.int x0), l3, l4, l5] st N I L P = sm_at C X 184 6 [l0, l1, some (.int x0), l3, l4, l5] (.int x0 :: st) N I L P := st_go b184 dX11_isSoon_5 (by decide) rfl
theorem s184_6 : sm_at C X 184 6 ls st N I L P = sm_at C X 184 7 ls (.int (-1) :: st) N I L P := st_go b184 dX11_isSoon_6 (by decide) rfl
theorem s184_7 : sm_at C X 184 7 ls (.int x0 :: .int x1 :: st) N I L P = if x1 = x0 then sm_at C X 184 36 ls st N I L P else sm_at C X 184 10 ls st N I L P := st_br b184 dX11_isSoon_7 (by decide) rfl
theorem s184_10 : sm_at C X 184 10 [some (.ref a), l1, l2, l3, l4, l5] st N I L P = sm_at C X 184 11 [some (.ref a), l1, l2, l3, l4, l5] (.ref a :: st) N I L P := st_go b184 dX11_isSoon_10 (by decide) rfl
theorem s184_11 : sm_at C X 184 11 [l0, l1, some (.int x0), l3, l4, l5] st N I L P = sm_at C X 184 12 [l0, l1, some (.int x0), l3, l4, l5] (.int x0 :: st) N I L P := st_go b184 dX11_isSoon_11 (by decide) rfl
theorem s184_12 : sm_at C X 184 12 ls st N I L P = sm_at C X 184 14 ls (.int (nI 6) :: st) N I L P := st_go b184 dX11_isSoon_12 (by decide) rfl
theorem s184_14 (h : ¬ x0 = 0) : sm_at C X 184 14 ls (.int x0 :: .int x1 :: st) N I L P = sm_at C X 184 15 ls (.int (x1 / x0) :: st) N I L P := st_idiv b184 dX11_isSoon_14 h
theorem s184_15 : sm_at C X 184 15 [l0, l1, some (.int x0), l3, l4, l5] st N I L P = sm_at C X 184 16 [l0, l1, some (.int x0), l3, l4, l5] (.int x0 :: st) N I L P := st_go b184 dX11_isSoon_15 (by decide) rfl
theorem s184_16 : sm_at C X 184 16 ls st N I L P = sm_at C X 184 18 ls (.int (nI 6) :: st) N I L P := st_go b184 dX11_isSoon_16 (by decide) rfl
theorem s184_18 (h : ¬ x0 = 0) : sm_at C X 184 18 ls (.int x0 :: .int x1 :: st) N I L P = sm_at C X 184 19 ls (.int (x1 - x1 / x0 * x0) :: st) N I L P := st_irem b184 dX11_isSoon_18 h
theorem s184_19 : sm_at C X 184 19 ls st N I L P = sm_at C X 184 20 ls (.int (nI 1) :: st) N I L P := st_go b184 dX11_isSoon_19 (by decide) rfl
theorem s184_20 (h : a < N) (h1 : sm_lay a = .inl 11) : sm_at C X 184 20 ls [w3, w2, w1, .ref a] N I L P = sm_af C X 184 23 ls [] (C 177 [.ref a, w1, w2, w3] N I L P) := st_virt b184 dX11_isSoon_20 (n := 4) (rest := []) rfl rfl rfl rfl rfl rfl rfl h h1
theorem s184_23 : sm_at C X 184 23 [some (.ref a), l1, l2, l3, l4, l5] st N I L P = sm_at C X 184 24 [some (.ref a), l1, l2, l3, l4, l5] (.ref a :: st) N I L P := st_go b184 dX11_isSoon_23 (by decide) rfl
theorem s184_24 : sm_at C X 184 24 [l0, l1, some (.int x0), l3, l4, l5] st N I L P = sm_at C X 184 25 [l0, l1, some (.int x0), l3, l4, l5] (.int x0 :: st) N I L P := st_go b184 dX11_isSoon_24 (by decide) rfl
theorem s184_25 : sm_at C X 184 25 ls st N I L P = sm_at C X 184 27 ls (.int (nI 6) :: st) N I L P := st_go b184 dX11_isSoon_25 (by decide) rfl
theorem s184_27 (h : ¬ x0 = 0) : sm_at C X 184 27 ls (.int x0 :: .int x1 :: st) N I L P = sm_at C X 184 28 ls (.int (x1 - x1 / x0 * x0) :: st) N I L P := st_irem b184 dX11_isSoon_27 h
theorem s184_28 : sm_at C X 184 28 [l0, l1, some (.int x0), l3, l4, l5] st N I L P = sm_at C X 184 29 [l0, l1, some (.int x0), l3, l4, l5] (.int x0 :: st) N I L P := st_go b184 dX11_isSoon_28 (by decide) rfl
theorem s184_29 : sm_at C X 184 29 ls st N I L P = sm_at C X 184 31 ls (.int (nI 6) :: st) N I L P := st_go b184 dX11_isSoon_29 (by decide) rfl
theorem s184_31 (h : ¬ x0 = 0) : sm_at C X 184 31 ls (.int x0 :: .int x1 :: st) N I L P = sm_at C X 184 32 ls (.int (x1 / x0) :: st) N I L P := st_idiv b184 dX11_isSoon_31 h
theorem s184_32 : sm_at C X 184 32 ls st N I L P = sm_at C X 184 33 ls (.int (nI 1) :: st) N I L P := st_go b184 dX11_isSoon_32 (by decide) rfl
theorem s184_33 (h : a < N) (h1 : sm_lay a = .inl 11) : sm_at C X 184 33 ls [w3, w2, w1, .ref a] N I L P = sm_af C X 184 36 ls [] (C 177 [.ref a, w1, w2, w3] N I L P) := st_virt b184 dX11_isSoon_33 (n := 4) (rest := []) rfl rfl rfl rfl rfl rfl rfl h h1
theorem s184_36 : sm_at C X 184 36 [l0, l1, l2, some (.int x0), l4, l5] st N I L P = sm_at C X 184 37 [l0, l1, l2, some (.int x0), l4, l5] (.int x0 :: st) N I L P := st_go b184 dX11_isSoon_36 (by decide) rfl
theorem s184_37 : sm_at C X 184 37 ls st N I L P = sm_at C X 184 38 ls (.int (-1) :: st) N I L P := st_go b184 dX11_isSoon_37 (by decide) rfl
theorem s184_38 : sm_at C X 184 38 ls (.int x0 :: .int x1 :: st) N I L P = if x1 = x0 then sm_at C X 184 67 ls st N I L P else sm_at C X 184 41 ls st N I L P := st_br b184 dX11_isSoon_38 (by decide) rfl
theorem s184_41 : sm_at C X 184 41 [some (.ref a), l1, l2, l3, l4, l5] st N I L P = sm_at C X 184 42 [some (.ref a), l1, l2, l3, l4, l5] (.ref a :: st) N I L P := st_go b184 dX11_isSoon_41 (by decide) rfl
theorem s184_42 : sm_at C X 184 42 [l0, l1, l2, some (.int x0), l4, l5] st N I L P = sm_at C X 184 43 [l0, l1, l2, some (.int x0), l4, l5] (.int x0 :: st) N I L P := st_go b184 dX11_isSoon_42 (by decide) rfl
theorem s184_43 : sm_at C X 184 43 ls st N I L P = sm_at C X 184 45 ls (.int (nI 6) :: st) N I L P := st_go b184 dX11_isSoon_43 (by decide) rfl
theorem s184_45 (h : ¬ x0 = 0) : sm_at C X 184 45 ls (.int x0 :: .int x1 :: st) N I L P = sm_at C X 184 46 ls (.int (x1 / x0) :: st) N I L P := st_idiv b184 dX11_isSoon_45 h
theorem s184_46 : sm_at C X 184 46 [l0, l1, l2, some (.int x0), l4, l5] st N I L P = sm_at C X 184 47 [l0, l1, l2, some (.int x0), l4, l5] (.int x0 :: st) N I L P := st_go b184 dX11_isSoon_46 (by decide) rfl
theorem s184_47 : sm_at C X 184 47 ls st N I L P = sm_at C X 184 49 ls (.int (nI 6) :: st) N I L P := st_go b184 dX11_isSoon_47 (by decide) rfl
theorem s184_49 (h : ¬ x0 = 0) : sm_at C X 184 49 ls (.int x0 :: .int x1 :: st) N I L P = sm_at C X 184 50 ls (.int (x1 - x1 / x0 * x0) :: st) N I L P := st_irem b184 dX11_isSoon_49 h
theorem s184_50 : sm_at C X 184 50 ls st N I L P = sm_at C X 184 51 ls (.int (nI 1) :: st) N I L P := st_go b184 dX11_isSoon_50 (by decide) rfl
theorem s184_51 (h : a < N) (h1 : sm_lay a = .inl 11) : sm_at C X 184 51 ls [w3, w2, w1, .ref a] N I L P = sm_af C X 184 54 ls [] (C 177 [.ref a, w1, w2, w3] N I L P) := st_virt b184 dX11_isSoon_51 (n := 4) (rest := []) rfl rfl rfl rfl rfl rfl rfl h h1
theorem s184_54 : sm_at C X 184 54 [some (.ref a), l1, l2, l3, l4, l5] st N I L P = sm_at C X 184 55 [some (.ref a), l1, l2, l3, l4, l5] (.ref a :: st) N I L P := st_go b184 dX11_isSoon_54 (by decide) rfl
theorem s184_55 : sm_at C X 184 55 [l0, l1, l2, some (.int x0), l4, l5] st N I L P = sm_at C X 184 56 [l0, l1, l2, some (.int x0), l4, l5] (.int x0 :: st) N I L P := st_go b184 dX11_isSoon_55 (by decide) rfl
theorem s184_56 : sm_at C X 184 56 ls st N I L P = sm_at C X 184 58 ls (.int (nI 6) :: st) N I L P := st_go b184 dX11_isSoon_56 (by decide) rfl
theorem s184_58 (h : ¬ x0 = 0) : sm_at C X 184 58 ls (.int x0 :: .int x1 :: st) N I L P = sm_at C X 184 59 ls (.int (x1 - x1 / x0 * x0) :: st) N I L P := st_irem b184 dX11_isSoon_58 h
theorem s184_59 : sm_at C X 184 59 [l0, l1, l2, some (.int x0), l4, l5] st N I L P = sm_at C X 184 60 [l0, l1, l2, some (.int x0), l4, l5] (.int x0 :: st) N I L P := st_go b184 dX11_isSoon_59 (by decide) rfl
theorem s184_60 : sm_at C X 184 60 ls st N I L P = sm_at C X 184 62 ls (.int (nI 6) :: st) N I L P := st_go b184 dX11_isSoon_60 (by decide) rfl
theorem s184_62 (h : ¬ x0 = 0) : sm_at C X 184 62 ls (.int x0 :: .int x1 :: st) N I L P = sm_at C X 184 63 ls (.int (x1 / x0) :: st) N I L P := st_idiv b184 dX11_isSoon_62 h
theorem s184_63 : sm_at C X 184 63 ls st N I L P = sm_at C X 184 64 ls (.int (nI 1) :: st) N I L P := st_go b184 dX11_isSoon_63 (by decide) rfl
theorem s184_64 (h : a < N) (h1 : sm_lay a = .inl 11) : sm_at C X 184 64 ls [w3, w2, w1, .ref a] N I L P = sm_af C X 184 67 ls [] (C 177 [.ref a, w1, w2, w3] N I L P) := st_virt b184 dX11_isSoon_64 (n := 4) (rest := []) rfl rfl rfl rfl rfl rfl rfl h h1
theorem s184_67 : sm_at C X 184 67 [some (.ref a), l1, l2, l3, l4, l5] st N I L P = sm_at C X 184 68 [some (.ref a), l1, l2, l3, l4, l5] (.ref a :: st) N I L P := st_go b184 dX11_isSoon_67 (by decide) rfl
theorem s184_68 (h : a < N) (h1 : sm_lay a = .inl 11) : sm_at C X 184 68 ls [.ref a] N I L P = sm_af C X 184 71 ls [] (C 180 [.ref a] N I L P) := st_virt b184 dX11_isSoon_68 (n := 1) (rest := []) rfl rfl rfl rfl rfl rfl rfl h h1
theorem s184_71 : sm_at C X 184 71 ls st N I L P = sm_at C X 184 72 ls (.int (nI 1) :: st) N I L P := st_go b184 dX11_isSoon_71 (by decide) rfl
theorem s184_72 : sm_at C X 184 72 [l0, l1, l2, l3, l4, l5] (.int x0 :: st) N I L P = sm_at C X 184 74 [l0, l1, l2, sm_cl l3, some (.int x0), l5] st N I L P := st_go b184 dX11_isSoon_72 (by decide) rfl
theorem s184_74 : sm_at C X 184 74 ls st N I L P = sm_at C X 184 75 ls (.int (nI 0) :: st) N I L P := st_go b184 dX11_isSoon_74 (by decide) rfl
theorem s184_75 : sm_at C X 184 75 [l0, l1, l2, l3, l4, l5] (.int x0 :: st) N I L P = sm_at C X 184 77 [l0, l1, l2, l3, sm_cl l4, some (.int x0)] st N I L P := st_go b184 dX11_isSoon_75 (by decide) rfl
theorem s184_77 : sm_at C X 184 77 [l0, l1, l2, l3, l4, some (.int x0)] st N I L P = sm_at C X 184 79 [l0, l1, l2, l3, l4, some (.int x0)] (.int x0 :: st) N I L P := st_go b184 dX11_isSoon_77 (by decide) rfl
theorem s184_79 : sm_at C X 184 79 ls st N I L P = sm_at C X 184 81 ls (.int (nI 36) :: st) N I L P := st_go b184 dX11_isSoon_79 (by decide) rfl
theorem s184_81 : sm_at C X 184 81 ls (.int x0 :: .int x1 :: st) N I L P = if x0 ≤ x1 then sm_at C X 184 113 ls st N I L P else sm_at C X 184 84 ls st N I L P := st_br b184 dX11_isSoon_81 (by decide) rfl
theorem s184_84 : sm_at C X 184 84 [l0, l1, l2, l3, some (.int x0), l5] st N I L P = sm_at C X 184 86 [l0, l1, l2, l3, some (.int x0), l5] (.int x0 :: st) N I L P := st_go b184 dX11_isSoon_84 (by decide) rfl
theorem s184_86 : sm_at C X 184 86 ls (.int x0 :: st) N I L P = if x0 = 0 then sm_at C X 184 104 ls st N I L P else sm_at C X 184 89 ls st N I L P := st_br b184 dX11_isSoon_86 (by decide) rfl
theorem s184_89 : sm_at C X 184 89 [some (.ref a), l1, l2, l3, l4, l5] st N I L P = sm_at C X 184 90 [some (.ref a), l1, l2, l3, l4, l5] (.ref a :: st) N I L P := st_go b184 dX11_isSoon_89 (by decide) rfl
theorem s184_90 (h : a < N) (h1 : sm_lay a = .inl 11) : sm_at C X 184 90 ls (.ref a :: st) N I L P = sm_at C X 184 93 ls (va_rf (P a 14) :: st) N I L P := st_gfR b184 dX11_isSoon_90 rfl rfl h h1
theorem s184_93 : sm_at C X 184 93 [l0, l1, l2, l3, l4, some (.int x0)] st N I L P = sm_at C X 184 95 [l0, l1, l2, l3, l4, some (.int x0)] (.int x0 :: st) N I L P := st_go b184 dX11_isSoon_93 (by decide) rfl
theorem s184_95 (h : a < N) (h1 : k < sm_al a) : sm_at C X 184 95 ls (.int (nI k) :: .ref a :: st) N I L P = sm_at C X 184 96 ls (.int (I a k) :: st) N I L P := st_iald b184 dX11_isSoon_95 h h1
theorem s184_96 : sm_at C X 184 96 [l0, some (.int x0), l2, l3, l4, l5] st N I L P = sm_at C X 184 97 [l0, some (.int x0), l2, l3, l4, l5] (.int x0 :: st) N I L P := st_go b184 dX11_isSoon_96 (by decide) rfl
theorem s184_97 : sm_at C X 184 97 ls (.int x0 :: .int x1 :: st) N I L P = if x0 < x1 then sm_at C X 184 104 ls st N I L P else sm_at C X 184 100 ls st N I L P := st_br b184 dX11_isSoon_97 (by decide) rfl
theorem s184_100 : sm_at C X 184 100 ls st N I L P = sm_at C X 184 101 ls (.int (nI 1) :: st) N I L P := st_go b184 dX11_isSoon_100 (by decide) rfl
theorem s184_101 : sm_at C X 184 101 ls st N I L P = sm_at C X 184 105 ls st N I L P := st_go b184 dX11_isSoon_101 (by decide) rfl
theorem s184_104 : sm_at C X 184 104 ls st N I L P = sm_at C X 184 105 ls (.int (nI 0) :: st) N I L P := st_go b184 dX11_isSoon_104 (by decide) rfl
theorem s184_105 : sm_at C X 184 105 [l0, l1, l2, l3, l4, l5] (.int x0 :: st) N I L P = sm_at C X 184 107 [l0, l1, l2, sm_cl l3, some (.int x0), l5] st N I L P := st_go b184 dX11_isSoon_105 (by decide) rfl
theorem s184_107 : sm_at C X 184 107 [l0, l1, l2, l3, l4, some (.int x0)] st N I L P = sm_at C X 184 110 [l0, l1, l2, l3, sm_cl l4, some (.int (x0 + (nI 1)))] st N I L P := st_go b184 dX11_isSoon_107 (by decide) rfl
theorem s184_110 : sm_at C X 184 110 ls st N I L P = sm_at C X 184 77 ls st N I L P := st_go b184 dX11_isSoon_110 (by decide) rfl
theorem s184_113 : sm_at C X 184 113 [l0, l1, l2, l3, some (.int x0), l5] st N I L P = sm_at C X 184 115 [l0, l1, l2, l3, some (.int x0), l5] (.int x0 :: st) N I L P := st_go b184 dX11_isSoon_113 (by decide) rfl
theorem s184_115 (h : x0 = 0 ∨ x0 = 1) : sm_at C X 184 115 ls [.int x0] N I L P = some (some (.int x0), N, I, L, P) := st_zret b184 dX11_isSoon_115 rfl h
theorem b185 : sm_b 185 = cX11_tellPairs := rfl
theorem s185_0 : sm_at C X 185 0 [l0, l1, l2, some (.int x0), l4] st N I L P = sm_at C X 185 1 [l0, l1, l2, some (.int x0), l4] (.int x0 :: st) N I L P := st_go b185 dX11_tellPairs_0 (by decide) rfl
theorem s185_1 : sm_at C X 185 1 ls st N I L P = sm_at C X 185 2 ls (.int (nI 3) :: st) N I L P := st_go b185 dX11_tellPairs_1 (by decide) rfl
theorem s185_2 : sm_at C X 185 2 ls (.int x0 :: .int x1 :: st) N I L P = if x0 ≤ x1 then sm_at C X 185 9 ls st N I L P else sm_at C X 185 5 ls st N I L P := st_br b185 dX11_tellPairs_2 (by decide) rfl
theorem s185_5 : sm_at C X 185 5 [l0, some (.int x0), l2, l3, l4] st N I L P = sm_at C X 185 6 [l0, some (.int x0), l2, l3, l4] (.int x0 :: st) N I L P := st_go b185 dX11_tellPairs_5 (by decide) rfl
theorem s185_6 : sm_at C X 185 6 ls st N I L P = sm_at C X 185 10 ls st N I L P := st_go b185 dX11_tellPairs_6 (by decide) rfl
theorem s185_9 : sm_at C X 185 9 [l0, l1, some (.int x0), l3, l4] st N I L P = sm_at C X 185 10 [l0, l1, some (.int x0), l3, l4] (.int x0 :: st) N I L P := st_go b185 dX11_tellPairs_9 (by decide) rfl
theorem s185_10 : sm_at C X 185 10 [l0, l1, l2, l3, l4] (.int x0 :: st) N I L P = sm_at C X 185 12 [l0, l1, l2, sm_cl l3, some (.int x0)] st N I L P := st_go b185 dX11_tellPairs_10 (by decide) rfl
theorem s185_12 : sm_at C X 185 12 [l0, l1, l2, some (.int x0), l4] st N I L P = sm_at C X 185 13 [l0, l1, l2, some (.int x0), l4] (.int x0 :: st) N I L P := st_go b185 dX11_tellPairs_12 (by decide) rfl
theorem s185_13 : sm_at C X 185 13 ls (.int x0 :: st) N I L P = if ¬ x0 = 0 then sm_at C X 185 20 ls st N I L P else sm_at C X 185 16 ls st N I L P := st_br b185 dX11_tellPairs_13 (by decide) rfl
theorem s185_16 : sm_at C X 185 16 [some (.int x0), l1, l2, l3, l4] st N I L P = sm_at C X 185 17 [some (.int x0), l1, l2, l3, l4] (.int x0 :: st) N I L P := st_go b185 dX11_tellPairs_16 (by decide) rfl
theorem s185_17 : sm_at C X 185 17 ls st N I L P = sm_at C X 185 50 ls st N I L P := st_go b185 dX11_tellPairs_17 (by decide) rfl
theorem s185_20 : sm_at C X 185 20 [l0, l1, l2, l3, some (.int x0)] st N I L P = sm_at C X 185 22 [l0, l1, l2, l3, some (.int x0)] (.int x0 :: st) N I L P := st_go b185 dX11_tellPairs_20 (by decide) rfl
theorem s185_22 : sm_at C X 185 22 ls st N I L P = sm_at C X 185 23 ls (.int (-1) :: st) N I L P := st_go b185 dX11_tellPairs_22 (by decide) rfl
theorem s185_23 : sm_at C X 185 23 ls (.int x0 :: .int x1 :: st) N I L P = if ¬ x1 = x0 then sm_at C X 185 30 ls st N I L P else sm_at C X 185 26 ls st N I L P := st_br b185 dX11_tellPairs_23 (by decide) rfl
theorem s185_26 : sm_at C X 185 26 ls st N I L P = sm_at C X 185 27 ls (.int (-1) :: st) N I L P := st_go b185 dX11_tellPairs_26 (by decide) rfl
theorem s185_27 : sm_at C X 185 27 ls st N I L P = sm_at C X 185 50 ls st N I L P := st_go b185 dX11_tellPairs_27 (by decide) rfl
theorem s185_30 : sm_at C X 185 30 [l0, l1, l2, some (.int x0), l4] st N I L P = sm_at C X 185 31 [l0, l1, l2, some (.int x0), l4] (.int x0 :: st) N I L P := st_go b185 dX11_tellPairs_30 (by decide) rfl
theorem s185_31 : sm_at C X 185 31 ls st N I L P = sm_at C X 185 32 ls (.int (nI 2) :: st) N I L P := st_go b185 dX11_tellPairs_31 (by decide) rfl
theorem s185_32 (h : ¬ x0 = 0) : sm_at C X 185 32 ls (.int x0 :: .int x1 :: st) N I L P = sm_at C X 185 33 ls (.int (x1 - x1 / x0 * x0) :: st) N I L P := st_irem b185 dX11_tellPairs_32 h
theorem s185_33 : sm_at C X 185 33 ls st N I L P = sm_at C X 185 34 ls (.int (nI 1) :: st) N I L P := st_go b185 dX11_tellPairs_33 (by decide) rfl
theorem s185_34 : sm_at C X 185 34 ls (.int x0 :: .int x1 :: st) N I L P = if ¬ x1 = x0 then sm_at C X 185 45 ls st N I L P else sm_at C X 185 37 ls st N I L P := st_br b185 dX11_tellPairs_34 (by decide) rfl
theorem s185_37 : sm_at C X 185 37 [l0, l1, l2, l3, some (.int x0)] st N I L P = sm_at C X 185 39 [l0, l1, l2, l3, some (.int x0)] (.int x0 :: st) N I L P := st_go b185 dX11_tellPairs_37 (by decide) rfl
theorem s185_39 : sm_at C X 185 39 ls st N I L P = sm_at C X 185 41 ls (.int (nI 6) :: st) N I L P := st_go b185 dX11_tellPairs_39 (by decide) rfl
theorem s185_41 (h : ¬ x0 = 0) : sm_at C X 185 41 ls (.int x0 :: .int x1 :: st) N I L P = sm_at C X 185 42 ls (.int (x1 / x0) :: st) N I L P := st_idiv b185 dX11_tellPairs_41 h
theorem s185_42 : sm_at C X 185 42 ls st N I L P = sm_at C X 185 50 ls st N I L P := st_go b185 dX11_tellPairs_42 (by decide) rfl
theorem s185_45 : sm_at C X 185 45 [l0, l1, l2, l3, some (.int x0)] st N I L P = sm_at C X 185 47 [l0, l1, l2, l3, some (.int x0)] (.int x0 :: st) N I L P := st_go b185 dX11_tellPairs_45 (by decide) rfl
theorem s185_47 : sm_at C X 185 47 ls st N I L P = sm_at C X 185 49 ls (.int (nI 6) :: st) N I L P := st_go b185 dX11_tellPairs_47 (by decide) rfl
theorem s185_49 (h : ¬ x0 = 0) : sm_at C X 185 49 ls (.int x0 :: .int x1 :: st) N I L P = sm_at C X 185 50 ls (.int (x1 - x1 / x0 * x0) :: st) N I L P := st_irem b185 dX11_tellPairs_49 h
theorem s185_50 : sm_at C X 185 50 ls [.int x0] N I L P = some (some (.int x0), N, I, L, P) := st_iret b185 dX11_tellPairs_50 rfl
theorem b186 : sm_b 186 = cX11_kept := rfl
theorem s186_0 : sm_at C X 186 0 [l0, some (.int x0), l2, l3, l4] st N I L P = sm_at C X 186 1 [l0, some (.int x0), l2, l3, l4] (.int x0 :: st) N I L P := st_go b186 dX11_kept_0 (by decide) rfl
theorem s186_1 : sm_at C X 186 1 ls (.int x0 :: st) N I L P = sm_at C X 186 2 ls (.long x0.toInt64 :: st) N I L P := st_go b186 dX11_kept_1 (by decide) rfl
theorem s186_2 : sm_at C X 186 2 ls st N I L P = sm_at C X 186 3 ls (.long (lN 0) :: st) N I L P := st_go b186 dX11_kept_2 (by decide) rfl
theorem s186_3 : sm_at C X 186 3 ls st N I L P = sm_at C X 186 6 ls (.long (lN 999) :: st) N I L P := st_go b186 dX11_kept_3 (by decide) rfl
theorem s186_6 : sm_at C X 186 6 ls [w2, w1, w0] N I L P = sm_af C X 186 9 ls [] (C 146 [w0, w1, w2] N I L P) := st_stat b186 dX11_kept_6 (n := 3) (rest := []) rfl rfl rfl rfl rfl rfl
theorem s186_9 : sm_at C X 186 9 ls (.int x0 :: st) N I L P = if x0 = 0 then sm_at C X 186 24 ls st N I L P else sm_at C X 186 12 ls st N I L P := st_br b186 dX11_kept_9 (by decide) rfl
theorem s186_12 : sm_at C X 186 12 [l0, l1, some (.int x0), l3, l4] st N I L P = sm_at C X 186 13 [l0, l1, some (.int x0), l3, l4] (.int x0 :: st) N I L P := st_go b186 dX11_kept_12 (by decide) rfl
theorem s186_13 : sm_at C X 186 13 ls (.int x0 :: st) N I L P = sm_at C X 186 14 ls (.long x0.toInt64 :: st) N I L P := st_go b186 dX11_kept_13 (by decide) rfl
theorem s186_14 : sm_at C X 186 14 ls st N I L P = sm_at C X 186 15 ls (.long (lN 0) :: st) N I L P := st_go b186 dX11_kept_14 (by decide) rfl
theorem s186_15 : sm_at C X 186 15 ls st N I L P = sm_at C X 186 18 ls (.long (lN 4) :: st) N I L P := st_go b186 dX11_kept_15 (by decide) rfl
theorem s186_18 : sm_at C X 186 18 ls [w2, w1, w0] N I L P = sm_af C X 186 21 ls [] (C 146 [w0, w1, w2] N I L P) := st_stat b186 dX11_kept_18 (n := 3) (rest := []) rfl rfl rfl rfl rfl rfl
theorem s186_21 : sm_at C X 186 21 ls (.int x0 :: st) N I L P = if ¬ x0 = 0 then sm_at C X 186 27 ls st N I L P else sm_at C X 186 24 ls st N I L P := st_br b186 dX11_kept_21 (by decide) rfl
theorem s186_24 : sm_at C X 186 24 ls st N I L P = sm_at C X 186 26 ls (.int (-102) :: st) N I L P := st_go b186 dX11_kept_24 (by decide) rfl
theorem s186_26 : sm_at C X 186 26 ls [.int x0] N I L P = some (some (.int x0), N, I, L, P) := st_iret b186 dX11_kept_26 rfl
theorem s186_27 : sm_at C X 186 27 [some (.ref a), l1, l2, l3, l4] st N I L P = sm_at C X 186 28 [some (.ref a), l1, l2, l3, l4] (.ref a :: st) N I L P := st_go b186 dX11_kept_27 (by decide) rfl
theorem s186_28 (h : a < N) (h1 : sm_lay a = .inl 11) : sm_at C X 186 28 ls (.ref a :: st) N I L P = sm_at C X 186 31 ls (.int (I a 15) :: st) N I L P := st_gfI b186 dX11_kept_28 rfl rfl h h1
theorem s186_31 : sm_at C X 186 31 ls st N I L P = sm_at C X 186 33 ls (.int (nI 20) :: st) N I L P := st_go b186 dX11_kept_31 (by decide) rfl
theorem s186_33 : sm_at C X 186 33 ls (.int x0 :: .int x1 :: st) N I L P = if ¬ x1 = x0 then sm_at C X 186 39 ls st N I L P else sm_at C X 186 36 ls st N I L P := st_br b186 dX11_kept_33 (by decide) rfl
theorem s186_36 : sm_at C X 186 36 ls st N I L P = sm_at C X 186 38 ls (.int (-103) :: st) N I L P := st_go b186 dX11_kept_36 (by decide) rfl
theorem s186_38 : sm_at C X 186 38 ls [.int x0] N I L P = some (some (.int x0), N, I, L, P) := st_iret b186 dX11_kept_38 rfl
theorem s186_39 : sm_at C X 186 39 [some (.ref a), l1, l2, l3, l4] st N I L P = sm_at C X 186 40 [some (.ref a), l1, l2, l3, l4] (.ref a :: st) N I L P := st_go b186 dX11_kept_39 (by decide) rfl
theorem s186_40 : sm_at C X 186 40 ls (.ref a :: st) N I L P = sm_at C X 186 41 ls (.ref a :: .ref a :: st) N I L P := st_go b186 dX11_kept_40 (by decide) rfl
theorem s186_41 (h : a < N) (h1 : sm_lay a = .inl 11) : sm_at C X 186 41 ls (.ref a :: st) N I L P = sm_at C X 186 44 ls (.int (I a 15) :: st) N I L P := st_gfI b186 dX11_kept_41 rfl rfl h h1
theorem s186_44 : sm_at C X 186 44 ls st N I L P = sm_at C X 186 45 ls (.int (nI 1) :: st) N I L P := st_go b186 dX11_kept_44 (by decide) rfl
theorem s186_45 : sm_at C X 186 45 ls (.int x0 :: .int x1 :: st) N I L P = sm_at C X 186 46 ls (.int (x1 + x0) :: st) N I L P := st_go b186 dX11_kept_45 (by decide) rfl
theorem s186_46 (h : a < N) (h1 : sm_lay a = .inl 11) : sm_at C X 186 46 ls (.int x0 :: .ref a :: st) N I L P = sm_at C X 186 49 ls st N (sm_up I a 15 x0) L P := st_pfI b186 dX11_kept_46 rfl rfl rfl h h1
theorem s186_49 : sm_at C X 186 49 [some (.ref a), l1, l2, l3, l4] st N I L P = sm_at C X 186 50 [some (.ref a), l1, l2, l3, l4] (.ref a :: st) N I L P := st_go b186 dX11_kept_49 (by decide) rfl
theorem s186_50 : sm_at C X 186 50 [l0, some (.int x0), l2, l3, l4] st N I L P = sm_at C X 186 51 [l0, some (.int x0), l2, l3, l4] (.int x0 :: st) N I L P := st_go b186 dX11_kept_50 (by decide) rfl
theorem s186_51 : sm_at C X 186 51 ls st N I L P = sm_at C X 186 52 ls (.int (-1) :: st) N I L P := st_go b186 dX11_kept_51 (by decide) rfl
theorem s186_52 : sm_at C X 186 52 ls st N I L P = sm_at C X 186 53 ls (.int (-1) :: st) N I L P := st_go b186 dX11_kept_52 (by decide) rfl
theorem s186_53 (h : a < N) (h1 : sm_lay a = .inl 11) : sm_at C X 186 53 ls [w3, w2, w1, .ref a] N I L P = sm_af C X 186 56 ls [] (C 184 [.ref a, w1, w2, w3] N I L P) := st_virt b186 dX11_kept_53 (n := 4) (rest := []) rfl rfl rfl rfl rfl rfl rfl h h1
theorem s186_56 : sm_at C X 186 56 ls (.int x0 :: st) N I L P = if x0 = 0 then sm_at C X 186 67 ls st N I L P else sm_at C X 186 59 ls st N I L P := st_br b186 dX11_kept_56 (by decide) rfl
theorem s186_59 : sm_at C X 186 59 ls st N I L P = sm_at C X 186 60 ls (.int (nI 0) :: st) N I L P := st_go b186 dX11_kept_59 (by decide) rfl
theorem s186_60 : sm_at C X 186 60 ls st N I L P = sm_at C X 186 61 ls (.int (-1) :: st) N I L P := st_go b186 dX11_kept_60 (by decide) rfl
theorem s186_61 : sm_at C X 186 61 ls st N I L P = sm_at C X 186 62 ls (.int (-1) :: st) N I L P := st_go b186 dX11_kept_61 (by decide) rfl
theorem s186_62 : sm_at C X 186 62 [l0, l1, some (.int x0), l3, l4] st N I L P = sm_at C X 186 63 [l0, l1, some (.int x0), l3, l4] (.int x0 :: st) N I L P := st_go b186 dX11_kept_62 (by decide) rfl
theorem s186_63 : sm_at C X 186 63 ls [w3, w2, w1, w0] N I L P = sm_af C X 186 66 ls [] (C 185 [w0, w1, w2, w3] N I L P) := st_stat b186 dX11_kept_63 (n := 4) (rest := []) rfl rfl rfl rfl rfl rfl
theorem s186_66 : sm_at C X 186 66 ls [.int x0] N I L P = some (some (.int x0), N, I, L, P) := st_iret b186 dX11_kept_66 rfl
theorem s186_67 : sm_at C X 186 67 ls st N I L P = sm_at C X 186 68 ls (.int (nI 0) :: st) N I L P := st_go b186 dX11_kept_67 (by decide) rfl
theorem s186_68 : sm_at C X 186 68 [l0, l1, l2, l3, l4] (.int x0 :: st) N I L P = sm_at C X 186 69 [l0, l1, sm_cl l2, some (.int x0), l4] st N I L P := st_go b186 dX11_kept_68 (by decide) rfl
theorem s186_69 : sm_at C X 186 69 [l0, l1, l2, some (.int x0), l4] st N I L P = sm_at C X 186 70 [l0, l1, l2, some (.int x0), l4] (.int x0 :: st) N I L P := st_go b186 dX11_kept_69 (by decide) rfl
theorem s186_70 : sm_at C X 186 70 ls st N I L P = sm_at C X 186 72 ls (.int (nI 36) :: st) N I L P := st_go b186 dX11_kept_70 (by decide) rfl
theorem s186_72 : sm_at C X 186 72 ls (.int x0 :: .int x1 :: st) N I L P = if x0 ≤ x1 then sm_at C X 186 110 ls st N I L P else sm_at C X 186 75 ls st N I L P := st_br b186 dX11_kept_72 (by decide) rfl
theorem s186_75 : sm_at C X 186 75 [l0, l1, l2, some (.int x0), l4] st N I L P = sm_at C X 186 76 [l0, l1, l2, some (.int x0), l4] (.int x0 :: st) N I L P := st_go b186 dX11_kept_75 (by decide) rfl
theorem s186_76 : sm_at C X 186 76 ls st N I L P = sm_at C X 186 78 ls (.int (nI 6) :: st) N I L P := st_go b186 dX11_kept_76 (by decide) rfl
theorem s186_78 (h : ¬ x0 = 0) : sm_at C X 186 78 ls (.int x0 :: .int x1 :: st) N I L P = sm_at C X 186 79 ls (.int (x1 / x0) :: st) N I L P := st_idiv b186 dX11_kept_78 h
theorem s186_79 : sm_at C X 186 79 [l0, l1, l2, some (.int x0), l4] st N I L P = sm_at C X 186 80 [l0, l1, l2, some (.int x0), l4] (.int x0 :: st) N I L P := st_go b186 dX11_kept_79 (by decide) rfl
theorem s186_80 : sm_at C X 186 80 ls st N I L P = sm_at C X 186 82 ls (.int (nI 6) :: st) N I L P := st_go b186 dX11_kept_80 (by decide) rfl
theorem s186_82 (h : ¬ x0 = 0) : sm_at C X 186 82 ls (.int x0 :: .int x1 :: st) N I L P = sm_at C X 186 83 ls (.int (x1 - x1 / x0 * x0) :: st) N I L P := st_irem b186 dX11_kept_82 h
theorem s186_83 : sm_at C X 186 83 ls (.int x0 :: .int x1 :: st) N I L P = if x0 ≤ x1 then sm_at C X 186 104 ls st N I L P else sm_at C X 186 86 ls st N I L P := st_br b186 dX11_kept_83 (by decide) rfl
theorem s186_86 : sm_at C X 186 86 [some (.ref a), l1, l2, l3, l4] st N I L P = sm_at C X 186 87 [some (.ref a), l1, l2, l3, l4] (.ref a :: st) N I L P := st_go b186 dX11_kept_86 (by decide) rfl
theorem s186_87 : sm_at C X 186 87 [l0, some (.int x0), l2, l3, l4] st N I L P = sm_at C X 186 88 [l0, some (.int x0), l2, l3, l4] (.int x0 :: st) N I L P := st_go b186 dX11_kept_87 (by decide) rfl
theorem s186_88 : sm_at C X 186 88 [l0, l1, l2, some (.int x0), l4] st N I L P = sm_at C X 186 89 [l0, l1, l2, some (.int x0), l4] (.int x0 :: st) N I L P := st_go b186 dX11_kept_88 (by decide) rfl
theorem s186_89 : sm_at C X 186 89 ls st N I L P = sm_at C X 186 90 ls (.int (-1) :: st) N I L P := st_go b186 dX11_kept_89 (by decide) rfl
theorem s186_90 (h : a < N) (h1 : sm_lay a = .inl 11) : sm_at C X 186 90 ls [w3, w2, w1, .ref a] N I L P = sm_af C X 186 93 ls [] (C 184 [.ref a, w1, w2, w3] N I L P) := st_virt b186 dX11_kept_90 (n := 4) (rest := []) rfl rfl rfl rfl rfl rfl rfl h h1
theorem s186_93 : sm_at C X 186 93 ls (.int x0 :: st) N I L P = if x0 = 0 then sm_at C X 186 104 ls st N I L P else sm_at C X 186 96 ls st N I L P := st_br b186 dX11_kept_93 (by decide) rfl
theorem s186_96 : sm_at C X 186 96 ls st N I L P = sm_at C X 186 97 ls (.int (nI 1) :: st) N I L P := st_go b186 dX11_kept_96 (by decide) rfl
theorem s186_97 : sm_at C X 186 97 [l0, l1, l2, some (.int x0), l4] st N I L P = sm_at C X 186 98 [l0, l1, l2, some (.int x0), l4] (.int x0 :: st) N I L P := st_go b186 dX11_kept_97 (by decide) rfl
theorem s186_98 : sm_at C X 186 98 ls st N I L P = sm_at C X 186 99 ls (.int (-1) :: st) N I L P := st_go b186 dX11_kept_98 (by decide) rfl
theorem s186_99 : sm_at C X 186 99 [l0, l1, some (.int x0), l3, l4] st N I L P = sm_at C X 186 100 [l0, l1, some (.int x0), l3, l4] (.int x0 :: st) N I L P := st_go b186 dX11_kept_99 (by decide) rfl
theorem s186_100 : sm_at C X 186 100 ls [w3, w2, w1, w0] N I L P = sm_af C X 186 103 ls [] (C 185 [w0, w1, w2, w3] N I L P) := st_stat b186 dX11_kept_100 (n := 4) (rest := []) rfl rfl rfl rfl rfl rfl
theorem s186_103 : sm_at C X 186 103 ls [.int x0] N I L P = some (some (.int x0), N, I, L, P) := st_iret b186 dX11_kept_103 rfl
theorem s186_104 : sm_at C X 186 104 [l0, l1, l2, some (.int x0), l4] st N I L P = sm_at C X 186 107 [l0, l1, sm_cl l2, some (.int (x0 + (nI 1))), l4] st N I L P := st_go b186 dX11_kept_104 (by decide) rfl
theorem s186_107 : sm_at C X 186 107 ls st N I L P = sm_at C X 186 69 ls st N I L P := st_go b186 dX11_kept_107 (by decide) rfl
theorem s186_110 : sm_at C X 186 110 ls st N I L P = sm_at C X 186 111 ls (.int (nI 0) :: st) N I L P := st_go b186 dX11_kept_110 (by decide) rfl
theorem s186_111 : sm_at C X 186 111 [l0, l1, l2, l3, l4] (.int x0 :: st) N I L P = sm_at C X 186 112 [l0, l1, sm_cl l2, some (.int x0), l4] st N I L P := st_go b186 dX11_kept_111 (by decide) rfl
theorem s186_112 : sm_at C X 186 112 [l0, l1, l2, some (.int x0), l4] st N I L P = sm_at C X 186 113 [l0, l1, l2, some (.int x0), l4] (.int x0 :: st) N I L P := st_go b186 dX11_kept_112 (by decide) rfl
theorem s186_113 : sm_at C X 186 113 ls st N I L P = sm_at C X 186 115 ls (.int (nI 36) :: st) N I L P := st_go b186 dX11_kept_113 (by decide) rfl
theorem s186_115 : sm_at C X 186 115 ls (.int x0 :: .int x1 :: st) N I L P = if x0 ≤ x1 then sm_at C X 186 186 ls st N I L P else sm_at C X 186 118 ls st N I L P := st_br b186 dX11_kept_115 (by decide) rfl
theorem s186_118 : sm_at C X 186 118 [l0, l1, l2, some (.int x0), l4] st N I L P = sm_at C X 186 119 [l0, l1, l2, some (.int x0), l4] (.int x0 :: st) N I L P := st_go b186 dX11_kept_118 (by decide) rfl
theorem s186_119 : sm_at C X 186 119 ls st N I L P = sm_at C X 186 120 ls (.int (nI 1) :: st) N I L P := st_go b186 dX11_kept_119 (by decide) rfl
theorem s186_120 : sm_at C X 186 120 ls (.int x0 :: .int x1 :: st) N I L P = sm_at C X 186 121 ls (.int (x1 + x0) :: st) N I L P := st_go b186 dX11_kept_120 (by decide) rfl
theorem s186_121 : sm_at C X 186 121 [l0, l1, l2, l3, l4] (.int x0 :: st) N I L P = sm_at C X 186 123 [l0, l1, l2, sm_cl l3, some (.int x0)] st N I L P := st_go b186 dX11_kept_121 (by decide) rfl
theorem s186_123 : sm_at C X 186 123 [l0, l1, l2, l3, some (.int x0)] st N I L P = sm_at C X 186 125 [l0, l1, l2, l3, some (.int x0)] (.int x0 :: st) N I L P := st_go b186 dX11_kept_123 (by decide) rfl
theorem s186_125 : sm_at C X 186 125 ls st N I L P = sm_at C X 186 127 ls (.int (nI 36) :: st) N I L P := st_go b186 dX11_kept_125 (by decide) rfl
theorem s186_127 : sm_at C X 186 127 ls (.int x0 :: .int x1 :: st) N I L P = if x0 ≤ x1 then sm_at C X 186 180 ls st N I L P else sm_at C X 186 130 ls st N I L P := st_br b186 dX11_kept_127 (by decide) rfl
theorem s186_130 : sm_at C X 186 130 [l0, l1, l2, some (.int x0), l4] st N I L P = sm_at C X 186 131 [l0, l1, l2, some (.int x0), l4] (.int x0 :: st) N I L P := st_go b186 dX11_kept_130 (by decide) rfl
theorem s186_131 : sm_at C X 186 131 ls st N I L P = sm_at C X 186 133 ls (.int (nI 6) :: st) N I L P := st_go b186 dX11_kept_131 (by decide) rfl
theorem s186_133 (h : ¬ x0 = 0) : sm_at C X 186 133 ls (.int x0 :: .int x1 :: st) N I L P = sm_at C X 186 134 ls (.int (x1 / x0) :: st) N I L P := st_idiv b186 dX11_kept_133 h
theorem s186_134 : sm_at C X 186 134 [l0, l1, l2, some (.int x0), l4] st N I L P = sm_at C X 186 135 [l0, l1, l2, some (.int x0), l4] (.int x0 :: st) N I L P := st_go b186 dX11_kept_134 (by decide) rfl
theorem s186_135 : sm_at C X 186 135 ls st N I L P = sm_at C X 186 137 ls (.int (nI 6) :: st) N I L P := st_go b186 dX11_kept_135 (by decide) rfl
theorem s186_137 (h : ¬ x0 = 0) : sm_at C X 186 137 ls (.int x0 :: .int x1 :: st) N I L P = sm_at C X 186 138 ls (.int (x1 - x1 / x0 * x0) :: st) N I L P := st_irem b186 dX11_kept_137 h
theorem s186_138 : sm_at C X 186 138 ls (.int x0 :: .int x1 :: st) N I L P = if x0 ≤ x1 then sm_at C X 186 180 ls st N I L P else sm_at C X 186 141 ls st N I L P := st_br b186 dX11_kept_138 (by decide) rfl
theorem s186_141 : sm_at C X 186 141 [l0, l1, l2, l3, some (.int x0)] st N I L P = sm_at C X 186 143 [l0, l1, l2, l3, some (.int x0)] (.int x0 :: st) N I L P := st_go b186 dX11_kept_141 (by decide) rfl
theorem s186_143 : sm_at C X 186 143 ls st N I L P = sm_at C X 186 145 ls (.int (nI 6) :: st) N I L P := st_go b186 dX11_kept_143 (by decide) rfl
theorem s186_145 (h : ¬ x0 = 0) : sm_at C X 186 145 ls (.int x0 :: .int x1 :: st) N I L P = sm_at C X 186 146 ls (.int (x1 / x0) :: st) N I L P := st_idiv b186 dX11_kept_145 h
theorem s186_146 : sm_at C X 186 146 [l0, l1, l2, l3, some (.int x0)] st N I L P = sm_at C X 186 148 [l0, l1, l2, l3, some (.int x0)] (.int x0 :: st) N I L P := st_go b186 dX11_kept_146 (by decide) rfl
theorem s186_148 : sm_at C X 186 148 ls st N I L P = sm_at C X 186 150 ls (.int (nI 6) :: st) N I L P := st_go b186 dX11_kept_148 (by decide) rfl
theorem s186_150 (h : ¬ x0 = 0) : sm_at C X 186 150 ls (.int x0 :: .int x1 :: st) N I L P = sm_at C X 186 151 ls (.int (x1 - x1 / x0 * x0) :: st) N I L P := st_irem b186 dX11_kept_150 h
theorem s186_151 : sm_at C X 186 151 ls (.int x0 :: .int x1 :: st) N I L P = if x0 ≤ x1 then sm_at C X 186 174 ls st N I L P else sm_at C X 186 154 ls st N I L P := st_br b186 dX11_kept_151 (by decide) rfl
theorem s186_154 : sm_at C X 186 154 [some (.ref a), l1, l2, l3, l4] st N I L P = sm_at C X 186 155 [some (.ref a), l1, l2, l3, l4] (.ref a :: st) N I L P := st_go b186 dX11_kept_154 (by decide) rfl
theorem s186_155 : sm_at C X 186 155 [l0, some (.int x0), l2, l3, l4] st N I L P = sm_at C X 186 156 [l0, some (.int x0), l2, l3, l4] (.int x0 :: st) N I L P := st_go b186 dX11_kept_155 (by decide) rfl
theorem s186_156 : sm_at C X 186 156 [l0, l1, l2, some (.int x0), l4] st N I L P = sm_at C X 186 157 [l0, l1, l2, some (.int x0), l4] (.int x0 :: st) N I L P := st_go b186 dX11_kept_156 (by decide) rfl
theorem s186_157 : sm_at C X 186 157 [l0, l1, l2, l3, some (.int x0)] st N I L P = sm_at C X 186 159 [l0, l1, l2, l3, some (.int x0)] (.int x0 :: st) N I L P := st_go b186 dX11_kept_157 (by decide) rfl
theorem s186_159 (h : a < N) (h1 : sm_lay a = .inl 11) : sm_at C X 186 159 ls [w3, w2, w1, .ref a] N I L P = sm_af C X 186 162 ls [] (C 184 [.ref a, w1, w2, w3] N I L P) := st_virt b186 dX11_kept_159 (n := 4) (rest := []) rfl rfl rfl rfl rfl rfl rfl h h1
theorem s186_162 : sm_at C X 186 162 ls (.int x0 :: st) N I L P = if x0 = 0 then sm_at C X 186 174 ls st N I L P else sm_at C X 186 165 ls st N I L P := st_br b186 dX11_kept_162 (by decide) rfl
theorem s186_165 : sm_at C X 186 165 ls st N I L P = sm_at C X 186 166 ls (.int (nI 2) :: st) N I L P := st_go b186 dX11_kept_165 (by decide) rfl
theorem s186_166 : sm_at C X 186 166 [l0, l1, l2, some (.int x0), l4] st N I L P = sm_at C X 186 167 [l0, l1, l2, some (.int x0), l4] (.int x0 :: st) N I L P := st_go b186 dX11_kept_166 (by decide) rfl
theorem s186_167 : sm_at C X 186 167 [l0, l1, l2, l3, some (.int x0)] st N I L P = sm_at C X 186 169 [l0, l1, l2, l3, some (.int x0)] (.int x0 :: st) N I L P := st_go b186 dX11_kept_167 (by decide) rfl
theorem s186_169 : sm_at C X 186 169 [l0, l1, some (.int x0), l3, l4] st N I L P = sm_at C X 186 170 [l0, l1, some (.int x0), l3, l4] (.int x0 :: st) N I L P := st_go b186 dX11_kept_169 (by decide) rfl
theorem s186_170 : sm_at C X 186 170 ls [w3, w2, w1, w0] N I L P = sm_af C X 186 173 ls [] (C 185 [w0, w1, w2, w3] N I L P) := st_stat b186 dX11_kept_170 (n := 4) (rest := []) rfl rfl rfl rfl rfl rfl
theorem s186_173 : sm_at C X 186 173 ls [.int x0] N I L P = some (some (.int x0), N, I, L, P) := st_iret b186 dX11_kept_173 rfl
theorem s186_174 : sm_at C X 186 174 [l0, l1, l2, l3, some (.int x0)] st N I L P = sm_at C X 186 177 [l0, l1, l2, sm_cl l3, some (.int (x0 + (nI 1)))] st N I L P := st_go b186 dX11_kept_174 (by decide) rfl
theorem s186_177 : sm_at C X 186 177 ls st N I L P = sm_at C X 186 123 ls st N I L P := st_go b186 dX11_kept_177 (by decide) rfl
theorem s186_180 : sm_at C X 186 180 [l0, l1, l2, some (.int x0), l4] st N I L P = sm_at C X 186 183 [l0, l1, sm_cl l2, some (.int (x0 + (nI 1))), l4] st N I L P := st_go b186 dX11_kept_180 (by decide) rfl
theorem s186_183 : sm_at C X 186 183 ls st N I L P = sm_at C X 186 112 ls st N I L P := st_go b186 dX11_kept_183 (by decide) rfl
theorem s186_186 : sm_at C X 186 186 ls st N I L P = sm_at C X 186 187 ls (.int (-1) :: st) N I L P := st_go b186 dX11_kept_186 (by decide) rfl
theorem s186_187 : sm_at C X 186 187 ls [.int x0] N I L P = some (some (.int x0), N, I, L, P) := st_iret b186 dX11_kept_187 rfl
theorem b187 : sm_b 187 = cX11_areWords := rfl
theorem s187_0 : sm_at C X 187 0 [some (.int x0), l1] st N I L P = sm_at C X 187 1 [some (.int x0), l1] (.int x0 :: st) N I L P := st_go b187 dX11_areWords_0 (by decide) rfl
theorem s187_1 : sm_at C X 187 1 ls (.int x0 :: st) N I L P = sm_at C X 187 2 ls (.long x0.toInt64 :: st) N I L P := st_go b187 dX11_areWords_1 (by decide) rfl
theorem s187_2 : sm_at C X 187 2 ls st N I L P = sm_at C X 187 3 ls (.long (lN 1) :: st) N I L P := st_go b187 dX11_areWords_2 (by decide) rfl
theorem s187_3 : sm_at C X 187 3 ls st N I L P = sm_at C X 187 6 ls (.long (lN 3) :: st) N I L P := st_go b187 dX11_areWords_3 (by decide) rfl
theorem s187_6 : sm_at C X 187 6 ls [w2, w1, w0] N I L P = sm_af C X 187 9 ls [] (C 146 [w0, w1, w2] N I L P) := st_stat b187 dX11_areWords_6 (n := 3) (rest := []) rfl rfl rfl rfl rfl rfl
theorem s187_9 : sm_at C X 187 9 ls (.int x0 :: st) N I L P = if x0 = 0 then sm_at C X 187 28 ls st N I L P else sm_at C X 187 12 ls st N I L P := st_br b187 dX11_areWords_9 (by decide) rfl
theorem s187_12 : sm_at C X 187 12 [l0, some (.int x0)] st N I L P = sm_at C X 187 13 [l0, some (.int x0)] (.int x0 :: st) N I L P := st_go b187 dX11_areWords_12 (by decide) rfl
theorem s187_13 : sm_at C X 187 13 ls (.int x0 :: st) N I L P = sm_at C X 187 14 ls (.long x0.toInt64 :: st) N I L P := st_go b187 dX11_areWords_13 (by decide) rfl
theorem s187_14 : sm_at C X 187 14 ls st N I L P = sm_at C X 187 15 ls (.long (lN 0) :: st) N I L P := st_go b187 dX11_areWords_14 (by decide) rfl
theorem s187_15 : sm_at C X 187 15 ls st N I L P = sm_at C X 187 18 ls (.long (lN 8) :: st) N I L P := st_go b187 dX11_areWords_15 (by decide) rfl
theorem s187_18 : sm_at C X 187 18 ls [w2, w1, w0] N I L P = sm_af C X 187 21 ls [] (C 146 [w0, w1, w2] N I L P) := st_stat b187 dX11_areWords_18 (n := 3) (rest := []) rfl rfl rfl rfl rfl rfl
theorem s187_21 : sm_at C X 187 21 ls (.int x0 :: st) N I L P = if x0 = 0 then sm_at C X 187 28 ls st N I L P else sm_at C X 187 24 ls st N I L P := st_br b187 dX11_areWords_21 (by decide) rfl
theorem s187_24 : sm_at C X 187 24 ls st N I L P = sm_at C X 187 25 ls (.int (nI 1) :: st) N I L P := st_go b187 dX11_areWords_24 (by decide) rfl
theorem s187_25 : sm_at C X 187 25 ls st N I L P = sm_at C X 187 29 ls st N I L P := st_go b187 dX11_areWords_25 (by decide) rfl
theorem s187_28 : sm_at C X 187 28 ls st N I L P = sm_at C X 187 29 ls (.int (nI 0) :: st) N I L P := st_go b187 dX11_areWords_28 (by decide) rfl
theorem s187_29 (h : x0 = 0 ∨ x0 = 1) : sm_at C X 187 29 ls [.int x0] N I L P = some (some (.int x0), N, I, L, P) := st_zret b187 dX11_areWords_29 rfl h
theorem b188 : sm_b 188 = cX11_ones := rfl
theorem s188_0 : sm_at C X 188 0 ls st N I L P = sm_at C X 188 1 ls (.int (nI 0) :: st) N I L P := st_go b188 dX11_ones_0 (by decide) rfl
theorem s188_1 : sm_at C X 188 1 [l0, l1, l2] (.int x0 :: st) N I L P = sm_at C X 188 2 [sm_cl l0, some (.int x0), l2] st N I L P := st_go b188 dX11_ones_1 (by decide) rfl
theorem s188_2 : sm_at C X 188 2 ls st N I L P = sm_at C X 188 3 ls (.int (nI 0) :: st) N I L P := st_go b188 dX11_ones_2 (by decide) rfl
theorem s188_3 : sm_at C X 188 3 [l0, l1, l2] (.int x0 :: st) N I L P = sm_at C X 188 4 [l0, sm_cl l1, some (.int x0)] st N I L P := st_go b188 dX11_ones_3 (by decide) rfl
theorem s188_4 : sm_at C X 188 4 [l0, l1, some (.int x0)] st N I L P = sm_at C X 188 5 [l0, l1, some (.int x0)] (.int x0 :: st) N I L P := st_go b188 dX11_ones_4 (by decide) rfl
theorem s188_5 : sm_at C X 188 5 ls st N I L P = sm_at C X 188 7 ls (.int (nI 16) :: st) N I L P := st_go b188 dX11_ones_5 (by decide) rfl
theorem s188_7 : sm_at C X 188 7 ls (.int x0 :: .int x1 :: st) N I L P = if x0 ≤ x1 then sm_at C X 188 24 ls st N I L P else sm_at C X 188 10 ls st N I L P := st_br b188 dX11_ones_7 (by decide) rfl
theorem s188_10 : sm_at C X 188 10 [l0, some (.int x0), l2] st N I L P = sm_at C X 188 11 [l0, some (.int x0), l2] (.int x0 :: st) N I L P := st_go b188 dX11_ones_10 (by decide) rfl
theorem s188_11 : sm_at C X 188 11 [some (.int x0), l1, l2] st N I L P = sm_at C X 188 12 [some (.int x0), l1, l2] (.int x0 :: st) N I L P := st_go b188 dX11_ones_11 (by decide) rfl
theorem s188_12 : sm_at C X 188 12 [l0, l1, some (.int x0)] st N I L P = sm_at C X 188 13 [l0, l1, some (.int x0)] (.int x0 :: st) N I L P := st_go b188 dX11_ones_12 (by decide) rfl
theorem s188_13 : sm_at C X 188 13 ls (.int x0 :: .int x1 :: st) N I L P = sm_at C X 188 14 ls (.int (x1 >>> (x0 &&& 31)) :: st) N I L P := st_go b188 dX11_ones_13 (by decide) rfl
theorem s188_14 : sm_at C X 188 14 ls st N I L P = sm_at C X 188 15 ls (.int (nI 1) :: st) N I L P := st_go b188 dX11_ones_14 (by decide) rfl
theorem s188_15 : sm_at C X 188 15 ls (.int x0 :: .int x1 :: st) N I L P = sm_at C X 188 16 ls (.int (x1 &&& x0) :: st) N I L P := st_go b188 dX11_ones_15 (by decide) rfl
theorem s188_16 : sm_at C X 188 16 ls (.int x0 :: .int x1 :: st) N I L P = sm_at C X 188 17 ls (.int (x1 + x0) :: st) N I L P := st_go b188 dX11_ones_16 (by decide) rfl
theorem s188_17 : sm_at C X 188 17 [l0, l1, l2] (.int x0 :: st) N I L P = sm_at C X 188 18 [sm_cl l0, some (.int x0), l2] st N I L P := st_go b188 dX11_ones_17 (by decide) rfl
theorem s188_18 : sm_at C X 188 18 [l0, l1, some (.int x0)] st N I L P = sm_at C X 188 21 [l0, sm_cl l1, some (.int (x0 + (nI 1)))] st N I L P := st_go b188 dX11_ones_18 (by decide) rfl
theorem s188_21 : sm_at C X 188 21 ls st N I L P = sm_at C X 188 4 ls st N I L P := st_go b188 dX11_ones_21 (by decide) rfl
theorem s188_24 : sm_at C X 188 24 [l0, some (.int x0), l2] st N I L P = sm_at C X 188 25 [l0, some (.int x0), l2] (.int x0 :: st) N I L P := st_go b188 dX11_ones_24 (by decide) rfl
theorem s188_25 : sm_at C X 188 25 ls [.int x0] N I L P = some (some (.int x0), N, I, L, P) := st_iret b188 dX11_ones_25 rfl
theorem b189 : sm_b 189 = cX11_manyWords := rfl
theorem s189_0 : sm_at C X 189 0 ls st N I L P = sm_at C X 189 1 ls (.int (nI 0) :: st) N I L P := st_go b189 dX11_manyWords_0 (by decide) rfl
theorem s189_1 : sm_at C X 189 1 [l0, l1, l2, l3, l4, l5, l6] (.int x0 :: st) N I L P = sm_at C X 189 2 [l0, l1, sm_cl l2, some (.int x0), l4, l5, l6] st N I L P := st_go b189 dX11_manyWords_1 (by decide) rfl
theorem s189_2 : sm_at C X 189 2 ls st N I L P = sm_at C X 189 3 ls (.int (nI 0) :: st) N I L P := st_go b189 dX11_manyWords_2 (by decide) rfl
theorem s189_3 : sm_at C X 189 3 [l0, l1, l2, l3, l4, l5, l6] (.int x0 :: st) N I L P = sm_at C X 189 5 [l0, l1, l2, sm_cl l3, some (.int x0), l5, l6] st N I L P := st_go b189 dX11_manyWords_3 (by decide) rfl
theorem s189_5 : sm_at C X 189 5 [l0, l1, l2, l3, some (.int x0), l5, l6] st N I L P = sm_at C X 189 7 [l0, l1, l2, l3, some (.int x0), l5, l6] (.int x0 :: st) N I L P := st_go b189 dX11_manyWords_5 (by decide) rfl
theorem s189_7 : sm_at C X 189 7 ls st N I L P = sm_at C X 189 8 ls (.int (nI 1) :: st) N I L P := st_go b189 dX11_manyWords_7 (by decide) rfl
theorem s189_8 : sm_at C X 189 8 [some (.int x0), l1, l2, l3, l4, l5, l6] st N I L P = sm_at C X 189 9 [some (.int x0), l1, l2, l3, l4, l5, l6] (.int x0 :: st) N I L P := st_go b189 dX11_manyWords_8 (by decide) rfl
theorem s189_9 : sm_at C X 189 9 ls (.int x0 :: .int x1 :: st) N I L P = sm_at C X 189 10 ls (.int (x1 <<< (x0 &&& 31)) :: st) N I L P := st_go b189 dX11_manyWords_9 (by decide) rfl
theorem s189_10 : sm_at C X 189 10 ls (.int x0 :: .int x1 :: st) N I L P = if x0 ≤ x1 then sm_at C X 189 65 ls st N I L P else sm_at C X 189 13 ls st N I L P := st_br b189 dX11_manyWords_10 (by decide) rfl
theorem s189_13 : sm_at C X 189 13 ls st N I L P = sm_at C X 189 14 ls (.int (nI 1) :: st) N I L P := st_go b189 dX11_manyWords_13 (by decide) rfl
theorem s189_14 : sm_at C X 189 14 [l0, l1, l2, l3, l4, l5, l6] (.int x0 :: st) N I L P = sm_at C X 189 16 [l0, l1, l2, l3, sm_cl l4, some (.int x0), l6] st N I L P := st_go b189 dX11_manyWords_14 (by decide) rfl
theorem s189_16 : sm_at C X 189 16 ls st N I L P = sm_at C X 189 17 ls (.int (nI 0) :: st) N I L P := st_go b189 dX11_manyWords_16 (by decide) rfl
theorem s189_17 : sm_at C X 189 17 [l0, l1, l2, l3, l4, l5, l6] (.int x0 :: st) N I L P = sm_at C X 189 19 [l0, l1, l2, l3, l4, sm_cl l5, some (.int x0)] st N I L P := st_go b189 dX11_manyWords_17 (by decide) rfl
theorem s189_19 : sm_at C X 189 19 [l0, l1, l2, l3, l4, l5, some (.int x0)] st N I L P = sm_at C X 189 21 [l0, l1, l2, l3, l4, l5, some (.int x0)] (.int x0 :: st) N I L P := st_go b189 dX11_manyWords_19 (by decide) rfl
theorem s189_21 : sm_at C X 189 21 [l0, l1, l2, l3, some (.int x0), l5, l6] st N I L P = sm_at C X 189 23 [l0, l1, l2, l3, some (.int x0), l5, l6] (.int x0 :: st) N I L P := st_go b189 dX11_manyWords_21 (by decide) rfl
theorem s189_23 : sm_at C X 189 23 ls [w0, v0] N I L P = sm_af C X 189 26 ls [v0] (C 188 [w0] N I L P) := st_stat b189 dX11_manyWords_23 (n := 1) (rest := [v0]) rfl rfl rfl rfl rfl rfl
theorem s189_26 : sm_at C X 189 26 ls (.int x0 :: .int x1 :: st) N I L P = if x0 ≤ x1 then sm_at C X 189 41 ls st N I L P else sm_at C X 189 29 ls st N I L P := st_br b189 dX11_manyWords_26 (by decide) rfl
theorem s189_29 : sm_at C X 189 29 [l0, l1, l2, l3, l4, some (.int x0), l6] st N I L P = sm_at C X 189 31 [l0, l1, l2, l3, l4, some (.int x0), l6] (.int x0 :: st) N I L P := st_go b189 dX11_manyWords_29 (by decide) rfl
theorem s189_31 : sm_at C X 189 31 [l0, some (.int x0), l2, l3, l4, l5, l6] st N I L P = sm_at C X 189 32 [l0, some (.int x0), l2, l3, l4, l5, l6] (.int x0 :: st) N I L P := st_go b189 dX11_manyWords_31 (by decide) rfl
theorem s189_32 : sm_at C X 189 32 ls (.int x0 :: .int x1 :: st) N I L P = sm_at C X 189 33 ls (.int (x1 * x0) :: st) N I L P := st_go b189 dX11_manyWords_32 (by decide) rfl
theorem s189_33 : sm_at C X 189 33 [l0, l1, l2, l3, l4, l5, l6] (.int x0 :: st) N I L P = sm_at C X 189 35 [l0, l1, l2, l3, sm_cl l4, some (.int x0), l6] st N I L P := st_go b189 dX11_manyWords_33 (by decide) rfl
theorem s189_35 : sm_at C X 189 35 [l0, l1, l2, l3, l4, l5, some (.int x0)] st N I L P = sm_at C X 189 38 [l0, l1, l2, l3, l4, sm_cl l5, some (.int (x0 + (nI 1)))] st N I L P := st_go b189 dX11_manyWords_35 (by decide) rfl
theorem s189_38 : sm_at C X 189 38 ls st N I L P = sm_at C X 189 19 ls st N I L P := st_go b189 dX11_manyWords_38 (by decide) rfl
theorem s189_41 : sm_at C X 189 41 [l0, l1, l2, some (.int x0), l4, l5, l6] st N I L P = sm_at C X 189 42 [l0, l1, l2, some (.int x0), l4, l5, l6] (.int x0 :: st) N I L P := st_go b189 dX11_manyWords_41 (by decide) rfl
theorem s189_42 : sm_at C X 189 42 [l0, l1, l2, l3, some (.int x0), l5, l6] st N I L P = sm_at C X 189 44 [l0, l1, l2, l3, some (.int x0), l5, l6] (.int x0 :: st) N I L P := st_go b189 dX11_manyWords_42 (by decide) rfl
theorem s189_44 : sm_at C X 189 44 ls [w0, v0] N I L P = sm_af C X 189 47 ls [v0] (C 188 [w0] N I L P) := st_stat b189 dX11_manyWords_44 (n := 1) (rest := [v0]) rfl rfl rfl rfl rfl rfl
theorem s189_47 : sm_at C X 189 47 [l0, l1, some (.int x0), l3, l4, l5, l6] st N I L P = sm_at C X 189 48 [l0, l1, some (.int x0), l3, l4, l5, l6] (.int x0 :: st) N I L P := st_go b189 dX11_manyWords_47 (by decide) rfl
theorem s189_48 : sm_at C X 189 48 ls (.int x0 :: .int x1 :: st) N I L P = if x0 < x1 then sm_at C X 189 56 ls st N I L P else sm_at C X 189 51 ls st N I L P := st_br b189 dX11_manyWords_48 (by decide) rfl
theorem s189_51 : sm_at C X 189 51 [l0, l1, l2, l3, l4, some (.int x0), l6] st N I L P = sm_at C X 189 53 [l0, l1, l2, l3, l4, some (.int x0), l6] (.int x0 :: st) N I L P := st_go b189 dX11_manyWords_51 (by decide) rfl
theorem s189_53 : sm_at C X 189 53 ls st N I L P = sm_at C X 189 57 ls st N I L P := st_go b189 dX11_manyWords_53 (by decide) rfl
theorem s189_56 : sm_at C X 189 56 ls st N I L P = sm_at C X 189 57 ls (.int (nI 0) :: st) N I L P := st_go b189 dX11_manyWords_56 (by decide) rfl
theorem s189_57 : sm_at C X 189 57 ls (.int x0 :: .int x1 :: st) N I L P = sm_at C X 189 58 ls (.int (x1 + x0) :: st) N I L P := st_go b189 dX11_manyWords_57 (by decide) rfl
theorem s189_58 : sm_at C X 189 58 [l0, l1, l2, l3, l4, l5, l6] (.int x0 :: st) N I L P = sm_at C X 189 59 [l0, l1, sm_cl l2, some (.int x0), l4, l5, l6] st N I L P := st_go b189 dX11_manyWords_58 (by decide) rfl
theorem s189_59 : sm_at C X 189 59 [l0, l1, l2, l3, some (.int x0), l5, l6] st N I L P = sm_at C X 189 62 [l0, l1, l2, sm_cl l3, some (.int (x0 + (nI 1))), l5, l6] st N I L P := st_go b189 dX11_manyWords_59 (by decide) rfl
theorem s189_62 : sm_at C X 189 62 ls st N I L P = sm_at C X 189 5 ls st N I L P := st_go b189 dX11_manyWords_62 (by decide) rfl
theorem s189_65 : sm_at C X 189 65 [l0, l1, l2, some (.int x0), l4, l5, l6] st N I L P = sm_at C X 189 66 [l0, l1, l2, some (.int x0), l4, l5, l6] (.int x0 :: st) N I L P := st_go b189 dX11_manyWords_65 (by decide) rfl
theorem s189_66 : sm_at C X 189 66 ls [.int x0] N I L P = some (some (.int x0), N, I, L, P) := st_iret b189 dX11_manyWords_66 rfl
theorem b190 : sm_b 190 = cX11_words := rfl
theorem s190_0 : sm_at C X 190 0 [l0, some (.int x0), l2, l3] st N I L P = sm_at C X 190 1 [l0, some (.int x0), l2, l3] (.int x0 :: st) N I L P := st_go b190 dX11_words_0 (by decide) rfl
theorem s190_1 : sm_at C X 190 1 ls (.int x0 :: st) N I L P = sm_at C X 190 2 ls (.long x0.toInt64 :: st) N I L P := st_go b190 dX11_words_1 (by decide) rfl
theorem s190_2 : sm_at C X 190 2 ls st N I L P = sm_at C X 190 3 ls (.long (lN 1) :: st) N I L P := st_go b190 dX11_words_2 (by decide) rfl
theorem s190_3 : sm_at C X 190 3 ls st N I L P = sm_at C X 190 6 ls (.long (lN 8) :: st) N I L P := st_go b190 dX11_words_3 (by decide) rfl
theorem s190_6 : sm_at C X 190 6 ls [w2, w1, w0] N I L P = sm_af C X 190 9 ls [] (C 146 [w0, w1, w2] N I L P) := st_stat b190 dX11_words_6 (n := 3) (rest := []) rfl rfl rfl rfl rfl rfl
theorem s190_9 : sm_at C X 190 9 ls (.int x0 :: st) N I L P = if x0 = 0 then sm_at C X 190 29 ls st N I L P else sm_at C X 190 12 ls st N I L P := st_br b190 dX11_words_9 (by decide) rfl
theorem s190_12 : sm_at C X 190 12 [l0, l1, some (.int x0), l3] st N I L P = sm_at C X 190 13 [l0, l1, some (.int x0), l3] (.int x0 :: st) N I L P := st_go b190 dX11_words_12 (by decide) rfl
theorem s190_13 : sm_at C X 190 13 [l0, l1, l2, some (.int x0)] st N I L P = sm_at C X 190 14 [l0, l1, l2, some (.int x0)] (.int x0 :: st) N I L P := st_go b190 dX11_words_13 (by decide) rfl
theorem s190_14 : sm_at C X 190 14 ls [w1, w0] N I L P = sm_af C X 190 17 ls [] (C 187 [w0, w1] N I L P) := st_stat b190 dX11_words_14 (n := 2) (rest := []) rfl rfl rfl rfl rfl rfl
theorem s190_17 : sm_at C X 190 17 ls (.int x0 :: st) N I L P = if x0 = 0 then sm_at C X 190 29 ls st N I L P else sm_at C X 190 20 ls st N I L P := st_br b190 dX11_words_17 (by decide) rfl
theorem s190_20 : sm_at C X 190 20 [l0, some (.int x0), l2, l3] st N I L P = sm_at C X 190 21 [l0, some (.int x0), l2, l3] (.int x0 :: st) N I L P := st_go b190 dX11_words_20 (by decide) rfl
theorem s190_21 : sm_at C X 190 21 [l0, l1, some (.int x0), l3] st N I L P = sm_at C X 190 22 [l0, l1, some (.int x0), l3] (.int x0 :: st) N I L P := st_go b190 dX11_words_21 (by decide) rfl
theorem s190_22 : sm_at C X 190 22 [l0, l1, l2, some (.int x0)] st N I L P = sm_at C X 190 23 [l0, l1, l2, some (.int x0)] (.int x0 :: st) N I L P := st_go b190 dX11_words_22 (by decide) rfl
theorem s190_23 : sm_at C X 190 23 ls [w2, w1, w0] N I L P = sm_af C X 190 26 ls [] (C 189 [w0, w1, w2] N I L P) := st_stat b190 dX11_words_23 (n := 3) (rest := []) rfl rfl rfl rfl rfl rfl
theorem s190_26 : sm_at C X 190 26 ls st N I L P = sm_at C X 190 31 ls st N I L P := st_go b190 dX11_words_26 (by decide) rfl
theorem s190_29 : sm_at C X 190 29 ls st N I L P = sm_at C X 190 31 ls (.int (-102) :: st) N I L P := st_go b190 dX11_words_29 (by decide) rfl
theorem s190_31 : sm_at C X 190 31 ls [.int x0] N I L P = some (some (.int x0), N, I, L, P) := st_iret b190 dX11_words_31 rfl
theorem b191 : sm_b 191 = cX11_least := rfl
theorem s191_0 : sm_at C X 191 0 [l0, some (.int x0), l2, l3, l4] st N I L P = sm_at C X 191 1 [l0, some (.int x0), l2, l3, l4] (.int x0 :: st) N I L P := st_go b191 dX11_least_0 (by decide) rfl
theorem s191_1 : sm_at C X 191 1 ls (.int x0 :: st) N I L P = sm_at C X 191 2 ls (.long x0.toInt64 :: st) N I L P := st_go b191 dX11_least_1 (by decide) rfl
theorem s191_2 : sm_at C X 191 2 ls st N I L P = sm_at C X 191 3 ls (.long (lN 1) :: st) N I L P := st_go b191 dX11_least_2 (by decide) rfl
theorem s191_3 : sm_at C X 191 3 ls st N I L P = sm_at C X 191 6 ls (.long (lN 99999) :: st) N I L P := st_go b191 dX11_least_3 (by decide) rfl
theorem s191_6 : sm_at C X 191 6 ls [w2, w1, w0] N I L P = sm_af C X 191 9 ls [] (C 146 [w0, w1, w2] N I L P) := st_stat b191 dX11_least_6 (n := 3) (rest := []) rfl rfl rfl rfl rfl rfl
theorem s191_9 : sm_at C X 191 9 ls (.int x0 :: st) N I L P = if x0 = 0 then sm_at C X 191 20 ls st N I L P else sm_at C X 191 12 ls st N I L P := st_br b191 dX11_least_9 (by decide) rfl
theorem s191_12 : sm_at C X 191 12 [l0, l1, some (.int x0), l3, l4] st N I L P = sm_at C X 191 13 [l0, l1, some (.int x0), l3, l4] (.int x0 :: st) N I L P := st_go b191 dX11_least_12 (by decide) rfl
theorem s191_13 : sm_at C X 191 13 [l0, l1, l2, some (.int x0), l4] st N I L P = sm_at C X 191 14 [l0, l1, l2, some (.int x0), l4] (.int x0 :: st) N I L P := st_go b191 dX11_least_13 (by decide) rfl
theorem s191_14 : sm_at C X 191 14 ls [w1, w0] N I L P = sm_af C X 191 17 ls [] (C 187 [w0, w1] N I L P) := st_stat b191 dX11_least_14 (n := 2) (rest := []) rfl rfl rfl rfl rfl rfl
theorem s191_17 : sm_at C X 191 17 ls (.int x0 :: st) N I L P = if ¬ x0 = 0 then sm_at C X 191 23 ls st N I L P else sm_at C X 191 20 ls st N I L P := st_br b191 dX11_least_17 (by decide) rfl
theorem s191_20 : sm_at C X 191 20 ls st N I L P = sm_at C X 191 22 ls (.int (-102) :: st) N I L P := st_go b191 dX11_least_20 (by decide) rfl
theorem s191_22 : sm_at C X 191 22 ls [.int x0] N I L P = some (some (.int x0), N, I, L, P) := st_iret b191 dX11_least_22 rfl
theorem s191_23 : sm_at C X 191 23 ls st N I L P = sm_at C X 191 24 ls (.int (nI 1) :: st) N I L P := st_go b191 dX11_least_23 (by decide) rfl
theorem s191_24 : sm_at C X 191 24 [l0, l1, l2, l3, l4] (.int x0 :: st) N I L P = sm_at C X 191 26 [l0, l1, l2, sm_cl l3, some (.int x0)] st N I L P := st_go b191 dX11_least_24 (by decide) rfl
theorem s191_26 : sm_at C X 191 26 [l0, l1, l2, l3, some (.int x0)] st N I L P = sm_at C X 191 28 [l0, l1, l2, l3, some (.int x0)] (.int x0 :: st) N I L P := st_go b191 dX11_least_26 (by decide) rfl
theorem s191_28 : sm_at C X 191 28 ls st N I L P = sm_at C X 191 30 ls (.int (nI 9) :: st) N I L P := st_go b191 dX11_least_28 (by decide) rfl
theorem s191_30 : sm_at C X 191 30 ls (.int x0 :: .int x1 :: st) N I L P = if x0 ≤ x1 then sm_at C X 191 53 ls st N I L P else sm_at C X 191 33 ls st N I L P := st_br b191 dX11_least_30 (by decide) rfl
theorem s191_33 : sm_at C X 191 33 [l0, l1, l2, l3, some (.int x0)] st N I L P = sm_at C X 191 35 [l0, l1, l2, l3, some (.int x0)] (.int x0 :: st) N I L P := st_go b191 dX11_least_33 (by decide) rfl
theorem s191_35 : sm_at C X 191 35 [l0, l1, some (.int x0), l3, l4] st N I L P = sm_at C X 191 36 [l0, l1, some (.int x0), l3, l4] (.int x0 :: st) N I L P := st_go b191 dX11_least_35 (by decide) rfl
theorem s191_36 : sm_at C X 191 36 [l0, l1, l2, some (.int x0), l4] st N I L P = sm_at C X 191 37 [l0, l1, l2, some (.int x0), l4] (.int x0 :: st) N I L P := st_go b191 dX11_least_36 (by decide) rfl
theorem s191_37 : sm_at C X 191 37 ls [w2, w1, w0] N I L P = sm_af C X 191 40 ls [] (C 189 [w0, w1, w2] N I L P) := st_stat b191 dX11_least_37 (n := 3) (rest := []) rfl rfl rfl rfl rfl rfl
theorem s191_40 : sm_at C X 191 40 [l0, some (.int x0), l2, l3, l4] st N I L P = sm_at C X 191 41 [l0, some (.int x0), l2, l3, l4] (.int x0 :: st) N I L P := st_go b191 dX11_least_40 (by decide) rfl
theorem s191_41 : sm_at C X 191 41 ls (.int x0 :: .int x1 :: st) N I L P = if x1 < x0 then sm_at C X 191 47 ls st N I L P else sm_at C X 191 44 ls st N I L P := st_br b191 dX11_least_41 (by decide) rfl
theorem s191_44 : sm_at C X 191 44 [l0, l1, l2, l3, some (.int x0)] st N I L P = sm_at C X 191 46 [l0, l1, l2, l3, some (.int x0)] (.int x0 :: st) N I L P := st_go b191 dX11_least_44 (by decide) rfl
theorem s191_46 : sm_at C X 191 46 ls [.int x0] N I L P = some (some (.int x0), N, I, L, P) := st_iret b191 dX11_least_46 rfl
theorem s191_47 : sm_at C X 191 47 [l0, l1, l2, l3, some (.int x0)] st N I L P = sm_at C X 191 50 [l0, l1, l2, sm_cl l3, some (.int (x0 + (nI 1)))] st N I L P := st_go b191 dX11_least_47 (by decide) rfl
theorem s191_50 : sm_at C X 191 50 ls st N I L P = sm_at C X 191 26 ls st N I L P := st_go b191 dX11_least_50 (by decide) rfl
theorem s191_53 : sm_at C X 191 53 ls st N I L P = sm_at C X 191 54 ls (.int (-1) :: st) N I L P := st_go b191 dX11_least_53 (by decide) rfl
theorem s191_54 : sm_at C X 191 54 ls [.int x0] N I L P = some (some (.int x0), N, I, L, P) := st_iret b191 dX11_least_54 rfl
theorem b192 : sm_b 192 = cX11_missed := rfl
theorem s192_0 : sm_at C X 192 0 [l0, some (.int x0), l2, l3, l4, l5, l6, l7, l8] st N I L P = sm_at C X 192 1 [l0, some (.int x0), l2, l3, l4, l5, l6, l7, l8] (.int x0 :: st) N I L P := st_go b192 dX11_missed_0 (by decide) rfl
theorem s192_1 : sm_at C X 192 1 ls (.int x0 :: st) N I L P = sm_at C X 192 2 ls (.long x0.toInt64 :: st) N I L P := st_go b192 dX11_missed_1 (by decide) rfl
theorem s192_2 : sm_at C X 192 2 ls st N I L P = sm_at C X 192 3 ls (.long (lN 1) :: st) N I L P := st_go b192 dX11_missed_2 (by decide) rfl
theorem s192_3 : sm_at C X 192 3 ls st N I L P = sm_at C X 192 6 ls (.long (lN 4) :: st) N I L P := st_go b192 dX11_missed_3 (by decide) rfl
theorem s192_6 : sm_at C X 192 6 ls [w2, w1, w0] N I L P = sm_af C X 192 9 ls [] (C 146 [w0, w1, w2] N I L P) := st_stat b192 dX11_missed_6 (n := 3) (rest := []) rfl rfl rfl rfl rfl rfl
theorem s192_9 : sm_at C X 192 9 ls (.int x0 :: st) N I L P = if x0 = 0 then sm_at C X 192 31 ls st N I L P else sm_at C X 192 12 ls st N I L P := st_br b192 dX11_missed_9 (by decide) rfl
theorem s192_12 : sm_at C X 192 12 [l0, l1, some (.int x0), l3, l4, l5, l6, l7, l8] st N I L P = sm_at C X 192 13 [l0, l1, some (.int x0), l3, l4, l5, l6, l7, l8] (.int x0 :: st) N I L P := st_go b192 dX11_missed_12 (by decide) rfl
theorem s192_13 : sm_at C X 192 13 ls (.int x0 :: st) N I L P = sm_at C X 192 14 ls (.long x0.toInt64 :: st) N I L P := st_go b192 dX11_missed_13 (by decide) rfl
theorem s192_14 : sm_at C X 192 14 ls st N I L P = sm_at C X 192 15 ls (.long (lN 0) :: st) N I L P := st_go b192 dX11_missed_14 (by decide) rfl
theorem s192_15 : sm_at C X 192 15 ls st N I L P = sm_at C X 192 18 ls (.long (lN 4) :: st) N I L P := st_go b192 dX11_missed_15 (by decide) rfl
theorem s192_18 : sm_at C X 192 18 ls [w2, w1, w0] N I L P = sm_af C X 192 21 ls [] (C 146 [w0, w1, w2] N I L P) := st_stat b192 dX11_missed_18 (n := 3) (rest := []) rfl rfl rfl rfl rfl rfl
theorem s192_21 : sm_at C X 192 21 ls (.int x0 :: st) N I L P = if x0 = 0 then sm_at C X 192 31 ls st N I L P else sm_at C X 192 24 ls st N I L P := st_br b192 dX11_missed_21 (by decide) rfl
theorem s192_24 : sm_at C X 192 24 [l0, l1, l2, some (.int x0), l4, l5, l6, l7, l8] st N I L P = sm_at C X 192 25 [l0, l1, l2, some (.int x0), l4, l5, l6, l7, l8] (.int x0 :: st) N I L P := st_go b192 dX11_missed_24 (by decide) rfl
theorem s192_25 : sm_at C X 192 25 ls [w0] N I L P = sm_af C X 192 28 ls [] (C 172 [w0] N I L P) := st_stat b192 dX11_missed_25 (n := 1) (rest := []) rfl rfl rfl rfl rfl rfl
theorem s192_28 : sm_at C X 192 28 ls (.int x0 :: st) N I L P = if ¬ x0 = 0 then sm_at C X 192 34 ls st N I L P else sm_at C X 192 31 ls st N I L P := st_br b192 dX11_missed_28 (by decide) rfl
theorem s192_31 : sm_at C X 192 31 ls st N I L P = sm_at C X 192 33 ls (.int (-102) :: st) N I L P := st_go b192 dX11_missed_31 (by decide) rfl
theorem s192_33 : sm_at C X 192 33 ls [.int x0] N I L P = some (some (.int x0), N, I, L, P) := st_iret b192 dX11_missed_33 rfl
theorem s192_34 : sm_at C X 192 34 ls st N I L P = sm_at C X 192 35 ls (.int (nI 1) :: st) N I L P := st_go b192 dX11_missed_34 (by decide) rfl
theorem s192_35 : sm_at C X 192 35 [l0, some (.int x0), l2, l3, l4, l5, l6, l7, l8] st N I L P = sm_at C X 192 36 [l0, some (.int x0), l2, l3, l4, l5, l6, l7, l8] (.int x0 :: st) N I L P := st_go b192 dX11_missed_35 (by decide) rfl
theorem s192_36 : sm_at C X 192 36 ls (.int x0 :: .int x1 :: st) N I L P = sm_at C X 192 37 ls (.int (x1 <<< (x0 &&& 31)) :: st) N I L P := st_go b192 dX11_missed_36 (by decide) rfl
theorem s192_37 : sm_at C X 192 37 [l0, l1, l2, l3, l4, l5, l6, l7, l8] (.int x0 :: st) N I L P = sm_at C X 192 39 [l0, l1, l2, sm_cl l3, some (.int x0), l5, l6, l7, l8] st N I L P := st_go b192 dX11_missed_37 (by decide) rfl
theorem s192_39 : sm_at C X 192 39 ls st N I L P = sm_at C X 192 40 ls (.int (nI 0) :: st) N I L P := st_go b192 dX11_missed_39 (by decide) rfl
theorem s192_40 : sm_at C X 192 40 [l0, l1, l2, l3, l4, l5, l6, l7, l8] (.int x0 :: st) N I L P = sm_at C X 192 42 [l0, l1, l2, l3, sm_cl l4, some (.int x0), l6, l7, l8] st N I L P := st_go b192 dX11_missed_40 (by decide) rfl
theorem s192_42 : sm_at C X 192 42 [l0, l1, l2, l3, l4, some (.int x0), l6, l7, l8] st N I L P = sm_at C X 192 44 [l0, l1, l2, l3, l4, some (.int x0), l6, l7, l8] (.int x0 :: st) N I L P := st_go b192 dX11_missed_42 (by decide) rfl
theorem s192_44 : sm_at C X 192 44 [l0, l1, l2, l3, some (.int x0), l5, l6, l7, l8] st N I L P = sm_at C X 192 46 [l0, l1, l2, l3, some (.int x0), l5, l6, l7, l8] (.int x0 :: st) N I L P := st_go b192 dX11_missed_44 (by decide) rfl
theorem s192_46 : sm_at C X 192 46 ls (.int x0 :: .int x1 :: st) N I L P = if x0 ≤ x1 then sm_at C X 192 144 ls st N I L P else sm_at C X 192 49 ls st N I L P := st_br b192 dX11_missed_46 (by decide) rfl
theorem s192_49 : sm_at C X 192 49 [some (.ref a), l1, l2, l3, l4, l5, l6, l7, l8] st N I L P = sm_at C X 192 50 [some (.ref a), l1, l2, l3, l4, l5, l6, l7, l8] (.ref a :: st) N I L P := st_go b192 dX11_missed_49 (by decide) rfl
theorem s192_50 (h : a < N) (h1 : sm_lay a = .inl 11) : sm_at C X 192 50 ls (.ref a :: st) N I L P = sm_at C X 192 53 ls (va_rf (P a 16) :: st) N I L P := st_gfR b192 dX11_missed_50 rfl rfl h h1
theorem s192_53 : sm_at C X 192 53 [l0, l1, l2, l3, l4, some (.int x0), l6, l7, l8] st N I L P = sm_at C X 192 55 [l0, l1, l2, l3, l4, some (.int x0), l6, l7, l8] (.int x0 :: st) N I L P := st_go b192 dX11_missed_53 (by decide) rfl
theorem s192_55 : sm_at C X 192 55 ls st N I L P = sm_at C X 192 56 ls (.int (nI 0) :: st) N I L P := st_go b192 dX11_missed_55 (by decide) rfl
theorem s192_56 (h : a < N) (h1 : k < sm_al a) : sm_at C X 192 56 ls (.int x0 :: .int (nI k) :: .ref a :: st) N I L P = sm_at C X 192 57 ls st N (sm_up I a k x0) L P := st_iast b192 dX11_missed_56 h h1
theorem s192_57 : sm_at C X 192 57 ls st N I L P = sm_at C X 192 58 ls (.int (nI 0) :: st) N I L P := st_go b192 dX11_missed_57 (by decide) rfl
theorem s192_58 : sm_at C X 192 58 [l0, l1, l2, l3, l4, l5, l6, l7, l8] (.int x0 :: st) N I L P = sm_at C X 192 60 [l0, l1, l2, l3, l4, sm_cl l5, some (.int x0), l7, l8] st N I L P := st_go b192 dX11_missed_58 (by decide) rfl
theorem s192_60 : sm_at C X 192 60 [l0, l1, l2, l3, l4, l5, some (.int x0), l7, l8] st N I L P = sm_at C X 192 62 [l0, l1, l2, l3, l4, l5, some (.int x0), l7, l8] (.int x0 :: st) N I L P := st_go b192 dX11_missed_60 (by decide) rfl
theorem s192_62 : sm_at C X 192 62 [l0, l1, l2, l3, some (.int x0), l5, l6, l7, l8] st N I L P = sm_at C X 192 64 [l0, l1, l2, l3, some (.int x0), l5, l6, l7, l8] (.int x0 :: st) N I L P := st_go b192 dX11_missed_62 (by decide) rfl
theorem s192_64 : sm_at C X 192 64 ls (.int x0 :: .int x1 :: st) N I L P = if x0 ≤ x1 then sm_at C X 192 138 ls st N I L P else sm_at C X 192 67 ls st N I L P := st_br b192 dX11_missed_64 (by decide) rfl
theorem s192_67 : sm_at C X 192 67 [l0, l1, l2, l3, l4, some (.int x0), l6, l7, l8] st N I L P = sm_at C X 192 69 [l0, l1, l2, l3, l4, some (.int x0), l6, l7, l8] (.int x0 :: st) N I L P := st_go b192 dX11_missed_67 (by decide) rfl
theorem s192_69 : sm_at C X 192 69 [l0, l1, l2, l3, l4, l5, some (.int x0), l7, l8] st N I L P = sm_at C X 192 71 [l0, l1, l2, l3, l4, l5, some (.int x0), l7, l8] (.int x0 :: st) N I L P := st_go b192 dX11_missed_69 (by decide) rfl
theorem s192_71 : sm_at C X 192 71 ls (.int x0 :: .int x1 :: st) N I L P = if x1 = x0 then sm_at C X 192 106 ls st N I L P else sm_at C X 192 74 ls st N I L P := st_br b192 dX11_missed_71 (by decide) rfl
theorem s192_74 : sm_at C X 192 74 [l0, l1, l2, l3, l4, some (.int x0), l6, l7, l8] st N I L P = sm_at C X 192 76 [l0, l1, l2, l3, l4, some (.int x0), l6, l7, l8] (.int x0 :: st) N I L P := st_go b192 dX11_missed_74 (by decide) rfl
theorem s192_76 : sm_at C X 192 76 [l0, l1, l2, l3, l4, l5, some (.int x0), l7, l8] st N I L P = sm_at C X 192 78 [l0, l1, l2, l3, l4, l5, some (.int x0), l7, l8] (.int x0 :: st) N I L P := st_go b192 dX11_missed_76 (by decide) rfl
theorem s192_78 : sm_at C X 192 78 ls st N I L P = sm_at C X 192 79 ls (.int (-1) :: st) N I L P := st_go b192 dX11_missed_78 (by decide) rfl
theorem s192_79 : sm_at C X 192 79 ls (.int x0 :: .int x1 :: st) N I L P = sm_at C X 192 80 ls (.int (x1 ^^^ x0) :: st) N I L P := st_go b192 dX11_missed_79 (by decide) rfl
theorem s192_80 : sm_at C X 192 80 ls (.int x0 :: .int x1 :: st) N I L P = sm_at C X 192 81 ls (.int (x1 &&& x0) :: st) N I L P := st_go b192 dX11_missed_80 (by decide) rfl
theorem s192_81 : sm_at C X 192 81 ls [w0] N I L P = sm_af C X 192 84 ls [] (C 188 [w0] N I L P) := st_stat b192 dX11_missed_81 (n := 1) (rest := []) rfl rfl rfl rfl rfl rfl
theorem s192_84 : sm_at C X 192 84 [l0, l1, some (.int x0), l3, l4, l5, l6, l7, l8] st N I L P = sm_at C X 192 85 [l0, l1, some (.int x0), l3, l4, l5, l6, l7, l8] (.int x0 :: st) N I L P := st_go b192 dX11_missed_84 (by decide) rfl
theorem s192_85 : sm_at C X 192 85 ls (.int x0 :: .int x1 :: st) N I L P = if x0 < x1 then sm_at C X 192 106 ls st N I L P else sm_at C X 192 88 ls st N I L P := st_br b192 dX11_missed_85 (by decide) rfl
theorem s192_88 : sm_at C X 192 88 [l0, l1, l2, l3, l4, l5, some (.int x0), l7, l8] st N I L P = sm_at C X 192 90 [l0, l1, l2, l3, l4, l5, some (.int x0), l7, l8] (.int x0 :: st) N I L P := st_go b192 dX11_missed_88 (by decide) rfl
theorem s192_90 : sm_at C X 192 90 [l0, l1, l2, l3, l4, some (.int x0), l6, l7, l8] st N I L P = sm_at C X 192 92 [l0, l1, l2, l3, l4, some (.int x0), l6, l7, l8] (.int x0 :: st) N I L P := st_go b192 dX11_missed_90 (by decide) rfl
theorem s192_92 : sm_at C X 192 92 ls st N I L P = sm_at C X 192 93 ls (.int (-1) :: st) N I L P := st_go b192 dX11_missed_92 (by decide) rfl
theorem s192_93 : sm_at C X 192 93 ls (.int x0 :: .int x1 :: st) N I L P = sm_at C X 192 94 ls (.int (x1 ^^^ x0) :: st) N I L P := st_go b192 dX11_missed_93 (by decide) rfl
theorem s192_94 : sm_at C X 192 94 ls (.int x0 :: .int x1 :: st) N I L P = sm_at C X 192 95 ls (.int (x1 &&& x0) :: st) N I L P := st_go b192 dX11_missed_94 (by decide) rfl
theorem s192_95 : sm_at C X 192 95 ls [w0] N I L P = sm_af C X 192 98 ls [] (C 188 [w0] N I L P) := st_stat b192 dX11_missed_95 (n := 1) (rest := []) rfl rfl rfl rfl rfl rfl
theorem s192_98 : sm_at C X 192 98 [l0, l1, some (.int x0), l3, l4, l5, l6, l7, l8] st N I L P = sm_at C X 192 99 [l0, l1, some (.int x0), l3, l4, l5, l6, l7, l8] (.int x0 :: st) N I L P := st_go b192 dX11_missed_98 (by decide) rfl
theorem s192_99 : sm_at C X 192 99 ls (.int x0 :: .int x1 :: st) N I L P = if x0 < x1 then sm_at C X 192 106 ls st N I L P else sm_at C X 192 102 ls st N I L P := st_br b192 dX11_missed_99 (by decide) rfl
theorem s192_102 : sm_at C X 192 102 ls st N I L P = sm_at C X 192 103 ls (.int (nI 1) :: st) N I L P := st_go b192 dX11_missed_102 (by decide) rfl
theorem s192_103 : sm_at C X 192 103 ls st N I L P = sm_at C X 192 107 ls st N I L P := st_go b192 dX11_missed_103 (by decide) rfl
theorem s192_106 : sm_at C X 192 106 ls st N I L P = sm_at C X 192 107 ls (.int (nI 0) :: st) N I L P := st_go b192 dX11_missed_106 (by decide) rfl
theorem s192_107 : sm_at C X 192 107 [l0, l1, l2, l3, l4, l5, l6, l7, l8] (.int x0 :: st) N I L P = sm_at C X 192 109 [l0, l1, l2, l3, l4, l5, sm_cl l6, some (.int x0), l8] st N I L P := st_go b192 dX11_missed_107 (by decide) rfl
theorem s192_109 : sm_at C X 192 109 [some (.ref a), l1, l2, l3, l4, l5, l6, l7, l8] st N I L P = sm_at C X 192 110 [some (.ref a), l1, l2, l3, l4, l5, l6, l7, l8] (.ref a :: st) N I L P := st_go b192 dX11_missed_109 (by decide) rfl
theorem s192_110 (h : a < N) (h1 : sm_lay a = .inl 11) : sm_at C X 192 110 ls (.ref a :: st) N I L P = sm_at C X 192 113 ls (va_rf (P a 16) :: st) N I L P := st_gfR b192 dX11_missed_110 rfl rfl h h1
theorem s192_113 : sm_at C X 192 113 [l0, l1, l2, l3, l4, some (.int x0), l6, l7, l8] st N I L P = sm_at C X 192 115 [l0, l1, l2, l3, l4, some (.int x0), l6, l7, l8] (.int x0 :: st) N I L P := st_go b192 dX11_missed_113 (by decide) rfl
theorem s192_115 : sm_at C X 192 115 ls (.int x0 :: .ref a :: st) N I L P = sm_at C X 192 116 ls (.int x0 :: .ref a :: .int x0 :: .ref a :: st) N I L P := st_go b192 dX11_missed_115 (by decide) rfl
theorem s192_116 (h : a < N) (h1 : k < sm_al a) : sm_at C X 192 116 ls (.int (nI k) :: .ref a :: st) N I L P = sm_at C X 192 117 ls (.int (I a k) :: st) N I L P := st_iald b192 dX11_missed_116 h h1
theorem s192_117 : sm_at C X 192 117 [l0, l1, l2, l3, l4, l5, l6, some (.int x0), l8] st N I L P = sm_at C X 192 119 [l0, l1, l2, l3, l4, l5, l6, some (.int x0), l8] (.int x0 :: st) N I L P := st_go b192 dX11_missed_117 (by decide) rfl
theorem s192_119 : sm_at C X 192 119 ls (.int x0 :: st) N I L P = if x0 = 0 then sm_at C X 192 129 ls st N I L P else sm_at C X 192 122 ls st N I L P := st_br b192 dX11_missed_119 (by decide) rfl
theorem s192_122 : sm_at C X 192 122 ls st N I L P = sm_at C X 192 123 ls (.int (nI 1) :: st) N I L P := st_go b192 dX11_missed_122 (by decide) rfl
theorem s192_123 : sm_at C X 192 123 [l0, l1, l2, l3, l4, l5, some (.int x0), l7, l8] st N I L P = sm_at C X 192 125 [l0, l1, l2, l3, l4, l5, some (.int x0), l7, l8] (.int x0 :: st) N I L P := st_go b192 dX11_missed_123 (by decide) rfl
theorem s192_125 : sm_at C X 192 125 ls (.int x0 :: .int x1 :: st) N I L P = sm_at C X 192 126 ls (.int (x1 <<< (x0 &&& 31)) :: st) N I L P := st_go b192 dX11_missed_125 (by decide) rfl
theorem s192_126 : sm_at C X 192 126 ls st N I L P = sm_at C X 192 130 ls st N I L P := st_go b192 dX11_missed_126 (by decide) rfl
theorem s192_129 : sm_at C X 192 129 ls st N I L P = sm_at C X 192 130 ls (.int (nI 0) :: st) N I L P := st_go b192 dX11_missed_129 (by decide) rfl
theorem s192_130 : sm_at C X 192 130 ls (.int x0 :: .int x1 :: st) N I L P = sm_at C X 192 131 ls (.int (x1 ||| x0) :: st) N I L P := st_go b192 dX11_missed_130 (by decide) rfl
theorem s192_131 (h : a < N) (h1 : k < sm_al a) : sm_at C X 192 131 ls (.int x0 :: .int (nI k) :: .ref a :: st) N I L P = sm_at C X 192 132 ls st N (sm_up I a k x0) L P := st_iast b192 dX11_missed_131 h h1
theorem s192_132 : sm_at C X 192 132 [l0, l1, l2, l3, l4, l5, some (.int x0), l7, l8] st N I L P = sm_at C X 192 135 [l0, l1, l2, l3, l4, sm_cl l5, some (.int (x0 + (nI 1))), l7, l8] st N I L P := st_go b192 dX11_missed_132 (by decide) rfl
theorem s192_135 : sm_at C X 192 135 ls st N I L P = sm_at C X 192 60 ls st N I L P := st_go b192 dX11_missed_135 (by decide) rfl
theorem s192_138 : sm_at C X 192 138 [l0, l1, l2, l3, l4, some (.int x0), l6, l7, l8] st N I L P = sm_at C X 192 141 [l0, l1, l2, l3, sm_cl l4, some (.int (x0 + (nI 1))), l6, l7, l8] st N I L P := st_go b192 dX11_missed_138 (by decide) rfl
theorem s192_141 : sm_at C X 192 141 ls st N I L P = sm_at C X 192 42 ls st N I L P := st_go b192 dX11_missed_141 (by decide) rfl
theorem s192_144 : sm_at C X 192 144 ls st N I L P = sm_at C X 192 145 ls (.int (nI 0) :: st) N I L P := st_go b192 dX11_missed_144 (by decide) rfl
theorem s192_145 : sm_at C X 192 145 [l0, l1, l2, l3, l4, l5, l6, l7, l8] (.int x0 :: st) N I L P = sm_at C X 192 147 [l0, l1, l2, l3, sm_cl l4, some (.int x0), l6, l7, l8] st N I L P := st_go b192 dX11_missed_145 (by decide) rfl
theorem s192_147 : sm_at C X 192 147 ls st N I L P = sm_at C X 192 148 ls (.int (nI 1) :: st) N I L P := st_go b192 dX11_missed_147 (by decide) rfl
theorem s192_148 : sm_at C X 192 148 [l0, l1, l2, l3, l4, l5, l6, l7, l8] (.int x0 :: st) N I L P = sm_at C X 192 150 [l0, l1, l2, l3, l4, sm_cl l5, some (.int x0), l7, l8] st N I L P := st_go b192 dX11_missed_148 (by decide) rfl
theorem s192_150 : sm_at C X 192 150 [l0, l1, l2, l3, l4, l5, some (.int x0), l7, l8] st N I L P = sm_at C X 192 152 [l0, l1, l2, l3, l4, l5, some (.int x0), l7, l8] (.int x0 :: st) N I L P := st_go b192 dX11_missed_150 (by decide) rfl
theorem s192_152 : sm_at C X 192 152 ls st N I L P = sm_at C X 192 153 ls (.int (nI 1) :: st) N I L P := st_go b192 dX11_missed_152 (by decide) rfl
theorem s192_153 : sm_at C X 192 153 [l0, l1, l2, l3, some (.int x0), l5, l6, l7, l8] st N I L P = sm_at C X 192 155 [l0, l1, l2, l3, some (.int x0), l5, l6, l7, l8] (.int x0 :: st) N I L P := st_go b192 dX11_missed_153 (by decide) rfl
theorem s192_155 : sm_at C X 192 155 ls (.int x0 :: .int x1 :: st) N I L P = sm_at C X 192 156 ls (.int (x1 <<< (x0 &&& 31)) :: st) N I L P := st_go b192 dX11_missed_155 (by decide) rfl
theorem s192_156 : sm_at C X 192 156 ls (.int x0 :: .int x1 :: st) N I L P = if x0 ≤ x1 then sm_at C X 192 250 ls st N I L P else sm_at C X 192 159 ls st N I L P := st_br b192 dX11_missed_156 (by decide) rfl
theorem s192_159 : sm_at C X 192 159 [l0, l1, l2, l3, l4, l5, some (.int x0), l7, l8] st N I L P = sm_at C X 192 161 [l0, l1, l2, l3, l4, l5, some (.int x0), l7, l8] (.int x0 :: st) N I L P := st_go b192 dX11_missed_159 (by decide) rfl
theorem s192_161 : sm_at C X 192 161 ls [w0] N I L P = sm_af C X 192 164 ls [] (C 188 [w0] N I L P) := st_stat b192 dX11_missed_161 (n := 1) (rest := []) rfl rfl rfl rfl rfl rfl
theorem s192_164 : sm_at C X 192 164 [l0, l1, l2, l3, l4, some (.int x0), l6, l7, l8] st N I L P = sm_at C X 192 166 [l0, l1, l2, l3, l4, some (.int x0), l6, l7, l8] (.int x0 :: st) N I L P := st_go b192 dX11_missed_164 (by decide) rfl
theorem s192_166 : sm_at C X 192 166 ls [w0, v0] N I L P = sm_af C X 192 169 ls [v0] (C 188 [w0] N I L P) := st_stat b192 dX11_missed_166 (n := 1) (rest := [v0]) rfl rfl rfl rfl rfl rfl
theorem s192_169 : sm_at C X 192 169 ls (.int x0 :: .int x1 :: st) N I L P = if x1 ≤ x0 then sm_at C X 192 176 ls st N I L P else sm_at C X 192 172 ls st N I L P := st_br b192 dX11_missed_169 (by decide) rfl
theorem s192_172 : sm_at C X 192 172 ls st N I L P = sm_at C X 192 173 ls (.int (nI 1) :: st) N I L P := st_go b192 dX11_missed_172 (by decide) rfl
theorem s192_173 : sm_at C X 192 173 ls st N I L P = sm_at C X 192 177 ls st N I L P := st_go b192 dX11_missed_173 (by decide) rfl
theorem s192_176 : sm_at C X 192 176 ls st N I L P = sm_at C X 192 177 ls (.int (nI 0) :: st) N I L P := st_go b192 dX11_missed_176 (by decide) rfl
theorem s192_177 : sm_at C X 192 177 [l0, l1, l2, l3, l4, l5, l6, l7, l8] (.int x0 :: st) N I L P = sm_at C X 192 179 [l0, l1, l2, l3, l4, l5, sm_cl l6, some (.int x0), l8] st N I L P := st_go b192 dX11_missed_177 (by decide) rfl
theorem s192_179 : sm_at C X 192 179 ls st N I L P = sm_at C X 192 180 ls (.int (nI 0) :: st) N I L P := st_go b192 dX11_missed_179 (by decide) rfl
theorem s192_180 : sm_at C X 192 180 [l0, l1, l2, l3, l4, l5, l6, l7, l8] (.int x0 :: st) N I L P = sm_at C X 192 182 [l0, l1, l2, l3, l4, l5, l6, sm_cl l7, some (.int x0)] st N I L P := st_go b192 dX11_missed_180 (by decide) rfl
theorem s192_182 : sm_at C X 192 182 [l0, l1, l2, l3, l4, l5, l6, l7, some (.int x0)] st N I L P = sm_at C X 192 184 [l0, l1, l2, l3, l4, l5, l6, l7, some (.int x0)] (.int x0 :: st) N I L P := st_go b192 dX11_missed_182 (by decide) rfl
theorem s192_184 : sm_at C X 192 184 [l0, l1, l2, l3, some (.int x0), l5, l6, l7, l8] st N I L P = sm_at C X 192 186 [l0, l1, l2, l3, some (.int x0), l5, l6, l7, l8] (.int x0 :: st) N I L P := st_go b192 dX11_missed_184 (by decide) rfl
theorem s192_186 : sm_at C X 192 186 ls (.int x0 :: .int x1 :: st) N I L P = if x0 ≤ x1 then sm_at C X 192 230 ls st N I L P else sm_at C X 192 189 ls st N I L P := st_br b192 dX11_missed_186 (by decide) rfl
theorem s192_189 : sm_at C X 192 189 [l0, l1, l2, l3, l4, l5, l6, some (.int x0), l8] st N I L P = sm_at C X 192 191 [l0, l1, l2, l3, l4, l5, l6, some (.int x0), l8] (.int x0 :: st) N I L P := st_go b192 dX11_missed_189 (by decide) rfl
theorem s192_191 : sm_at C X 192 191 ls (.int x0 :: st) N I L P = if x0 = 0 then sm_at C X 192 230 ls st N I L P else sm_at C X 192 194 ls st N I L P := st_br b192 dX11_missed_191 (by decide) rfl
theorem s192_194 : sm_at C X 192 194 [l0, l1, l2, l3, l4, l5, some (.int x0), l7, l8] st N I L P = sm_at C X 192 196 [l0, l1, l2, l3, l4, l5, some (.int x0), l7, l8] (.int x0 :: st) N I L P := st_go b192 dX11_missed_194 (by decide) rfl
theorem s192_196 : sm_at C X 192 196 [l0, l1, l2, l3, l4, l5, l6, l7, some (.int x0)] st N I L P = sm_at C X 192 198 [l0, l1, l2, l3, l4, l5, l6, l7, some (.int x0)] (.int x0 :: st) N I L P := st_go b192 dX11_missed_196 (by decide) rfl
theorem s192_198 : sm_at C X 192 198 ls (.int x0 :: .int x1 :: st) N I L P = sm_at C X 192 199 ls (.int (x1 >>> (x0 &&& 31)) :: st) N I L P := st_go b192 dX11_missed_198 (by decide) rfl
theorem s192_199 : sm_at C X 192 199 ls st N I L P = sm_at C X 192 200 ls (.int (nI 1) :: st) N I L P := st_go b192 dX11_missed_199 (by decide) rfl
theorem s192_200 : sm_at C X 192 200 ls (.int x0 :: .int x1 :: st) N I L P = sm_at C X 192 201 ls (.int (x1 &&& x0) :: st) N I L P := st_go b192 dX11_missed_200 (by decide) rfl
theorem s192_201 : sm_at C X 192 201 ls (.int x0 :: st) N I L P = if x0 = 0 then sm_at C X 192 217 ls st N I L P else sm_at C X 192 204 ls st N I L P := st_br b192 dX11_missed_201 (by decide) rfl
theorem s192_204 : sm_at C X 192 204 [l0, l1, l2, l3, l4, l5, some (.int x0), l7, l8] st N I L P = sm_at C X 192 206 [l0, l1, l2, l3, l4, l5, some (.int x0), l7, l8] (.int x0 :: st) N I L P := st_go b192 dX11_missed_204 (by decide) rfl
theorem s192_206 : sm_at C X 192 206 [some (.ref a), l1, l2, l3, l4, l5, l6, l7, l8] st N I L P = sm_at C X 192 207 [some (.ref a), l1, l2, l3, l4, l5, l6, l7, l8] (.ref a :: st) N I L P := st_go b192 dX11_missed_206 (by decide) rfl
theorem s192_207 (h : a < N) (h1 : sm_lay a = .inl 11) : sm_at C X 192 207 ls (.ref a :: st) N I L P = sm_at C X 192 210 ls (va_rf (P a 16) :: st) N I L P := st_gfR b192 dX11_missed_207 rfl rfl h h1
theorem s192_210 : sm_at C X 192 210 [l0, l1, l2, l3, l4, l5, l6, l7, some (.int x0)] st N I L P = sm_at C X 192 212 [l0, l1, l2, l3, l4, l5, l6, l7, some (.int x0)] (.int x0 :: st) N I L P := st_go b192 dX11_missed_210 (by decide) rfl
theorem s192_212 (h : a < N) (h1 : k < sm_al a) : sm_at C X 192 212 ls (.int (nI k) :: .ref a :: st) N I L P = sm_at C X 192 213 ls (.int (I a k) :: st) N I L P := st_iald b192 dX11_missed_212 h h1
theorem s192_213 : sm_at C X 192 213 ls (.int x0 :: .int x1 :: st) N I L P = sm_at C X 192 214 ls (.int (x1 &&& x0) :: st) N I L P := st_go b192 dX11_missed_213 (by decide) rfl
theorem s192_214 : sm_at C X 192 214 ls (.int x0 :: st) N I L P = if ¬ x0 = 0 then sm_at C X 192 221 ls st N I L P else sm_at C X 192 217 ls st N I L P := st_br b192 dX11_missed_214 (by decide) rfl
theorem s192_217 : sm_at C X 192 217 ls st N I L P = sm_at C X 192 218 ls (.int (nI 1) :: st) N I L P := st_go b192 dX11_missed_217 (by decide) rfl
theorem s192_218 : sm_at C X 192 218 ls st N I L P = sm_at C X 192 222 ls st N I L P := st_go b192 dX11_missed_218 (by decide) rfl
theorem s192_221 : sm_at C X 192 221 ls st N I L P = sm_at C X 192 222 ls (.int (nI 0) :: st) N I L P := st_go b192 dX11_missed_221 (by decide) rfl
theorem s192_222 : sm_at C X 192 222 [l0, l1, l2, l3, l4, l5, l6, l7, l8] (.int x0 :: st) N I L P = sm_at C X 192 224 [l0, l1, l2, l3, l4, l5, sm_cl l6, some (.int x0), l8] st N I L P := st_go b192 dX11_missed_222 (by decide) rfl
theorem s192_224 : sm_at C X 192 224 [l0, l1, l2, l3, l4, l5, l6, l7, some (.int x0)] st N I L P = sm_at C X 192 227 [l0, l1, l2, l3, l4, l5, l6, sm_cl l7, some (.int (x0 + (nI 1)))] st N I L P := st_go b192 dX11_missed_224 (by decide) rfl
theorem s192_227 : sm_at C X 192 227 ls st N I L P = sm_at C X 192 182 ls st N I L P := st_go b192 dX11_missed_227 (by decide) rfl
theorem s192_230 : sm_at C X 192 230 [l0, l1, l2, l3, l4, l5, l6, some (.int x0), l8] st N I L P = sm_at C X 192 232 [l0, l1, l2, l3, l4, l5, l6, some (.int x0), l8] (.int x0 :: st) N I L P := st_go b192 dX11_missed_230 (by decide) rfl
theorem s192_232 : sm_at C X 192 232 ls (.int x0 :: st) N I L P = if x0 = 0 then sm_at C X 192 240 ls st N I L P else sm_at C X 192 235 ls st N I L P := st_br b192 dX11_missed_232 (by decide) rfl
theorem s192_235 : sm_at C X 192 235 [l0, l1, l2, l3, l4, l5, some (.int x0), l7, l8] st N I L P = sm_at C X 192 237 [l0, l1, l2, l3, l4, l5, some (.int x0), l7, l8] (.int x0 :: st) N I L P := st_go b192 dX11_missed_235 (by decide) rfl
theorem s192_237 : sm_at C X 192 237 ls st N I L P = sm_at C X 192 242 ls st N I L P := st_go b192 dX11_missed_237 (by decide) rfl
theorem s192_240 : sm_at C X 192 240 [l0, l1, l2, l3, l4, some (.int x0), l6, l7, l8] st N I L P = sm_at C X 192 242 [l0, l1, l2, l3, l4, some (.int x0), l6, l7, l8] (.int x0 :: st) N I L P := st_go b192 dX11_missed_240 (by decide) rfl
theorem s192_242 : sm_at C X 192 242 [l0, l1, l2, l3, l4, l5, l6, l7, l8] (.int x0 :: st) N I L P = sm_at C X 192 244 [l0, l1, l2, l3, sm_cl l4, some (.int x0), l6, l7, l8] st N I L P := st_go b192 dX11_missed_242 (by decide) rfl
theorem s192_244 : sm_at C X 192 244 [l0, l1, l2, l3, l4, l5, some (.int x0), l7, l8] st N I L P = sm_at C X 192 247 [l0, l1, l2, l3, l4, sm_cl l5, some (.int (x0 + (nI 1))), l7, l8] st N I L P := st_go b192 dX11_missed_244 (by decide) rfl
theorem s192_247 : sm_at C X 192 247 ls st N I L P = sm_at C X 192 150 ls st N I L P := st_go b192 dX11_missed_247 (by decide) rfl
theorem s192_250 : sm_at C X 192 250 [l0, l1, l2, some (.int x0), l4, l5, l6, l7, l8] st N I L P = sm_at C X 192 251 [l0, l1, l2, some (.int x0), l4, l5, l6, l7, l8] (.int x0 :: st) N I L P := st_go b192 dX11_missed_250 (by decide) rfl
theorem s192_251 : sm_at C X 192 251 ls (.int x0 :: st) N I L P = if ¬ x0 = 0 then sm_at C X 192 262 ls st N I L P else sm_at C X 192 254 ls st N I L P := st_br b192 dX11_missed_251 (by decide) rfl
theorem s192_254 : sm_at C X 192 254 [l0, l1, l2, l3, l4, some (.int x0), l6, l7, l8] st N I L P = sm_at C X 192 256 [l0, l1, l2, l3, l4, some (.int x0), l6, l7, l8] (.int x0 :: st) N I L P := st_go b192 dX11_missed_254 (by decide) rfl
theorem s192_256 : sm_at C X 192 256 ls [w0] N I L P = sm_af C X 192 259 ls [] (C 188 [w0] N I L P) := st_stat b192 dX11_missed_256 (n := 1) (rest := []) rfl rfl rfl rfl rfl rfl
theorem s192_259 : sm_at C X 192 259 ls st N I L P = sm_at C X 192 264 ls st N I L P := st_go b192 dX11_missed_259 (by decide) rfl
theorem s192_262 : sm_at C X 192 262 [l0, l1, l2, l3, l4, some (.int x0), l6, l7, l8] st N I L P = sm_at C X 192 264 [l0, l1, l2, l3, l4, some (.int x0), l6, l7, l8] (.int x0 :: st) N I L P := st_go b192 dX11_missed_262 (by decide) rfl
theorem s192_264 : sm_at C X 192 264 ls [.int x0] N I L P = some (some (.int x0), N, I, L, P) := st_iret b192 dX11_missed_264 rfl
theorem b193 : sm_b 193 = cX11_book := rfl
theorem s193_0 : sm_at C X 193 0 [l0, some (.int x0), l2] st N I L P = sm_at C X 193 1 [l0, some (.int x0), l2] (.int x0 :: st) N I L P := st_go b193 dX11_book_0 (by decide) rfl
theorem s193_1 : sm_at C X 193 1 ls (.int x0 :: st) N I L P = sm_at C X 193 2 ls (.long x0.toInt64 :: st) N I L P := st_go b193 dX11_book_1 (by decide) rfl
theorem s193_2 : sm_at C X 193 2 ls st N I L P = sm_at C X 193 3 ls (.long (lN 0) :: st) N I L P := st_go b193 dX11_book_2 (by decide) rfl
theorem s193_3 : sm_at C X 193 3 ls st N I L P = sm_at C X 193 6 ls (.long (lN 255) :: st) N I L P := st_go b193 dX11_book_3 (by decide) rfl
theorem s193_6 : sm_at C X 193 6 ls [w2, w1, w0] N I L P = sm_af C X 193 9 ls [] (C 146 [w0, w1, w2] N I L P) := st_stat b193 dX11_book_6 (n := 3) (rest := []) rfl rfl rfl rfl rfl rfl
theorem s193_9 : sm_at C X 193 9 ls (.int x0 :: st) N I L P = if ¬ x0 = 0 then sm_at C X 193 15 ls st N I L P else sm_at C X 193 12 ls st N I L P := st_br b193 dX11_book_9 (by decide) rfl
theorem s193_12 : sm_at C X 193 12 ls st N I L P = sm_at C X 193 14 ls (.int (-102) :: st) N I L P := st_go b193 dX11_book_12 (by decide) rfl
theorem s193_14 : sm_at C X 193 14 ls [.int x0] N I L P = some (some (.int x0), N, I, L, P) := st_iret b193 dX11_book_14 rfl
theorem s193_15 : sm_at C X 193 15 ls st N I L P = sm_at C X 193 16 ls (.int (nI 0) :: st) N I L P := st_go b193 dX11_book_15 (by decide) rfl
theorem s193_16 : sm_at C X 193 16 [l0, l1, l2] (.int x0 :: st) N I L P = sm_at C X 193 17 [l0, sm_cl l1, some (.int x0)] st N I L P := st_go b193 dX11_book_16 (by decide) rfl
theorem s193_17 : sm_at C X 193 17 [l0, l1, some (.int x0)] st N I L P = sm_at C X 193 18 [l0, l1, some (.int x0)] (.int x0 :: st) N I L P := st_go b193 dX11_book_17 (by decide) rfl
theorem s193_18 : sm_at C X 193 18 [some (.ref a), l1, l2] st N I L P = sm_at C X 193 19 [some (.ref a), l1, l2] (.ref a :: st) N I L P := st_go b193 dX11_book_18 (by decide) rfl
theorem s193_19 (h : a < N) (h1 : sm_lay a = .inl 11) : sm_at C X 193 19 ls (.ref a :: st) N I L P = sm_at C X 193 22 ls (.int (I a 17) :: st) N I L P := st_gfI b193 dX11_book_19 rfl rfl h h1
theorem s193_22 : sm_at C X 193 22 ls (.int x0 :: .int x1 :: st) N I L P = if x0 ≤ x1 then sm_at C X 193 44 ls st N I L P else sm_at C X 193 25 ls st N I L P := st_br b193 dX11_book_22 (by decide) rfl
theorem s193_25 : sm_at C X 193 25 [some (.ref a), l1, l2] st N I L P = sm_at C X 193 26 [some (.ref a), l1, l2] (.ref a :: st) N I L P := st_go b193 dX11_book_25 (by decide) rfl
theorem s193_26 (h : a < N) (h1 : sm_lay a = .inl 11) : sm_at C X 193 26 ls (.ref a :: st) N I L P = sm_at C X 193 29 ls (va_rf (P a 18) :: st) N I L P := st_gfR b193 dX11_book_26 rfl rfl h h1
theorem s193_29 : sm_at C X 193 29 [l0, l1, some (.int x0)] st N I L P = sm_at C X 193 30 [l0, l1, some (.int x0)] (.int x0 :: st) N I L P := st_go b193 dX11_book_29 (by decide) rfl
theorem s193_30 (h : a < N) (h1 : k < sm_al a) : sm_at C X 193 30 ls (.int (nI k) :: .ref a :: st) N I L P = sm_at C X 193 31 ls (.int (I a k) :: st) N I L P := st_iald b193 dX11_book_30 h h1
theorem s193_31 : sm_at C X 193 31 [l0, some (.int x0), l2] st N I L P = sm_at C X 193 32 [l0, some (.int x0), l2] (.int x0 :: st) N I L P := st_go b193 dX11_book_31 (by decide) rfl
theorem s193_32 : sm_at C X 193 32 ls (.int x0 :: .int x1 :: st) N I L P = if ¬ x1 = x0 then sm_at C X 193 38 ls st N I L P else sm_at C X 193 35 ls st N I L P := st_br b193 dX11_book_32 (by decide) rfl
theorem s193_35 : sm_at C X 193 35 ls st N I L P = sm_at C X 193 37 ls (.int (-103) :: st) N I L P := st_go b193 dX11_book_35 (by decide) rfl
theorem s193_37 : sm_at C X 193 37 ls [.int x0] N I L P = some (some (.int x0), N, I, L, P) := st_iret b193 dX11_book_37 rfl
theorem s193_38 : sm_at C X 193 38 [l0, l1, some (.int x0)] st N I L P = sm_at C X 193 41 [l0, sm_cl l1, some (.int (x0 + (nI 1)))] st N I L P := st_go b193 dX11_book_38 (by decide) rfl
theorem s193_41 : sm_at C X 193 41 ls st N I L P = sm_at C X 193 17 ls st N I L P := st_go b193 dX11_book_41 (by decide) rfl
theorem s193_44 : sm_at C X 193 44 [some (.ref a), l1, l2] st N I L P = sm_at C X 193 45 [some (.ref a), l1, l2] (.ref a :: st) N I L P := st_go b193 dX11_book_44 (by decide) rfl
theorem s193_45 (h : a < N) (h1 : sm_lay a = .inl 11) : sm_at C X 193 45 ls (.ref a :: st) N I L P = sm_at C X 193 48 ls (.int (I a 17) :: st) N I L P := st_gfI b193 dX11_book_45 rfl rfl h h1
theorem s193_48 : sm_at C X 193 48 ls st N I L P = sm_at C X 193 49 ls (.int (nI 4) :: st) N I L P := st_go b193 dX11_book_48 (by decide) rfl
theorem s193_49 : sm_at C X 193 49 ls (.int x0 :: .int x1 :: st) N I L P = if ¬ x1 = x0 then sm_at C X 193 55 ls st N I L P else sm_at C X 193 52 ls st N I L P := st_br b193 dX11_book_49 (by decide) rfl
theorem s193_52 : sm_at C X 193 52 ls st N I L P = sm_at C X 193 54 ls (.int (-104) :: st) N I L P := st_go b193 dX11_book_52 (by decide) rfl
theorem s193_54 : sm_at C X 193 54 ls [.int x0] N I L P = some (some (.int x0), N, I, L, P) := st_iret b193 dX11_book_54 rfl
theorem s193_55 : sm_at C X 193 55 [some (.ref a), l1, l2] st N I L P = sm_at C X 193 56 [some (.ref a), l1, l2] (.ref a :: st) N I L P := st_go b193 dX11_book_55 (by decide) rfl
theorem s193_56 (h : a < N) (h1 : sm_lay a = .inl 11) : sm_at C X 193 56 ls (.ref a :: st) N I L P = sm_at C X 193 59 ls (va_rf (P a 18) :: st) N I L P := st_gfR b193 dX11_book_56 rfl rfl h h1
theorem s193_59 : sm_at C X 193 59 [some (.ref a), l1, l2] st N I L P = sm_at C X 193 60 [some (.ref a), l1, l2] (.ref a :: st) N I L P := st_go b193 dX11_book_59 (by decide) rfl
theorem s193_60 (h : a < N) (h1 : sm_lay a = .inl 11) : sm_at C X 193 60 ls (.ref a :: st) N I L P = sm_at C X 193 63 ls (.int (I a 17) :: st) N I L P := st_gfI b193 dX11_book_60 rfl rfl h h1
theorem s193_63 : sm_at C X 193 63 [l0, some (.int x0), l2] st N I L P = sm_at C X 193 64 [l0, some (.int x0), l2] (.int x0 :: st) N I L P := st_go b193 dX11_book_63 (by decide) rfl
theorem s193_64 (h : a < N) (h1 : k < sm_al a) : sm_at C X 193 64 ls (.int x0 :: .int (nI k) :: .ref a :: st) N I L P = sm_at C X 193 65 ls st N (sm_up I a k x0) L P := st_iast b193 dX11_book_64 h h1
theorem s193_65 : sm_at C X 193 65 [some (.ref a), l1, l2] st N I L P = sm_at C X 193 66 [some (.ref a), l1, l2] (.ref a :: st) N I L P := st_go b193 dX11_book_65 (by decide) rfl
theorem s193_66 : sm_at C X 193 66 ls (.ref a :: st) N I L P = sm_at C X 193 67 ls (.ref a :: .ref a :: st) N I L P := st_go b193 dX11_book_66 (by decide) rfl
theorem s193_67 (h : a < N) (h1 : sm_lay a = .inl 11) : sm_at C X 193 67 ls (.ref a :: st) N I L P = sm_at C X 193 70 ls (.int (I a 17) :: st) N I L P := st_gfI b193 dX11_book_67 rfl rfl h h1
theorem s193_70 : sm_at C X 193 70 ls st N I L P = sm_at C X 193 71 ls (.int (nI 1) :: st) N I L P := st_go b193 dX11_book_70 (by decide) rfl
theorem s193_71 : sm_at C X 193 71 ls (.int x0 :: .int x1 :: st) N I L P = sm_at C X 193 72 ls (.int (x1 + x0) :: st) N I L P := st_go b193 dX11_book_71 (by decide) rfl
theorem s193_72 (h : a < N) (h1 : sm_lay a = .inl 11) : sm_at C X 193 72 ls (.int x0 :: .ref a :: st) N I L P = sm_at C X 193 75 ls st N (sm_up I a 17 x0) L P := st_pfI b193 dX11_book_72 rfl rfl rfl h h1
theorem s193_75 : sm_at C X 193 75 [some (.ref a), l1, l2] st N I L P = sm_at C X 193 76 [some (.ref a), l1, l2] (.ref a :: st) N I L P := st_go b193 dX11_book_75 (by decide) rfl
theorem s193_76 (h : a < N) (h1 : sm_lay a = .inl 11) : sm_at C X 193 76 ls (.ref a :: st) N I L P = sm_at C X 193 79 ls (.int (I a 17) :: st) N I L P := st_gfI b193 dX11_book_76 rfl rfl h h1
theorem s193_79 : sm_at C X 193 79 ls [.int x0] N I L P = some (some (.int x0), N, I, L, P) := st_iret b193 dX11_book_79 rfl
theorem b194 : sm_b 194 = cX11_likely := rfl
theorem s194_0 : sm_at C X 194 0 [l0, some (.int x0), l2, l3, l4, l5] st N I L P = sm_at C X 194 1 [l0, some (.int x0), l2, l3, l4, l5] (.int x0 :: st) N I L P := st_go b194 dX11_likely_0 (by decide) rfl
theorem s194_1 : sm_at C X 194 1 [some (.int x0), l1, l2, l3, l4, l5] st N I L P = sm_at C X 194 2 [some (.int x0), l1, l2, l3, l4, l5] (.int x0 :: st) N I L P := st_go b194 dX11_likely_1 (by decide) rfl
theorem s194_2 : sm_at C X 194 2 ls st N I L P = sm_at C X 194 3 ls (.int (-1) :: st) N I L P := st_go b194 dX11_likely_2 (by decide) rfl
theorem s194_3 : sm_at C X 194 3 ls (.int x0 :: .int x1 :: st) N I L P = sm_at C X 194 4 ls (.int (x1 ^^^ x0) :: st) N I L P := st_go b194 dX11_likely_3 (by decide) rfl
theorem s194_4 : sm_at C X 194 4 ls (.int x0 :: .int x1 :: st) N I L P = sm_at C X 194 5 ls (.int (x1 &&& x0) :: st) N I L P := st_go b194 dX11_likely_4 (by decide) rfl
theorem s194_5 : sm_at C X 194 5 ls (.int x0 :: st) N I L P = if x0 = 0 then sm_at C X 194 10 ls st N I L P else sm_at C X 194 8 ls st N I L P := st_br b194 dX11_likely_5 (by decide) rfl
theorem s194_8 : sm_at C X 194 8 ls st N I L P = sm_at C X 194 9 ls (.long (lN 0) :: st) N I L P := st_go b194 dX11_likely_8 (by decide) rfl
theorem s194_9 : sm_at C X 194 9 ls [.long z0] N I L P = some (some (.long z0), N, I, L, P) := st_ret b194 dX11_likely_9 (by decide) rfl
theorem s194_10 : sm_at C X 194 10 ls st N I L P = sm_at C X 194 11 ls (.long (lN 1) :: st) N I L P := st_go b194 dX11_likely_10 (by decide) rfl
theorem s194_11 : sm_at C X 194 11 [l0, l1, l2, l3, l4, l5] (.long z0 :: st) N I L P = sm_at C X 194 12 [l0, l1, sm_cl l2, some (.long z0), none, l5] st N I L P := st_go b194 dX11_likely_11 (by decide) rfl
theorem s194_12 : sm_at C X 194 12 ls st N I L P = sm_at C X 194 13 ls (.int (nI 0) :: st) N I L P := st_go b194 dX11_likely_12 (by decide) rfl
theorem s194_13 : sm_at C X 194 13 [l0, l1, l2, l3, l4, l5] (.int x0 :: st) N I L P = sm_at C X 194 15 [l0, l1, l2, l3, sm_cl l4, some (.int x0)] st N I L P := st_go b194 dX11_likely_13 (by decide) rfl
theorem s194_15 : sm_at C X 194 15 [l0, l1, l2, l3, l4, some (.int x0)] st N I L P = sm_at C X 194 17 [l0, l1, l2, l3, l4, some (.int x0)] (.int x0 :: st) N I L P := st_go b194 dX11_likely_15 (by decide) rfl
theorem s194_17 : sm_at C X 194 17 ls st N I L P = sm_at C X 194 19 ls (.int (nI 8) :: st) N I L P := st_go b194 dX11_likely_17 (by decide) rfl
theorem s194_19 : sm_at C X 194 19 ls (.int x0 :: .int x1 :: st) N I L P = if x0 ≤ x1 then sm_at C X 194 67 ls st N I L P else sm_at C X 194 22 ls st N I L P := st_br b194 dX11_likely_19 (by decide) rfl
theorem s194_22 : sm_at C X 194 22 [l0, l1, l2, some (.long z0), l4, l5] st N I L P = sm_at C X 194 23 [l0, l1, l2, some (.long z0), l4, l5] (.long z0 :: st) N I L P := st_go b194 dX11_likely_22 (by decide) rfl
theorem s194_23 : sm_at C X 194 23 [l0, some (.int x0), l2, l3, l4, l5] st N I L P = sm_at C X 194 24 [l0, some (.int x0), l2, l3, l4, l5] (.int x0 :: st) N I L P := st_go b194 dX11_likely_23 (by decide) rfl
theorem s194_24 : sm_at C X 194 24 [l0, l1, l2, l3, l4, some (.int x0)] st N I L P = sm_at C X 194 26 [l0, l1, l2, l3, l4, some (.int x0)] (.int x0 :: st) N I L P := st_go b194 dX11_likely_24 (by decide) rfl
theorem s194_26 : sm_at C X 194 26 ls (.int x0 :: .int x1 :: st) N I L P = sm_at C X 194 27 ls (.int (x1 >>> (x0 &&& 31)) :: st) N I L P := st_go b194 dX11_likely_26 (by decide) rfl
theorem s194_27 : sm_at C X 194 27 ls st N I L P = sm_at C X 194 28 ls (.int (nI 1) :: st) N I L P := st_go b194 dX11_likely_27 (by decide) rfl
theorem s194_28 : sm_at C X 194 28 ls (.int x0 :: .int x1 :: st) N I L P = sm_at C X 194 29 ls (.int (x1 &&& x0) :: st) N I L P := st_go b194 dX11_likely_28 (by decide) rfl
theorem s194_29 : sm_at C X 194 29 ls st N I L P = sm_at C X 194 30 ls (.int (nI 1) :: st) N I L P := st_go b194 dX11_likely_29 (by decide) rfl
theorem s194_30 : sm_at C X 194 30 ls (.int x0 :: .int x1 :: st) N I L P = if ¬ x1 = x0 then sm_at C X 194 41 ls st N I L P else sm_at C X 194 33 ls st N I L P := st_br b194 dX11_likely_30 (by decide) rfl
theorem s194_33 : sm_at C X 194 33 ls st N I L P = sm_at C X 194 35 ls (.int (nI 10) :: st) N I L P := st_go b194 dX11_likely_33 (by decide) rfl
theorem s194_35 : sm_at C X 194 35 [l0, l1, some (.int x0), l3, l4, l5] st N I L P = sm_at C X 194 36 [l0, l1, some (.int x0), l3, l4, l5] (.int x0 :: st) N I L P := st_go b194 dX11_likely_35 (by decide) rfl
theorem s194_36 : sm_at C X 194 36 ls (.int x0 :: .int x1 :: st) N I L P = sm_at C X 194 37 ls (.int (x1 - x0) :: st) N I L P := st_go b194 dX11_likely_36 (by decide) rfl
theorem s194_37 : sm_at C X 194 37 ls (.int x0 :: st) N I L P = sm_at C X 194 38 ls (.long x0.toInt64 :: st) N I L P := st_go b194 dX11_likely_37 (by decide) rfl
theorem s194_38 : sm_at C X 194 38 ls st N I L P = sm_at C X 194 59 ls st N I L P := st_go b194 dX11_likely_38 (by decide) rfl
theorem s194_41 : sm_at C X 194 41 [some (.int x0), l1, l2, l3, l4, l5] st N I L P = sm_at C X 194 42 [some (.int x0), l1, l2, l3, l4, l5] (.int x0 :: st) N I L P := st_go b194 dX11_likely_41 (by decide) rfl
theorem s194_42 : sm_at C X 194 42 [l0, l1, l2, l3, l4, some (.int x0)] st N I L P = sm_at C X 194 44 [l0, l1, l2, l3, l4, some (.int x0)] (.int x0 :: st) N I L P := st_go b194 dX11_likely_42 (by decide) rfl
theorem s194_44 : sm_at C X 194 44 ls (.int x0 :: .int x1 :: st) N I L P = sm_at C X 194 45 ls (.int (x1 >>> (x0 &&& 31)) :: st) N I L P := st_go b194 dX11_likely_44 (by decide) rfl
theorem s194_45 : sm_at C X 194 45 ls st N I L P = sm_at C X 194 46 ls (.int (nI 1) :: st) N I L P := st_go b194 dX11_likely_45 (by decide) rfl
theorem s194_46 : sm_at C X 194 46 ls (.int x0 :: .int x1 :: st) N I L P = sm_at C X 194 47 ls (.int (x1 &&& x0) :: st) N I L P := st_go b194 dX11_likely_46 (by decide) rfl
theorem s194_47 : sm_at C X 194 47 ls st N I L P = sm_at C X 194 48 ls (.int (nI 1) :: st) N I L P := st_go b194 dX11_likely_47 (by decide) rfl
theorem s194_48 : sm_at C X 194 48 ls (.int x0 :: .int x1 :: st) N I L P = if ¬ x1 = x0 then sm_at C X 194 56 ls st N I L P else sm_at C X 194 51 ls st N I L P := st_br b194 dX11_likely_48 (by decide) rfl
theorem s194_51 : sm_at C X 194 51 [l0, l1, some (.int x0), l3, l4, l5] st N I L P = sm_at C X 194 52 [l0, l1, some (.int x0), l3, l4, l5] (.int x0 :: st) N I L P := st_go b194 dX11_likely_51 (by decide) rfl
theorem s194_52 : sm_at C X 194 52 ls (.int x0 :: st) N I L P = sm_at C X 194 53 ls (.long x0.toInt64 :: st) N I L P := st_go b194 dX11_likely_52 (by decide) rfl
theorem s194_53 : sm_at C X 194 53 ls st N I L P = sm_at C X 194 59 ls st N I L P := st_go b194 dX11_likely_53 (by decide) rfl
theorem s194_56 : sm_at C X 194 56 ls st N I L P = sm_at C X 194 59 ls (.long (lN 10) :: st) N I L P := st_go b194 dX11_likely_56 (by decide) rfl
theorem s194_59 : sm_at C X 194 59 ls (.long z0 :: .long z1 :: st) N I L P = sm_at C X 194 60 ls (.long (z1 * z0) :: st) N I L P := st_go b194 dX11_likely_59 (by decide) rfl
theorem s194_60 : sm_at C X 194 60 [l0, l1, l2, l3, l4, l5] (.long z0 :: st) N I L P = sm_at C X 194 61 [l0, l1, sm_cl l2, some (.long z0), none, l5] st N I L P := st_go b194 dX11_likely_60 (by decide) rfl
theorem s194_61 : sm_at C X 194 61 [l0, l1, l2, l3, l4, some (.int x0)] st N I L P = sm_at C X 194 64 [l0, l1, l2, l3, sm_cl l4, some (.int (x0 + (nI 1)))] st N I L P := st_go b194 dX11_likely_61 (by decide) rfl
theorem s194_64 : sm_at C X 194 64 ls st N I L P = sm_at C X 194 15 ls st N I L P := st_go b194 dX11_likely_64 (by decide) rfl
theorem s194_67 : sm_at C X 194 67 [l0, l1, l2, some (.long z0), l4, l5] st N I L P = sm_at C X 194 68 [l0, l1, l2, some (.long z0), l4, l5] (.long z0 :: st) N I L P := st_go b194 dX11_likely_67 (by decide) rfl
theorem s194_68 : sm_at C X 194 68 ls [.long z0] N I L P = some (some (.long z0), N, I, L, P) := st_ret b194 dX11_likely_68 (by decide) rfl
theorem b195 : sm_b 195 = cX11_read := rfl
theorem s195_0 : sm_at C X 195 0 [l0, some (.int x0), l2, l3, l4, l5, l6, l7] st N I L P = sm_at C X 195 1 [l0, some (.int x0), l2, l3, l4, l5, l6, l7] (.int x0 :: st) N I L P := st_go b195 dX11_read_0 (by decide) rfl
theorem s195_1 : sm_at C X 195 1 ls (.int x0 :: st) N I L P = sm_at C X 195 2 ls (.long x0.toInt64 :: st) N I L P := st_go b195 dX11_read_1 (by decide) rfl
theorem s195_2 : sm_at C X 195 2 ls st N I L P = sm_at C X 195 3 ls (.long (lN 0) :: st) N I L P := st_go b195 dX11_read_2 (by decide) rfl
theorem s195_3 : sm_at C X 195 3 [some (.ref a), l1, l2, l3, l4, l5, l6, l7] st N I L P = sm_at C X 195 4 [some (.ref a), l1, l2, l3, l4, l5, l6, l7] (.ref a :: st) N I L P := st_go b195 dX11_read_3 (by decide) rfl
theorem s195_4 (h : a < N) (h1 : sm_lay a = .inl 11) : sm_at C X 195 4 ls (.ref a :: st) N I L P = sm_at C X 195 7 ls (.int (I a 17) :: st) N I L P := st_gfI b195 dX11_read_4 rfl rfl h h1
theorem s195_7 : sm_at C X 195 7 ls st N I L P = sm_at C X 195 8 ls (.int (nI 1) :: st) N I L P := st_go b195 dX11_read_7 (by decide) rfl
theorem s195_8 : sm_at C X 195 8 ls (.int x0 :: .int x1 :: st) N I L P = sm_at C X 195 9 ls (.int (x1 - x0) :: st) N I L P := st_go b195 dX11_read_8 (by decide) rfl
theorem s195_9 : sm_at C X 195 9 ls (.int x0 :: st) N I L P = sm_at C X 195 10 ls (.long x0.toInt64 :: st) N I L P := st_go b195 dX11_read_9 (by decide) rfl
theorem s195_10 : sm_at C X 195 10 ls [w2, w1, w0] N I L P = sm_af C X 195 13 ls [] (C 146 [w0, w1, w2] N I L P) := st_stat b195 dX11_read_10 (n := 3) (rest := []) rfl rfl rfl rfl rfl rfl
theorem s195_13 : sm_at C X 195 13 ls (.int x0 :: st) N I L P = if ¬ x0 = 0 then sm_at C X 195 20 ls st N I L P else sm_at C X 195 16 ls st N I L P := st_br b195 dX11_read_13 (by decide) rfl
theorem s195_16 : sm_at C X 195 16 ls st N I L P = sm_at C X 195 19 ls (.long (-101) :: st) N I L P := st_go b195 dX11_read_16 (by decide) rfl
theorem s195_19 : sm_at C X 195 19 ls [.long z0] N I L P = some (some (.long z0), N, I, L, P) := st_ret b195 dX11_read_19 (by decide) rfl
theorem s195_20 : sm_at C X 195 20 [l0, l1, some (.int x0), l3, l4, l5, l6, l7] st N I L P = sm_at C X 195 21 [l0, l1, some (.int x0), l3, l4, l5, l6, l7] (.int x0 :: st) N I L P := st_go b195 dX11_read_20 (by decide) rfl
theorem s195_21 : sm_at C X 195 21 ls (.int x0 :: st) N I L P = sm_at C X 195 22 ls (.long x0.toInt64 :: st) N I L P := st_go b195 dX11_read_21 (by decide) rfl
theorem s195_22 : sm_at C X 195 22 ls st N I L P = sm_at C X 195 23 ls (.long (lN 0) :: st) N I L P := st_go b195 dX11_read_22 (by decide) rfl
theorem s195_23 : sm_at C X 195 23 ls st N I L P = sm_at C X 195 26 ls (.long (lN 255) :: st) N I L P := st_go b195 dX11_read_23 (by decide) rfl
theorem s195_26 : sm_at C X 195 26 ls [w2, w1, w0] N I L P = sm_af C X 195 29 ls [] (C 146 [w0, w1, w2] N I L P) := st_stat b195 dX11_read_26 (n := 3) (rest := []) rfl rfl rfl rfl rfl rfl
theorem s195_29 : sm_at C X 195 29 ls (.int x0 :: st) N I L P = if x0 = 0 then sm_at C X 195 52 ls st N I L P else sm_at C X 195 32 ls st N I L P := st_br b195 dX11_read_29 (by decide) rfl
theorem s195_32 : sm_at C X 195 32 [l0, l1, l2, some (.int x0), l4, l5, l6, l7] st N I L P = sm_at C X 195 33 [l0, l1, l2, some (.int x0), l4, l5, l6, l7] (.int x0 :: st) N I L P := st_go b195 dX11_read_32 (by decide) rfl
theorem s195_33 : sm_at C X 195 33 ls (.int x0 :: st) N I L P = sm_at C X 195 34 ls (.long x0.toInt64 :: st) N I L P := st_go b195 dX11_read_33 (by decide) rfl
theorem s195_34 : sm_at C X 195 34 ls st N I L P = sm_at C X 195 35 ls (.long (lN 0) :: st) N I L P := st_go b195 dX11_read_34 (by decide) rfl
theorem s195_35 : sm_at C X 195 35 ls st N I L P = sm_at C X 195 38 ls (.long (lN 9) :: st) N I L P := st_go b195 dX11_read_35 (by decide) rfl
theorem s195_38 : sm_at C X 195 38 ls [w2, w1, w0] N I L P = sm_af C X 195 41 ls [] (C 146 [w0, w1, w2] N I L P) := st_stat b195 dX11_read_38 (n := 3) (rest := []) rfl rfl rfl rfl rfl rfl
theorem s195_41 : sm_at C X 195 41 ls (.int x0 :: st) N I L P = if x0 = 0 then sm_at C X 195 52 ls st N I L P else sm_at C X 195 44 ls st N I L P := st_br b195 dX11_read_41 (by decide) rfl
theorem s195_44 : sm_at C X 195 44 [l0, l1, l2, l3, some (.int x0), l5, l6, l7] st N I L P = sm_at C X 195 46 [l0, l1, l2, l3, some (.int x0), l5, l6, l7] (.int x0 :: st) N I L P := st_go b195 dX11_read_44 (by decide) rfl
theorem s195_46 : sm_at C X 195 46 ls [w0] N I L P = sm_af C X 195 49 ls [] (C 172 [w0] N I L P) := st_stat b195 dX11_read_46 (n := 1) (rest := []) rfl rfl rfl rfl rfl rfl
theorem s195_49 : sm_at C X 195 49 ls (.int x0 :: st) N I L P = if ¬ x0 = 0 then sm_at C X 195 56 ls st N I L P else sm_at C X 195 52 ls st N I L P := st_br b195 dX11_read_49 (by decide) rfl
theorem s195_52 : sm_at C X 195 52 ls st N I L P = sm_at C X 195 55 ls (.long (-102) :: st) N I L P := st_go b195 dX11_read_52 (by decide) rfl
theorem s195_55 : sm_at C X 195 55 ls [.long z0] N I L P = some (some (.long z0), N, I, L, P) := st_ret b195 dX11_read_55 (by decide) rfl
theorem s195_56 : sm_at C X 195 56 ls st N I L P = sm_at C X 195 57 ls (.long (lN 0) :: st) N I L P := st_go b195 dX11_read_56 (by decide) rfl
theorem s195_57 : sm_at C X 195 57 [l0, l1, l2, l3, l4, l5, l6, l7] (.long z0 :: st) N I L P = sm_at C X 195 59 [l0, l1, l2, l3, sm_cl l4, some (.long z0), none, l7] st N I L P := st_go b195 dX11_read_57 (by decide) rfl
theorem s195_59 : sm_at C X 195 59 ls st N I L P = sm_at C X 195 60 ls (.int (nI 0) :: st) N I L P := st_go b195 dX11_read_59 (by decide) rfl
theorem s195_60 : sm_at C X 195 60 [l0, l1, l2, l3, l4, l5, l6, l7] (.int x0 :: st) N I L P = sm_at C X 195 62 [l0, l1, l2, l3, l4, l5, sm_cl l6, some (.int x0)] st N I L P := st_go b195 dX11_read_60 (by decide) rfl
theorem s195_62 : sm_at C X 195 62 [l0, l1, l2, l3, l4, l5, l6, some (.int x0)] st N I L P = sm_at C X 195 64 [l0, l1, l2, l3, l4, l5, l6, some (.int x0)] (.int x0 :: st) N I L P := st_go b195 dX11_read_62 (by decide) rfl
theorem s195_64 : sm_at C X 195 64 [some (.ref a), l1, l2, l3, l4, l5, l6, l7] st N I L P = sm_at C X 195 65 [some (.ref a), l1, l2, l3, l4, l5, l6, l7] (.ref a :: st) N I L P := st_go b195 dX11_read_64 (by decide) rfl
theorem s195_65 (h : a < N) (h1 : sm_lay a = .inl 11) : sm_at C X 195 65 ls (.ref a :: st) N I L P = sm_at C X 195 68 ls (.int (I a 17) :: st) N I L P := st_gfI b195 dX11_read_65 rfl rfl h h1
theorem s195_68 : sm_at C X 195 68 ls (.int x0 :: .int x1 :: st) N I L P = if x0 ≤ x1 then sm_at C X 195 94 ls st N I L P else sm_at C X 195 71 ls st N I L P := st_br b195 dX11_read_68 (by decide) rfl
theorem s195_71 : sm_at C X 195 71 [l0, l1, l2, l3, l4, some (.long z0), l6, l7] st N I L P = sm_at C X 195 73 [l0, l1, l2, l3, l4, some (.long z0), l6, l7] (.long z0 :: st) N I L P := st_go b195 dX11_read_71 (by decide) rfl
theorem s195_73 : sm_at C X 195 73 [some (.ref a), l1, l2, l3, l4, l5, l6, l7] st N I L P = sm_at C X 195 74 [some (.ref a), l1, l2, l3, l4, l5, l6, l7] (.ref a :: st) N I L P := st_go b195 dX11_read_73 (by decide) rfl
theorem s195_74 (h : a < N) (h1 : sm_lay a = .inl 11) : sm_at C X 195 74 ls (.ref a :: st) N I L P = sm_at C X 195 77 ls (va_rf (P a 18) :: st) N I L P := st_gfR b195 dX11_read_74 rfl rfl h h1
theorem s195_77 : sm_at C X 195 77 [l0, l1, l2, l3, l4, l5, l6, some (.int x0)] st N I L P = sm_at C X 195 79 [l0, l1, l2, l3, l4, l5, l6, some (.int x0)] (.int x0 :: st) N I L P := st_go b195 dX11_read_77 (by decide) rfl
theorem s195_79 (h : a < N) (h1 : k < sm_al a) : sm_at C X 195 79 ls (.int (nI k) :: .ref a :: st) N I L P = sm_at C X 195 80 ls (.int (I a k) :: st) N I L P := st_iald b195 dX11_read_79 h h1
theorem s195_80 : sm_at C X 195 80 [l0, l1, some (.int x0), l3, l4, l5, l6, l7] st N I L P = sm_at C X 195 81 [l0, l1, some (.int x0), l3, l4, l5, l6, l7] (.int x0 :: st) N I L P := st_go b195 dX11_read_80 (by decide) rfl
theorem s195_81 : sm_at C X 195 81 [l0, l1, l2, some (.int x0), l4, l5, l6, l7] st N I L P = sm_at C X 195 82 [l0, l1, l2, some (.int x0), l4, l5, l6, l7] (.int x0 :: st) N I L P := st_go b195 dX11_read_81 (by decide) rfl
theorem s195_82 : sm_at C X 195 82 ls [w2, w1, w0, v0] N I L P = sm_af C X 195 85 ls [v0] (C 194 [w0, w1, w2] N I L P) := st_stat b195 dX11_read_82 (n := 3) (rest := [v0]) rfl rfl rfl rfl rfl rfl
theorem s195_85 : sm_at C X 195 85 ls (.long z0 :: .long z1 :: st) N I L P = sm_at C X 195 86 ls (.long (z1 + z0) :: st) N I L P := st_go b195 dX11_read_85 (by decide) rfl
theorem s195_86 : sm_at C X 195 86 [l0, l1, l2, l3, l4, l5, l6, l7] (.long z0 :: st) N I L P = sm_at C X 195 88 [l0, l1, l2, l3, sm_cl l4, some (.long z0), none, l7] st N I L P := st_go b195 dX11_read_86 (by decide) rfl
theorem s195_88 : sm_at C X 195 88 [l0, l1, l2, l3, l4, l5, l6, some (.int x0)] st N I L P = sm_at C X 195 91 [l0, l1, l2, l3, l4, l5, sm_cl l6, some (.int (x0 + (nI 1)))] st N I L P := st_go b195 dX11_read_88 (by decide) rfl
theorem s195_91 : sm_at C X 195 91 ls st N I L P = sm_at C X 195 62 ls st N I L P := st_go b195 dX11_read_91 (by decide) rfl
theorem s195_94 : sm_at C X 195 94 [l0, l1, l2, l3, l4, some (.long z0), l6, l7] st N I L P = sm_at C X 195 96 [l0, l1, l2, l3, l4, some (.long z0), l6, l7] (.long z0 :: st) N I L P := st_go b195 dX11_read_94 (by decide) rfl
theorem s195_96 : sm_at C X 195 96 ls st N I L P = sm_at C X 195 97 ls (.long (lN 0) :: st) N I L P := st_go b195 dX11_read_96 (by decide) rfl
theorem s195_97 : sm_at C X 195 97 ls (.long z0 :: .long z1 :: st) N I L P = sm_at C X 195 98 ls (.int (lg_cmp z1 z0) :: st) N I L P := st_go b195 dX11_read_97 (by decide) rfl
theorem s195_98 : sm_at C X 195 98 ls (.int x0 :: st) N I L P = if ¬ x0 = 0 then sm_at C X 195 107 ls st N I L P else sm_at C X 195 101 ls st N I L P := st_br b195 dX11_read_98 (by decide) rfl
theorem s195_101 : sm_at C X 195 101 ls st N I L P = sm_at C X 195 104 ls (.long (-1) :: st) N I L P := st_go b195 dX11_read_101 (by decide) rfl
theorem s195_104 : sm_at C X 195 104 ls st N I L P = sm_at C X 195 125 ls st N I L P := st_go b195 dX11_read_104 (by decide) rfl
theorem s195_107 : sm_at C X 195 107 [some (.ref a), l1, l2, l3, l4, l5, l6, l7] st N I L P = sm_at C X 195 108 [some (.ref a), l1, l2, l3, l4, l5, l6, l7] (.ref a :: st) N I L P := st_go b195 dX11_read_107 (by decide) rfl
theorem s195_108 (h : a < N) (h1 : sm_lay a = .inl 11) : sm_at C X 195 108 ls (.ref a :: st) N I L P = sm_at C X 195 111 ls (va_rf (P a 18) :: st) N I L P := st_gfR b195 dX11_read_108 rfl rfl h h1
theorem s195_111 : sm_at C X 195 111 [l0, some (.int x0), l2, l3, l4, l5, l6, l7] st N I L P = sm_at C X 195 112 [l0, some (.int x0), l2, l3, l4, l5, l6, l7] (.int x0 :: st) N I L P := st_go b195 dX11_read_111 (by decide) rfl
theorem s195_112 (h : a < N) (h1 : k < sm_al a) : sm_at C X 195 112 ls (.int (nI k) :: .ref a :: st) N I L P = sm_at C X 195 113 ls (.int (I a k) :: st) N I L P := st_iald b195 dX11_read_112 h h1
theorem s195_113 : sm_at C X 195 113 [l0, l1, some (.int x0), l3, l4, l5, l6, l7] st N I L P = sm_at C X 195 114 [l0, l1, some (.int x0), l3, l4, l5, l6, l7] (.int x0 :: st) N I L P := st_go b195 dX11_read_113 (by decide) rfl
theorem s195_114 : sm_at C X 195 114 [l0, l1, l2, some (.int x0), l4, l5, l6, l7] st N I L P = sm_at C X 195 115 [l0, l1, l2, some (.int x0), l4, l5, l6, l7] (.int x0 :: st) N I L P := st_go b195 dX11_read_114 (by decide) rfl
theorem s195_115 : sm_at C X 195 115 ls [w2, w1, w0] N I L P = sm_af C X 195 118 ls [] (C 194 [w0, w1, w2] N I L P) := st_stat b195 dX11_read_115 (n := 3) (rest := []) rfl rfl rfl rfl rfl rfl
theorem s195_118 : sm_at C X 195 118 [l0, l1, l2, l3, l4, some (.long z0), l6, l7] st N I L P = sm_at C X 195 120 [l0, l1, l2, l3, l4, some (.long z0), l6, l7] (.long z0 :: st) N I L P := st_go b195 dX11_read_118 (by decide) rfl
theorem s195_120 : sm_at C X 195 120 [l0, l1, l2, l3, some (.int x0), l5, l6, l7] st N I L P = sm_at C X 195 122 [l0, l1, l2, l3, some (.int x0), l5, l6, l7] (.int x0 :: st) N I L P := st_go b195 dX11_read_120 (by decide) rfl
theorem s195_122 : sm_at C X 195 122 ls [w2, w1, w0] N I L P = sm_af C X 195 125 ls [] (C 171 [w0, w1, w2] N I L P) := st_stat b195 dX11_read_122 (n := 3) (rest := []) rfl rfl rfl rfl rfl rfl
theorem s195_125 : sm_at C X 195 125 ls [.long z0] N I L P = some (some (.long z0), N, I, L, P) := st_ret b195 dX11_read_125 (by decide) rfl
theorem b196 : sm_b 196 = cX11_crowd := rfl
theorem s196_0 : sm_at C X 196 0 [l0, some (.int x0), l2] st N I L P = sm_at C X 196 1 [l0, some (.int x0), l2] (.int x0 :: st) N I L P := st_go b196 dX11_crowd_0 (by decide) rfl
theorem s196_1 : sm_at C X 196 1 ls st N I L P = sm_at C X 196 2 ls (.int (nI 2) :: st) N I L P := st_go b196 dX11_crowd_1 (by decide) rfl
theorem s196_2 : sm_at C X 196 2 ls (.int x0 :: .int x1 :: st) N I L P = if x1 = x0 then sm_at C X 196 25 ls st N I L P else sm_at C X 196 5 ls st N I L P := st_br b196 dX11_crowd_2 (by decide) rfl
theorem s196_5 : sm_at C X 196 5 [l0, some (.int x0), l2] st N I L P = sm_at C X 196 6 [l0, some (.int x0), l2] (.int x0 :: st) N I L P := st_go b196 dX11_crowd_5 (by decide) rfl
theorem s196_6 : sm_at C X 196 6 ls st N I L P = sm_at C X 196 7 ls (.int (nI 4) :: st) N I L P := st_go b196 dX11_crowd_6 (by decide) rfl
theorem s196_7 : sm_at C X 196 7 ls (.int x0 :: .int x1 :: st) N I L P = if x1 = x0 then sm_at C X 196 25 ls st N I L P else sm_at C X 196 10 ls st N I L P := st_br b196 dX11_crowd_7 (by decide) rfl
theorem s196_10 : sm_at C X 196 10 [l0, some (.int x0), l2] st N I L P = sm_at C X 196 11 [l0, some (.int x0), l2] (.int x0 :: st) N I L P := st_go b196 dX11_crowd_10 (by decide) rfl
theorem s196_11 : sm_at C X 196 11 ls st N I L P = sm_at C X 196 13 ls (.int (nI 6) :: st) N I L P := st_go b196 dX11_crowd_11 (by decide) rfl
theorem s196_13 : sm_at C X 196 13 ls (.int x0 :: .int x1 :: st) N I L P = if x1 = x0 then sm_at C X 196 25 ls st N I L P else sm_at C X 196 16 ls st N I L P := st_br b196 dX11_crowd_13 (by decide) rfl
theorem s196_16 : sm_at C X 196 16 [l0, some (.int x0), l2] st N I L P = sm_at C X 196 17 [l0, some (.int x0), l2] (.int x0 :: st) N I L P := st_go b196 dX11_crowd_16 (by decide) rfl
theorem s196_17 : sm_at C X 196 17 ls st N I L P = sm_at C X 196 19 ls (.int (nI 8) :: st) N I L P := st_go b196 dX11_crowd_17 (by decide) rfl
theorem s196_19 : sm_at C X 196 19 ls (.int x0 :: .int x1 :: st) N I L P = if x1 = x0 then sm_at C X 196 25 ls st N I L P else sm_at C X 196 22 ls st N I L P := st_br b196 dX11_crowd_19 (by decide) rfl
theorem s196_22 : sm_at C X 196 22 ls st N I L P = sm_at C X 196 24 ls (.int (-102) :: st) N I L P := st_go b196 dX11_crowd_22 (by decide) rfl
theorem s196_24 : sm_at C X 196 24 ls [.int x0] N I L P = some (some (.int x0), N, I, L, P) := st_iret b196 dX11_crowd_24 rfl
theorem s196_25 : sm_at C X 196 25 [some (.ref a), l1, l2] st N I L P = sm_at C X 196 26 [some (.ref a), l1, l2] (.ref a :: st) N I L P := st_go b196 dX11_crowd_25 (by decide) rfl
theorem s196_26 (h : a < N) (h1 : sm_lay a = .inl 11) : sm_at C X 196 26 ls (.ref a :: st) N I L P = sm_at C X 196 29 ls (.int (I a 19) :: st) N I L P := st_gfI b196 dX11_crowd_26 rfl rfl h h1
theorem s196_29 : sm_at C X 196 29 [l0, l1, l2] (.int x0 :: st) N I L P = sm_at C X 196 30 [l0, sm_cl l1, some (.int x0)] st N I L P := st_go b196 dX11_crowd_29 (by decide) rfl
theorem s196_30 : sm_at C X 196 30 [some (.ref a), l1, l2] st N I L P = sm_at C X 196 31 [some (.ref a), l1, l2] (.ref a :: st) N I L P := st_go b196 dX11_crowd_30 (by decide) rfl
theorem s196_31 : sm_at C X 196 31 [l0, some (.int x0), l2] st N I L P = sm_at C X 196 32 [l0, some (.int x0), l2] (.int x0 :: st) N I L P := st_go b196 dX11_crowd_31 (by decide) rfl
theorem s196_32 (h : a < N) (h1 : sm_lay a = .inl 11) : sm_at C X 196 32 ls (.int x0 :: .ref a :: st) N I L P = sm_at C X 196 35 ls st N (sm_up I a 19 x0) L P := st_pfI b196 dX11_crowd_32 rfl rfl rfl h h1
theorem s196_35 : sm_at C X 196 35 [some (.ref a), l1, l2] st N I L P = sm_at C X 196 36 [some (.ref a), l1, l2] (.ref a :: st) N I L P := st_go b196 dX11_crowd_35 (by decide) rfl
theorem s196_36 : sm_at C X 196 36 ls st N I L P = sm_at C X 196 37 ls (.int (nI 0) :: st) N I L P := st_go b196 dX11_crowd_36 (by decide) rfl
theorem s196_37 (h : a < N) (h1 : sm_lay a = .inl 11) : sm_at C X 196 37 ls (.int x0 :: .ref a :: st) N I L P = sm_at C X 196 40 ls st N (sm_up I a 21 x0) L P := st_pfI b196 dX11_crowd_37 rfl rfl rfl h h1
theorem s196_40 : sm_at C X 196 40 [some (.ref a), l1, l2] st N I L P = sm_at C X 196 41 [some (.ref a), l1, l2] (.ref a :: st) N I L P := st_go b196 dX11_crowd_40 (by decide) rfl
theorem s196_41 : sm_at C X 196 41 ls (.ref a :: st) N I L P = sm_at C X 196 42 ls (.ref a :: .ref a :: st) N I L P := st_go b196 dX11_crowd_41 (by decide) rfl
theorem s196_42 (h : a < N) (h1 : sm_lay a = .inl 11) : sm_at C X 196 42 ls (.ref a :: st) N I L P = sm_at C X 196 45 ls (.int (I a 20) :: st) N I L P := st_gfI b196 dX11_crowd_42 rfl rfl h h1
theorem s196_45 : sm_at C X 196 45 ls st N I L P = sm_at C X 196 46 ls (.int (nI 1) :: st) N I L P := st_go b196 dX11_crowd_45 (by decide) rfl
theorem s196_46 : sm_at C X 196 46 ls (.int x0 :: .int x1 :: st) N I L P = sm_at C X 196 47 ls (.int (x1 + x0) :: st) N I L P := st_go b196 dX11_crowd_46 (by decide) rfl
theorem s196_47 (h : a < N) (h1 : sm_lay a = .inl 11) : sm_at C X 196 47 ls (.int x0 :: .ref a :: st) N I L P = sm_at C X 196 50 ls st N (sm_up I a 20 x0) L P := st_pfI b196 dX11_crowd_47 rfl rfl rfl h h1
theorem s196_50 : sm_at C X 196 50 [l0, l1, some (.int x0)] st N I L P = sm_at C X 196 51 [l0, l1, some (.int x0)] (.int x0 :: st) N I L P := st_go b196 dX11_crowd_50 (by decide) rfl
theorem s196_51 : sm_at C X 196 51 ls [.int x0] N I L P = some (some (.int x0), N, I, L, P) := st_iret b196 dX11_crowd_51 rfl
theorem b197 : sm_b 197 = cX11_wince := rfl
theorem s197_0 : sm_at C X 197 0 [l0, some (.int x0), l2] st N I L P = sm_at C X 197 1 [l0, some (.int x0), l2] (.int x0 :: st) N I L P := st_go b197 dX11_wince_0 (by decide) rfl
theorem s197_1 : sm_at C X 197 1 ls (.int x0 :: st) N I L P = sm_at C X 197 2 ls (.long x0.toInt64 :: st) N I L P := st_go b197 dX11_wince_1 (by decide) rfl
theorem s197_2 : sm_at C X 197 2 ls st N I L P = sm_at C X 197 3 ls (.long (lN 0) :: st) N I L P := st_go b197 dX11_wince_2 (by decide) rfl
theorem s197_3 : sm_at C X 197 3 [some (.ref a), l1, l2] st N I L P = sm_at C X 197 4 [some (.ref a), l1, l2] (.ref a :: st) N I L P := st_go b197 dX11_wince_3 (by decide) rfl
theorem s197_4 (h : a < N) (h1 : sm_lay a = .inl 11) : sm_at C X 197 4 ls (.ref a :: st) N I L P = sm_at C X 197 7 ls (.int (I a 19) :: st) N I L P := st_gfI b197 dX11_wince_4 rfl rfl h h1
theorem s197_7 : sm_at C X 197 7 ls st N I L P = sm_at C X 197 8 ls (.int (nI 1) :: st) N I L P := st_go b197 dX11_wince_7 (by decide) rfl
theorem s197_8 : sm_at C X 197 8 ls (.int x0 :: .int x1 :: st) N I L P = sm_at C X 197 9 ls (.int (x1 - x0) :: st) N I L P := st_go b197 dX11_wince_8 (by decide) rfl
theorem s197_9 : sm_at C X 197 9 ls (.int x0 :: st) N I L P = sm_at C X 197 10 ls (.long x0.toInt64 :: st) N I L P := st_go b197 dX11_wince_9 (by decide) rfl
theorem s197_10 : sm_at C X 197 10 ls [w2, w1, w0] N I L P = sm_af C X 197 13 ls [] (C 146 [w0, w1, w2] N I L P) := st_stat b197 dX11_wince_10 (n := 3) (rest := []) rfl rfl rfl rfl rfl rfl
theorem s197_13 : sm_at C X 197 13 ls (.int x0 :: st) N I L P = if ¬ x0 = 0 then sm_at C X 197 19 ls st N I L P else sm_at C X 197 16 ls st N I L P := st_br b197 dX11_wince_13 (by decide) rfl
theorem s197_16 : sm_at C X 197 16 ls st N I L P = sm_at C X 197 18 ls (.int (-101) :: st) N I L P := st_go b197 dX11_wince_16 (by decide) rfl
theorem s197_18 : sm_at C X 197 18 ls [.int x0] N I L P = some (some (.int x0), N, I, L, P) := st_iret b197 dX11_wince_18 rfl
theorem s197_19 : sm_at C X 197 19 [l0, l1, some (.int x0)] st N I L P = sm_at C X 197 20 [l0, l1, some (.int x0)] (.int x0 :: st) N I L P := st_go b197 dX11_wince_19 (by decide) rfl
theorem s197_20 : sm_at C X 197 20 ls (.int x0 :: st) N I L P = sm_at C X 197 21 ls (.long x0.toInt64 :: st) N I L P := st_go b197 dX11_wince_20 (by decide) rfl
theorem s197_21 : sm_at C X 197 21 ls st N I L P = sm_at C X 197 22 ls (.long (lN 0) :: st) N I L P := st_go b197 dX11_wince_21 (by decide) rfl
theorem s197_22 : sm_at C X 197 22 ls st N I L P = sm_at C X 197 23 ls (.int (nI 1) :: st) N I L P := st_go b197 dX11_wince_22 (by decide) rfl
theorem s197_23 : sm_at C X 197 23 [some (.ref a), l1, l2] st N I L P = sm_at C X 197 24 [some (.ref a), l1, l2] (.ref a :: st) N I L P := st_go b197 dX11_wince_23 (by decide) rfl
theorem s197_24 (h : a < N) (h1 : sm_lay a = .inl 11) : sm_at C X 197 24 ls (.ref a :: st) N I L P = sm_at C X 197 27 ls (.int (I a 19) :: st) N I L P := st_gfI b197 dX11_wince_24 rfl rfl h h1
theorem s197_27 : sm_at C X 197 27 ls (.int x0 :: .int x1 :: st) N I L P = sm_at C X 197 28 ls (.int (x1 <<< (x0 &&& 31)) :: st) N I L P := st_go b197 dX11_wince_27 (by decide) rfl
theorem s197_28 : sm_at C X 197 28 ls st N I L P = sm_at C X 197 29 ls (.int (nI 1) :: st) N I L P := st_go b197 dX11_wince_28 (by decide) rfl
theorem s197_29 : sm_at C X 197 29 ls (.int x0 :: .int x1 :: st) N I L P = sm_at C X 197 30 ls (.int (x1 - x0) :: st) N I L P := st_go b197 dX11_wince_29 (by decide) rfl
theorem s197_30 : sm_at C X 197 30 ls (.int x0 :: st) N I L P = sm_at C X 197 31 ls (.long x0.toInt64 :: st) N I L P := st_go b197 dX11_wince_30 (by decide) rfl
theorem s197_31 : sm_at C X 197 31 ls [w2, w1, w0] N I L P = sm_af C X 197 34 ls [] (C 146 [w0, w1, w2] N I L P) := st_stat b197 dX11_wince_31 (n := 3) (rest := []) rfl rfl rfl rfl rfl rfl
theorem s197_34 : sm_at C X 197 34 ls (.int x0 :: st) N I L P = if ¬ x0 = 0 then sm_at C X 197 40 ls st N I L P else sm_at C X 197 37 ls st N I L P := st_br b197 dX11_wince_34 (by decide) rfl
theorem s197_37 : sm_at C X 197 37 ls st N I L P = sm_at C X 197 39 ls (.int (-102) :: st) N I L P := st_go b197 dX11_wince_37 (by decide) rfl
theorem s197_39 : sm_at C X 197 39 ls [.int x0] N I L P = some (some (.int x0), N, I, L, P) := st_iret b197 dX11_wince_39 rfl
theorem s197_40 : sm_at C X 197 40 [some (.ref a), l1, l2] st N I L P = sm_at C X 197 41 [some (.ref a), l1, l2] (.ref a :: st) N I L P := st_go b197 dX11_wince_40 (by decide) rfl
theorem s197_41 (h : a < N) (h1 : sm_lay a = .inl 11) : sm_at C X 197 41 ls (.ref a :: st) N I L P = sm_at C X 197 44 ls (.int (I a 21) :: st) N I L P := st_gfI b197 dX11_wince_41 rfl rfl h h1
theorem s197_44 : sm_at C X 197 44 ls st N I L P = sm_at C X 197 46 ls (.int (nI 8) :: st) N I L P := st_go b197 dX11_wince_44 (by decide) rfl
theorem s197_46 : sm_at C X 197 46 ls (.int x0 :: .int x1 :: st) N I L P = if ¬ x1 = x0 then sm_at C X 197 52 ls st N I L P else sm_at C X 197 49 ls st N I L P := st_br b197 dX11_wince_46 (by decide) rfl
theorem s197_49 : sm_at C X 197 49 ls st N I L P = sm_at C X 197 51 ls (.int (-104) :: st) N I L P := st_go b197 dX11_wince_49 (by decide) rfl
theorem s197_51 : sm_at C X 197 51 ls [.int x0] N I L P = some (some (.int x0), N, I, L, P) := st_iret b197 dX11_wince_51 rfl
theorem s197_52 : sm_at C X 197 52 [some (.ref a), l1, l2] st N I L P = sm_at C X 197 53 [some (.ref a), l1, l2] (.ref a :: st) N I L P := st_go b197 dX11_wince_52 (by decide) rfl
theorem s197_53 (h : a < N) (h1 : sm_lay a = .inl 11) : sm_at C X 197 53 ls (.ref a :: st) N I L P = sm_at C X 197 56 ls (va_rf (P a 22) :: st) N I L P := st_gfR b197 dX11_wince_53 rfl rfl h h1
theorem s197_56 : sm_at C X 197 56 ls st N I L P = sm_at C X 197 57 ls (.int (nI 2) :: st) N I L P := st_go b197 dX11_wince_56 (by decide) rfl
theorem s197_57 : sm_at C X 197 57 [some (.ref a), l1, l2] st N I L P = sm_at C X 197 58 [some (.ref a), l1, l2] (.ref a :: st) N I L P := st_go b197 dX11_wince_57 (by decide) rfl
theorem s197_58 (h : a < N) (h1 : sm_lay a = .inl 11) : sm_at C X 197 58 ls (.ref a :: st) N I L P = sm_at C X 197 61 ls (.int (I a 21) :: st) N I L P := st_gfI b197 dX11_wince_58 rfl rfl h h1
theorem s197_61 : sm_at C X 197 61 ls (.int x0 :: .int x1 :: st) N I L P = sm_at C X 197 62 ls (.int (x1 * x0) :: st) N I L P := st_go b197 dX11_wince_61 (by decide) rfl
theorem s197_62 : sm_at C X 197 62 [l0, some (.int x0), l2] st N I L P = sm_at C X 197 63 [l0, some (.int x0), l2] (.int x0 :: st) N I L P := st_go b197 dX11_wince_62 (by decide) rfl
theorem s197_63 (h : a < N) (h1 : k < sm_al a) : sm_at C X 197 63 ls (.int x0 :: .int (nI k) :: .ref a :: st) N I L P = sm_at C X 197 64 ls st N (sm_up I a k x0) L P := st_iast b197 dX11_wince_63 h h1
theorem s197_64 : sm_at C X 197 64 [some (.ref a), l1, l2] st N I L P = sm_at C X 197 65 [some (.ref a), l1, l2] (.ref a :: st) N I L P := st_go b197 dX11_wince_64 (by decide) rfl
theorem s197_65 (h : a < N) (h1 : sm_lay a = .inl 11) : sm_at C X 197 65 ls (.ref a :: st) N I L P = sm_at C X 197 68 ls (va_rf (P a 22) :: st) N I L P := st_gfR b197 dX11_wince_65 rfl rfl h h1
theorem s197_68 : sm_at C X 197 68 ls st N I L P = sm_at C X 197 69 ls (.int (nI 2) :: st) N I L P := st_go b197 dX11_wince_68 (by decide) rfl
theorem s197_69 : sm_at C X 197 69 [some (.ref a), l1, l2] st N I L P = sm_at C X 197 70 [some (.ref a), l1, l2] (.ref a :: st) N I L P := st_go b197 dX11_wince_69 (by decide) rfl
theorem s197_70 (h : a < N) (h1 : sm_lay a = .inl 11) : sm_at C X 197 70 ls (.ref a :: st) N I L P = sm_at C X 197 73 ls (.int (I a 21) :: st) N I L P := st_gfI b197 dX11_wince_70 rfl rfl h h1
theorem s197_73 : sm_at C X 197 73 ls (.int x0 :: .int x1 :: st) N I L P = sm_at C X 197 74 ls (.int (x1 * x0) :: st) N I L P := st_go b197 dX11_wince_73 (by decide) rfl
theorem s197_74 : sm_at C X 197 74 ls st N I L P = sm_at C X 197 75 ls (.int (nI 1) :: st) N I L P := st_go b197 dX11_wince_74 (by decide) rfl
theorem s197_75 : sm_at C X 197 75 ls (.int x0 :: .int x1 :: st) N I L P = sm_at C X 197 76 ls (.int (x1 + x0) :: st) N I L P := st_go b197 dX11_wince_75 (by decide) rfl
theorem s197_76 : sm_at C X 197 76 [l0, l1, some (.int x0)] st N I L P = sm_at C X 197 77 [l0, l1, some (.int x0)] (.int x0 :: st) N I L P := st_go b197 dX11_wince_76 (by decide) rfl
theorem s197_77 (h : a < N) (h1 : k < sm_al a) : sm_at C X 197 77 ls (.int x0 :: .int (nI k) :: .ref a :: st) N I L P = sm_at C X 197 78 ls st N (sm_up I a k x0) L P := st_iast b197 dX11_wince_77 h h1
theorem s197_78 : sm_at C X 197 78 [some (.ref a), l1, l2] st N I L P = sm_at C X 197 79 [some (.ref a), l1, l2] (.ref a :: st) N I L P := st_go b197 dX11_wince_78 (by decide) rfl
theorem s197_79 : sm_at C X 197 79 ls (.ref a :: st) N I L P = sm_at C X 197 80 ls (.ref a :: .ref a :: st) N I L P := st_go b197 dX11_wince_79 (by decide) rfl
theorem s197_80 (h : a < N) (h1 : sm_lay a = .inl 11) : sm_at C X 197 80 ls (.ref a :: st) N I L P = sm_at C X 197 83 ls (.int (I a 21) :: st) N I L P := st_gfI b197 dX11_wince_80 rfl rfl h h1
theorem s197_83 : sm_at C X 197 83 ls st N I L P = sm_at C X 197 84 ls (.int (nI 1) :: st) N I L P := st_go b197 dX11_wince_83 (by decide) rfl
theorem s197_84 : sm_at C X 197 84 ls (.int x0 :: .int x1 :: st) N I L P = sm_at C X 197 85 ls (.int (x1 + x0) :: st) N I L P := st_go b197 dX11_wince_84 (by decide) rfl
theorem s197_85 (h : a < N) (h1 : sm_lay a = .inl 11) : sm_at C X 197 85 ls (.int x0 :: .ref a :: st) N I L P = sm_at C X 197 88 ls st N (sm_up I a 21 x0) L P := st_pfI b197 dX11_wince_85 rfl rfl rfl h h1
theorem s197_88 : sm_at C X 197 88 [some (.ref a), l1, l2] st N I L P = sm_at C X 197 89 [some (.ref a), l1, l2] (.ref a :: st) N I L P := st_go b197 dX11_wince_88 (by decide) rfl
theorem s197_89 (h : a < N) (h1 : sm_lay a = .inl 11) : sm_at C X 197 89 ls (.ref a :: st) N I L P = sm_at C X 197 92 ls (.int (I a 21) :: st) N I L P := st_gfI b197 dX11_wince_89 rfl rfl h h1
theorem s197_92 : sm_at C X 197 92 ls [.int x0] N I L P = some (some (.int x0), N, I, L, P) := st_iret b197 dX11_wince_92 rfl
theorem b198 : sm_b 198 = cX11_layPairing := rfl
theorem s198_0 : sm_at C X 198 0 [l0, some (.int x0), l2, l3, l4, l5, l6, l7] st N I L P = sm_at C X 198 1 [l0, some (.int x0), l2, l3, l4, l5, l6, l7] (.int x0 :: st) N I L P := st_go b198 dX11_layPairing_0 (by decide) rfl
theorem s198_1 : sm_at C X 198 1 [l0, l1, l2, l3, l4, l5, l6, l7] (.int x0 :: st) N I L P = sm_at C X 198 2 [l0, sm_cl l1, some (.int x0), l3, l4, l5, l6, l7] st N I L P := st_go b198 dX11_layPairing_1 (by decide) rfl
theorem s198_2 : sm_at C X 198 2 ls st N I L P = sm_at C X 198 3 ls (.int (nI 1) :: st) N I L P := st_go b198 dX11_layPairing_2 (by decide) rfl
theorem s198_3 : sm_at C X 198 3 [some (.ref a), l1, l2, l3, l4, l5, l6, l7] st N I L P = sm_at C X 198 4 [some (.ref a), l1, l2, l3, l4, l5, l6, l7] (.ref a :: st) N I L P := st_go b198 dX11_layPairing_3 (by decide) rfl
theorem s198_4 (h : a < N) (h1 : sm_lay a = .inl 11) : sm_at C X 198 4 ls (.ref a :: st) N I L P = sm_at C X 198 7 ls (.int (I a 19) :: st) N I L P := st_gfI b198 dX11_layPairing_4 rfl rfl h h1
theorem s198_7 : sm_at C X 198 7 ls (.int x0 :: .int x1 :: st) N I L P = sm_at C X 198 8 ls (.int (x1 <<< (x0 &&& 31)) :: st) N I L P := st_go b198 dX11_layPairing_7 (by decide) rfl
theorem s198_8 : sm_at C X 198 8 ls st N I L P = sm_at C X 198 9 ls (.int (nI 1) :: st) N I L P := st_go b198 dX11_layPairing_8 (by decide) rfl
theorem s198_9 : sm_at C X 198 9 ls (.int x0 :: .int x1 :: st) N I L P = sm_at C X 198 10 ls (.int (x1 - x0) :: st) N I L P := st_go b198 dX11_layPairing_9 (by decide) rfl
theorem s198_10 : sm_at C X 198 10 [l0, l1, l2, l3, l4, l5, l6, l7] (.int x0 :: st) N I L P = sm_at C X 198 11 [l0, l1, sm_cl l2, some (.int x0), l4, l5, l6, l7] st N I L P := st_go b198 dX11_layPairing_10 (by decide) rfl
theorem s198_11 : sm_at C X 198 11 [some (.ref a), l1, l2, l3, l4, l5, l6, l7] st N I L P = sm_at C X 198 12 [some (.ref a), l1, l2, l3, l4, l5, l6, l7] (.ref a :: st) N I L P := st_go b198 dX11_layPairing_11 (by decide) rfl
theorem s198_12 (h : a < N) (h1 : sm_lay a = .inl 11) : sm_at C X 198 12 ls (.ref a :: st) N I L P = sm_at C X 198 15 ls (.int (I a 19) :: st) N I L P := st_gfI b198 dX11_layPairing_12 rfl rfl h h1
theorem s198_15 : sm_at C X 198 15 ls st N I L P = sm_at C X 198 16 ls (.int (nI 1) :: st) N I L P := st_go b198 dX11_layPairing_15 (by decide) rfl
theorem s198_16 : sm_at C X 198 16 ls (.int x0 :: .int x1 :: st) N I L P = sm_at C X 198 17 ls (.int (x1 - x0) :: st) N I L P := st_go b198 dX11_layPairing_16 (by decide) rfl
theorem s198_17 : sm_at C X 198 17 [l0, l1, l2, l3, l4, l5, l6, l7] (.int x0 :: st) N I L P = sm_at C X 198 19 [l0, l1, l2, sm_cl l3, some (.int x0), l5, l6, l7] st N I L P := st_go b198 dX11_layPairing_17 (by decide) rfl
theorem s198_19 : sm_at C X 198 19 [l0, l1, l2, l3, some (.int x0), l5, l6, l7] st N I L P = sm_at C X 198 21 [l0, l1, l2, l3, some (.int x0), l5, l6, l7] (.int x0 :: st) N I L P := st_go b198 dX11_layPairing_19 (by decide) rfl
theorem s198_21 : sm_at C X 198 21 ls (.int x0 :: st) N I L P = if x0 ≤ 0 then sm_at C X 198 128 ls st N I L P else sm_at C X 198 24 ls st N I L P := st_br b198 dX11_layPairing_21 (by decide) rfl
theorem s198_24 : sm_at C X 198 24 ls st N I L P = sm_at C X 198 25 ls (.int (nI 0) :: st) N I L P := st_go b198 dX11_layPairing_24 (by decide) rfl
theorem s198_25 : sm_at C X 198 25 [l0, l1, l2, l3, l4, l5, l6, l7] (.int x0 :: st) N I L P = sm_at C X 198 27 [l0, l1, l2, l3, sm_cl l4, some (.int x0), l6, l7] st N I L P := st_go b198 dX11_layPairing_25 (by decide) rfl
theorem s198_27 : sm_at C X 198 27 [l0, l1, l2, some (.int x0), l4, l5, l6, l7] st N I L P = sm_at C X 198 28 [l0, l1, l2, some (.int x0), l4, l5, l6, l7] (.int x0 :: st) N I L P := st_go b198 dX11_layPairing_27 (by decide) rfl
theorem s198_28 : sm_at C X 198 28 [l0, l1, l2, l3, l4, some (.int x0), l6, l7] st N I L P = sm_at C X 198 30 [l0, l1, l2, l3, l4, some (.int x0), l6, l7] (.int x0 :: st) N I L P := st_go b198 dX11_layPairing_28 (by decide) rfl
theorem s198_30 : sm_at C X 198 30 ls (.int x0 :: .int x1 :: st) N I L P = sm_at C X 198 31 ls (.int (x1 >>> (x0 &&& 31)) :: st) N I L P := st_go b198 dX11_layPairing_30 (by decide) rfl
theorem s198_31 : sm_at C X 198 31 ls st N I L P = sm_at C X 198 32 ls (.int (nI 1) :: st) N I L P := st_go b198 dX11_layPairing_31 (by decide) rfl
theorem s198_32 : sm_at C X 198 32 ls (.int x0 :: .int x1 :: st) N I L P = sm_at C X 198 33 ls (.int (x1 &&& x0) :: st) N I L P := st_go b198 dX11_layPairing_32 (by decide) rfl
theorem s198_33 : sm_at C X 198 33 ls (.int x0 :: st) N I L P = if ¬ x0 = 0 then sm_at C X 198 42 ls st N I L P else sm_at C X 198 36 ls st N I L P := st_br b198 dX11_layPairing_33 (by decide) rfl
theorem s198_36 : sm_at C X 198 36 [l0, l1, l2, l3, l4, some (.int x0), l6, l7] st N I L P = sm_at C X 198 39 [l0, l1, l2, l3, sm_cl l4, some (.int (x0 + (nI 1))), l6, l7] st N I L P := st_go b198 dX11_layPairing_36 (by decide) rfl
theorem s198_39 : sm_at C X 198 39 ls st N I L P = sm_at C X 198 27 ls st N I L P := st_go b198 dX11_layPairing_39 (by decide) rfl
theorem s198_42 : sm_at C X 198 42 [l0, l1, l2, some (.int x0), l4, l5, l6, l7] st N I L P = sm_at C X 198 43 [l0, l1, l2, some (.int x0), l4, l5, l6, l7] (.int x0 :: st) N I L P := st_go b198 dX11_layPairing_42 (by decide) rfl
theorem s198_43 : sm_at C X 198 43 ls st N I L P = sm_at C X 198 44 ls (.int (nI 1) :: st) N I L P := st_go b198 dX11_layPairing_43 (by decide) rfl
theorem s198_44 : sm_at C X 198 44 [l0, l1, l2, l3, l4, some (.int x0), l6, l7] st N I L P = sm_at C X 198 46 [l0, l1, l2, l3, l4, some (.int x0), l6, l7] (.int x0 :: st) N I L P := st_go b198 dX11_layPairing_44 (by decide) rfl
theorem s198_46 : sm_at C X 198 46 ls (.int x0 :: .int x1 :: st) N I L P = sm_at C X 198 47 ls (.int (x1 <<< (x0 &&& 31)) :: st) N I L P := st_go b198 dX11_layPairing_46 (by decide) rfl
theorem s198_47 : sm_at C X 198 47 ls (.int x0 :: .int x1 :: st) N I L P = sm_at C X 198 48 ls (.int (x1 - x0) :: st) N I L P := st_go b198 dX11_layPairing_47 (by decide) rfl
theorem s198_48 : sm_at C X 198 48 [l0, l1, l2, l3, l4, l5, l6, l7] (.int x0 :: st) N I L P = sm_at C X 198 49 [l0, l1, sm_cl l2, some (.int x0), l4, l5, l6, l7] st N I L P := st_go b198 dX11_layPairing_48 (by decide) rfl
theorem s198_49 : sm_at C X 198 49 [l0, l1, some (.int x0), l3, l4, l5, l6, l7] st N I L P = sm_at C X 198 50 [l0, l1, some (.int x0), l3, l4, l5, l6, l7] (.int x0 :: st) N I L P := st_go b198 dX11_layPairing_49 (by decide) rfl
theorem s198_50 : sm_at C X 198 50 [l0, l1, l2, l3, some (.int x0), l5, l6, l7] st N I L P = sm_at C X 198 52 [l0, l1, l2, l3, some (.int x0), l5, l6, l7] (.int x0 :: st) N I L P := st_go b198 dX11_layPairing_50 (by decide) rfl
theorem s198_52 (h : ¬ x0 = 0) : sm_at C X 198 52 ls (.int x0 :: .int x1 :: st) N I L P = sm_at C X 198 53 ls (.int (x1 - x1 / x0 * x0) :: st) N I L P := st_irem b198 dX11_layPairing_52 h
theorem s198_53 : sm_at C X 198 53 [l0, l1, l2, l3, l4, l5, l6, l7] (.int x0 :: st) N I L P = sm_at C X 198 55 [l0, l1, l2, l3, l4, sm_cl l5, some (.int x0), l7] st N I L P := st_go b198 dX11_layPairing_53 (by decide) rfl
theorem s198_55 : sm_at C X 198 55 [l0, l1, some (.int x0), l3, l4, l5, l6, l7] st N I L P = sm_at C X 198 56 [l0, l1, some (.int x0), l3, l4, l5, l6, l7] (.int x0 :: st) N I L P := st_go b198 dX11_layPairing_55 (by decide) rfl
theorem s198_56 : sm_at C X 198 56 [l0, l1, l2, l3, some (.int x0), l5, l6, l7] st N I L P = sm_at C X 198 58 [l0, l1, l2, l3, some (.int x0), l5, l6, l7] (.int x0 :: st) N I L P := st_go b198 dX11_layPairing_56 (by decide) rfl
theorem s198_58 (h : ¬ x0 = 0) : sm_at C X 198 58 ls (.int x0 :: .int x1 :: st) N I L P = sm_at C X 198 59 ls (.int (x1 / x0) :: st) N I L P := st_idiv b198 dX11_layPairing_58 h
theorem s198_59 : sm_at C X 198 59 [l0, l1, l2, l3, l4, l5, l6, l7] (.int x0 :: st) N I L P = sm_at C X 198 60 [l0, sm_cl l1, some (.int x0), l3, l4, l5, l6, l7] st N I L P := st_go b198 dX11_layPairing_59 (by decide) rfl
theorem s198_60 : sm_at C X 198 60 [l0, l1, l2, l3, l4, some (.int x0), l6, l7] st N I L P = sm_at C X 198 62 [l0, l1, l2, l3, l4, some (.int x0), l6, l7] (.int x0 :: st) N I L P := st_go b198 dX11_layPairing_60 (by decide) rfl
theorem s198_62 : sm_at C X 198 62 ls st N I L P = sm_at C X 198 63 ls (.int (nI 1) :: st) N I L P := st_go b198 dX11_layPairing_62 (by decide) rfl
theorem s198_63 : sm_at C X 198 63 ls (.int x0 :: .int x1 :: st) N I L P = sm_at C X 198 64 ls (.int (x1 + x0) :: st) N I L P := st_go b198 dX11_layPairing_63 (by decide) rfl
theorem s198_64 : sm_at C X 198 64 [l0, l1, l2, l3, l4, l5, l6, l7] (.int x0 :: st) N I L P = sm_at C X 198 66 [l0, l1, l2, l3, l4, l5, sm_cl l6, some (.int x0)] st N I L P := st_go b198 dX11_layPairing_64 (by decide) rfl
theorem s198_66 : sm_at C X 198 66 [l0, l1, l2, some (.int x0), l4, l5, l6, l7] st N I L P = sm_at C X 198 67 [l0, l1, l2, some (.int x0), l4, l5, l6, l7] (.int x0 :: st) N I L P := st_go b198 dX11_layPairing_66 (by decide) rfl
theorem s198_67 : sm_at C X 198 67 [l0, l1, l2, l3, l4, l5, l6, some (.int x0)] st N I L P = sm_at C X 198 69 [l0, l1, l2, l3, l4, l5, l6, some (.int x0)] (.int x0 :: st) N I L P := st_go b198 dX11_layPairing_67 (by decide) rfl
theorem s198_69 : sm_at C X 198 69 ls (.int x0 :: .int x1 :: st) N I L P = sm_at C X 198 70 ls (.int (x1 >>> (x0 &&& 31)) :: st) N I L P := st_go b198 dX11_layPairing_69 (by decide) rfl
theorem s198_70 : sm_at C X 198 70 ls st N I L P = sm_at C X 198 71 ls (.int (nI 1) :: st) N I L P := st_go b198 dX11_layPairing_70 (by decide) rfl
theorem s198_71 : sm_at C X 198 71 ls (.int x0 :: .int x1 :: st) N I L P = sm_at C X 198 72 ls (.int (x1 &&& x0) :: st) N I L P := st_go b198 dX11_layPairing_71 (by decide) rfl
theorem s198_72 : sm_at C X 198 72 ls (.int x0 :: st) N I L P = if x0 = 0 then sm_at C X 198 80 ls st N I L P else sm_at C X 198 75 ls st N I L P := st_br b198 dX11_layPairing_72 (by decide) rfl
theorem s198_75 : sm_at C X 198 75 [l0, l1, l2, l3, l4, l5, some (.int x0), l7] st N I L P = sm_at C X 198 77 [l0, l1, l2, l3, l4, l5, some (.int x0), l7] (.int x0 :: st) N I L P := st_go b198 dX11_layPairing_75 (by decide) rfl
theorem s198_77 : sm_at C X 198 77 ls (.int x0 :: st) N I L P = if x0 ≤ 0 then sm_at C X 198 97 ls st N I L P else sm_at C X 198 80 ls st N I L P := st_br b198 dX11_layPairing_77 (by decide) rfl
theorem s198_80 : sm_at C X 198 80 [l0, l1, l2, l3, l4, l5, some (.int x0), l7] st N I L P = sm_at C X 198 82 [l0, l1, l2, l3, l4, l5, some (.int x0), l7] (.int x0 :: st) N I L P := st_go b198 dX11_layPairing_80 (by decide) rfl
theorem s198_82 : sm_at C X 198 82 [l0, l1, l2, some (.int x0), l4, l5, l6, l7] st N I L P = sm_at C X 198 83 [l0, l1, l2, some (.int x0), l4, l5, l6, l7] (.int x0 :: st) N I L P := st_go b198 dX11_layPairing_82 (by decide) rfl
theorem s198_83 : sm_at C X 198 83 [l0, l1, l2, l3, l4, l5, l6, some (.int x0)] st N I L P = sm_at C X 198 85 [l0, l1, l2, l3, l4, l5, l6, some (.int x0)] (.int x0 :: st) N I L P := st_go b198 dX11_layPairing_83 (by decide) rfl
theorem s198_85 : sm_at C X 198 85 ls (.int x0 :: .int x1 :: st) N I L P = sm_at C X 198 86 ls (.int (x1 >>> (x0 &&& 31)) :: st) N I L P := st_go b198 dX11_layPairing_85 (by decide) rfl
theorem s198_86 : sm_at C X 198 86 ls st N I L P = sm_at C X 198 87 ls (.int (nI 1) :: st) N I L P := st_go b198 dX11_layPairing_86 (by decide) rfl
theorem s198_87 : sm_at C X 198 87 ls (.int x0 :: .int x1 :: st) N I L P = sm_at C X 198 88 ls (.int (x1 &&& x0) :: st) N I L P := st_go b198 dX11_layPairing_87 (by decide) rfl
theorem s198_88 : sm_at C X 198 88 ls (.int x0 :: .int x1 :: st) N I L P = sm_at C X 198 89 ls (.int (x1 - x0) :: st) N I L P := st_go b198 dX11_layPairing_88 (by decide) rfl
theorem s198_89 : sm_at C X 198 89 [l0, l1, l2, l3, l4, l5, l6, l7] (.int x0 :: st) N I L P = sm_at C X 198 91 [l0, l1, l2, l3, l4, sm_cl l5, some (.int x0), l7] st N I L P := st_go b198 dX11_layPairing_89 (by decide) rfl
theorem s198_91 : sm_at C X 198 91 [l0, l1, l2, l3, l4, l5, l6, some (.int x0)] st N I L P = sm_at C X 198 94 [l0, l1, l2, l3, l4, l5, sm_cl l6, some (.int (x0 + (nI 1)))] st N I L P := st_go b198 dX11_layPairing_91 (by decide) rfl
theorem s198_94 : sm_at C X 198 94 ls st N I L P = sm_at C X 198 66 ls st N I L P := st_go b198 dX11_layPairing_94 (by decide) rfl
theorem s198_97 : sm_at C X 198 97 [l0, l1, l2, some (.int x0), l4, l5, l6, l7] st N I L P = sm_at C X 198 98 [l0, l1, l2, some (.int x0), l4, l5, l6, l7] (.int x0 :: st) N I L P := st_go b198 dX11_layPairing_97 (by decide) rfl
theorem s198_98 : sm_at C X 198 98 ls st N I L P = sm_at C X 198 99 ls (.int (nI 1) :: st) N I L P := st_go b198 dX11_layPairing_98 (by decide) rfl
theorem s198_99 : sm_at C X 198 99 [l0, l1, l2, l3, l4, l5, l6, some (.int x0)] st N I L P = sm_at C X 198 101 [l0, l1, l2, l3, l4, l5, l6, some (.int x0)] (.int x0 :: st) N I L P := st_go b198 dX11_layPairing_99 (by decide) rfl
theorem s198_101 : sm_at C X 198 101 ls (.int x0 :: .int x1 :: st) N I L P = sm_at C X 198 102 ls (.int (x1 <<< (x0 &&& 31)) :: st) N I L P := st_go b198 dX11_layPairing_101 (by decide) rfl
theorem s198_102 : sm_at C X 198 102 ls (.int x0 :: .int x1 :: st) N I L P = sm_at C X 198 103 ls (.int (x1 - x0) :: st) N I L P := st_go b198 dX11_layPairing_102 (by decide) rfl
theorem s198_103 : sm_at C X 198 103 [l0, l1, l2, l3, l4, l5, l6, l7] (.int x0 :: st) N I L P = sm_at C X 198 104 [l0, l1, sm_cl l2, some (.int x0), l4, l5, l6, l7] st N I L P := st_go b198 dX11_layPairing_103 (by decide) rfl
theorem s198_104 : sm_at C X 198 104 [some (.ref a), l1, l2, l3, l4, l5, l6, l7] st N I L P = sm_at C X 198 105 [some (.ref a), l1, l2, l3, l4, l5, l6, l7] (.ref a :: st) N I L P := st_go b198 dX11_layPairing_104 (by decide) rfl
theorem s198_105 (h : a < N) (h1 : sm_lay a = .inl 11) : sm_at C X 198 105 ls (.ref a :: st) N I L P = sm_at C X 198 108 ls (va_rf (P a 23) :: st) N I L P := st_gfR b198 dX11_layPairing_105 rfl rfl h h1
theorem s198_108 : sm_at C X 198 108 [l0, l1, l2, l3, l4, some (.int x0), l6, l7] st N I L P = sm_at C X 198 110 [l0, l1, l2, l3, l4, some (.int x0), l6, l7] (.int x0 :: st) N I L P := st_go b198 dX11_layPairing_108 (by decide) rfl
theorem s198_110 : sm_at C X 198 110 [l0, l1, l2, l3, l4, l5, l6, some (.int x0)] st N I L P = sm_at C X 198 112 [l0, l1, l2, l3, l4, l5, l6, some (.int x0)] (.int x0 :: st) N I L P := st_go b198 dX11_layPairing_110 (by decide) rfl
theorem s198_112 (h : a < N) (h1 : k < sm_al a) : sm_at C X 198 112 ls (.int x0 :: .int (nI k) :: .ref a :: st) N I L P = sm_at C X 198 113 ls st N (sm_up I a k x0) L P := st_iast b198 dX11_layPairing_112 h h1
theorem s198_113 : sm_at C X 198 113 [some (.ref a), l1, l2, l3, l4, l5, l6, l7] st N I L P = sm_at C X 198 114 [some (.ref a), l1, l2, l3, l4, l5, l6, l7] (.ref a :: st) N I L P := st_go b198 dX11_layPairing_113 (by decide) rfl
theorem s198_114 (h : a < N) (h1 : sm_lay a = .inl 11) : sm_at C X 198 114 ls (.ref a :: st) N I L P = sm_at C X 198 117 ls (va_rf (P a 23) :: st) N I L P := st_gfR b198 dX11_layPairing_114 rfl rfl h h1
theorem s198_117 : sm_at C X 198 117 [l0, l1, l2, l3, l4, l5, l6, some (.int x0)] st N I L P = sm_at C X 198 119 [l0, l1, l2, l3, l4, l5, l6, some (.int x0)] (.int x0 :: st) N I L P := st_go b198 dX11_layPairing_117 (by decide) rfl
theorem s198_119 : sm_at C X 198 119 [l0, l1, l2, l3, l4, some (.int x0), l6, l7] st N I L P = sm_at C X 198 121 [l0, l1, l2, l3, l4, some (.int x0), l6, l7] (.int x0 :: st) N I L P := st_go b198 dX11_layPairing_119 (by decide) rfl
theorem s198_121 (h : a < N) (h1 : k < sm_al a) : sm_at C X 198 121 ls (.int x0 :: .int (nI k) :: .ref a :: st) N I L P = sm_at C X 198 122 ls st N (sm_up I a k x0) L P := st_iast b198 dX11_layPairing_121 h h1
theorem s198_122 : sm_at C X 198 122 [l0, l1, l2, l3, some (.int x0), l5, l6, l7] st N I L P = sm_at C X 198 125 [l0, l1, l2, sm_cl l3, some (.int (x0 + (-2))), l5, l6, l7] st N I L P := st_go b198 dX11_layPairing_122 (by decide) rfl
theorem s198_125 : sm_at C X 198 125 ls st N I L P = sm_at C X 198 19 ls st N I L P := st_go b198 dX11_layPairing_125 (by decide) rfl
theorem s198_128 : sm_at C X 198 128 ls [] N I L P = some (none, N, I, L, P) := st_ret b198 dX11_layPairing_128 (by decide) rfl
theorem b199 : sm_b 199 = cX11_isSo := rfl
theorem s199_0 : sm_at C X 199 0 ls st N I L P = sm_at C X 199 1 ls (.int (nI 1) :: st) N I L P := st_go b199 dX11_isSo_0 (by decide) rfl
theorem s199_1 : sm_at C X 199 1 [l0, l1, l2] (.int x0 :: st) N I L P = sm_at C X 199 2 [sm_cl l0, some (.int x0), l2] st N I L P := st_go b199 dX11_isSo_1 (by decide) rfl
theorem s199_2 : sm_at C X 199 2 ls st N I L P = sm_at C X 199 3 ls (.int (nI 0) :: st) N I L P := st_go b199 dX11_isSo_2 (by decide) rfl
theorem s199_3 : sm_at C X 199 3 [l0, l1, l2] (.int x0 :: st) N I L P = sm_at C X 199 4 [l0, sm_cl l1, some (.int x0)] st N I L P := st_go b199 dX11_isSo_3 (by decide) rfl
theorem s199_4 : sm_at C X 199 4 [l0, l1, some (.int x0)] st N I L P = sm_at C X 199 5 [l0, l1, some (.int x0)] (.int x0 :: st) N I L P := st_go b199 dX11_isSo_4 (by decide) rfl
theorem s199_5 : sm_at C X 199 5 [some (.ref a), l1, l2] st N I L P = sm_at C X 199 6 [some (.ref a), l1, l2] (.ref a :: st) N I L P := st_go b199 dX11_isSo_5 (by decide) rfl
theorem s199_6 (h : a < N) (h1 : sm_lay a = .inl 11) : sm_at C X 199 6 ls (.ref a :: st) N I L P = sm_at C X 199 9 ls (.int (I a 21) :: st) N I L P := st_gfI b199 dX11_isSo_6 rfl rfl h h1
theorem s199_9 : sm_at C X 199 9 ls (.int x0 :: .int x1 :: st) N I L P = if x0 ≤ x1 then sm_at C X 199 58 ls st N I L P else sm_at C X 199 12 ls st N I L P := st_br b199 dX11_isSo_9 (by decide) rfl
theorem s199_12 : sm_at C X 199 12 [l0, some (.int x0), l2] st N I L P = sm_at C X 199 13 [l0, some (.int x0), l2] (.int x0 :: st) N I L P := st_go b199 dX11_isSo_12 (by decide) rfl
theorem s199_13 : sm_at C X 199 13 ls (.int x0 :: st) N I L P = if x0 = 0 then sm_at C X 199 50 ls st N I L P else sm_at C X 199 16 ls st N I L P := st_br b199 dX11_isSo_13 (by decide) rfl
theorem s199_16 : sm_at C X 199 16 [some (.ref a), l1, l2] st N I L P = sm_at C X 199 17 [some (.ref a), l1, l2] (.ref a :: st) N I L P := st_go b199 dX11_isSo_16 (by decide) rfl
theorem s199_17 (h : a < N) (h1 : sm_lay a = .inl 11) : sm_at C X 199 17 ls (.ref a :: st) N I L P = sm_at C X 199 20 ls (va_rf (P a 22) :: st) N I L P := st_gfR b199 dX11_isSo_17 rfl rfl h h1
theorem s199_20 : sm_at C X 199 20 ls st N I L P = sm_at C X 199 21 ls (.int (nI 2) :: st) N I L P := st_go b199 dX11_isSo_20 (by decide) rfl
theorem s199_21 : sm_at C X 199 21 [l0, l1, some (.int x0)] st N I L P = sm_at C X 199 22 [l0, l1, some (.int x0)] (.int x0 :: st) N I L P := st_go b199 dX11_isSo_21 (by decide) rfl
theorem s199_22 : sm_at C X 199 22 ls (.int x0 :: .int x1 :: st) N I L P = sm_at C X 199 23 ls (.int (x1 * x0) :: st) N I L P := st_go b199 dX11_isSo_22 (by decide) rfl
theorem s199_23 : sm_at C X 199 23 ls st N I L P = sm_at C X 199 24 ls (.int (nI 1) :: st) N I L P := st_go b199 dX11_isSo_23 (by decide) rfl
theorem s199_24 : sm_at C X 199 24 ls (.int x0 :: .int x1 :: st) N I L P = sm_at C X 199 25 ls (.int (x1 + x0) :: st) N I L P := st_go b199 dX11_isSo_24 (by decide) rfl
theorem s199_25 (h : a < N) (h1 : k < sm_al a) : sm_at C X 199 25 ls (.int (nI k) :: .ref a :: st) N I L P = sm_at C X 199 26 ls (.int (I a k) :: st) N I L P := st_iald b199 dX11_isSo_25 h h1
theorem s199_26 : sm_at C X 199 26 [some (.ref a), l1, l2] st N I L P = sm_at C X 199 27 [some (.ref a), l1, l2] (.ref a :: st) N I L P := st_go b199 dX11_isSo_26 (by decide) rfl
theorem s199_27 (h : a < N) (h1 : sm_lay a = .inl 11) : sm_at C X 199 27 ls (.ref a :: st) N I L P = sm_at C X 199 30 ls (va_rf (P a 23) :: st) N I L P := st_gfR b199 dX11_isSo_27 rfl rfl h h1
theorem s199_30 : sm_at C X 199 30 [some (.ref a), l1, l2] st N I L P = sm_at C X 199 31 [some (.ref a), l1, l2] (.ref a :: st) N I L P := st_go b199 dX11_isSo_30 (by decide) rfl
theorem s199_31 (h : a < N) (h1 : sm_lay a = .inl 11) : sm_at C X 199 31 ls (.ref a :: st) N I L P = sm_at C X 199 34 ls (va_rf (P a 22) :: st) N I L P := st_gfR b199 dX11_isSo_31 rfl rfl h h1
theorem s199_34 : sm_at C X 199 34 ls st N I L P = sm_at C X 199 35 ls (.int (nI 2) :: st) N I L P := st_go b199 dX11_isSo_34 (by decide) rfl
theorem s199_35 : sm_at C X 199 35 [l0, l1, some (.int x0)] st N I L P = sm_at C X 199 36 [l0, l1, some (.int x0)] (.int x0 :: st) N I L P := st_go b199 dX11_isSo_35 (by decide) rfl
theorem s199_36 : sm_at C X 199 36 ls (.int x0 :: .int x1 :: st) N I L P = sm_at C X 199 37 ls (.int (x1 * x0) :: st) N I L P := st_go b199 dX11_isSo_36 (by decide) rfl
theorem s199_37 (h : a < N) (h1 : k < sm_al a) : sm_at C X 199 37 ls (.int (nI k) :: .ref a :: st) N I L P = sm_at C X 199 38 ls (.int (I a k) :: st) N I L P := st_iald b199 dX11_isSo_37 h h1
theorem s199_38 (h : a < N) (h1 : k < sm_al a) : sm_at C X 199 38 ls (.int (nI k) :: .ref a :: st) N I L P = sm_at C X 199 39 ls (.int (I a k) :: st) N I L P := st_iald b199 dX11_isSo_38 h h1
theorem s199_39 : sm_at C X 199 39 ls (.int x0 :: .int x1 :: st) N I L P = sm_at C X 199 40 ls (.int (x1 >>> (x0 &&& 31)) :: st) N I L P := st_go b199 dX11_isSo_39 (by decide) rfl
theorem s199_40 : sm_at C X 199 40 ls st N I L P = sm_at C X 199 41 ls (.int (nI 1) :: st) N I L P := st_go b199 dX11_isSo_40 (by decide) rfl
theorem s199_41 : sm_at C X 199 41 ls (.int x0 :: .int x1 :: st) N I L P = sm_at C X 199 42 ls (.int (x1 &&& x0) :: st) N I L P := st_go b199 dX11_isSo_41 (by decide) rfl
theorem s199_42 : sm_at C X 199 42 ls st N I L P = sm_at C X 199 43 ls (.int (nI 1) :: st) N I L P := st_go b199 dX11_isSo_42 (by decide) rfl
theorem s199_43 : sm_at C X 199 43 ls (.int x0 :: .int x1 :: st) N I L P = if ¬ x1 = x0 then sm_at C X 199 50 ls st N I L P else sm_at C X 199 46 ls st N I L P := st_br b199 dX11_isSo_43 (by decide) rfl
theorem s199_46 : sm_at C X 199 46 ls st N I L P = sm_at C X 199 47 ls (.int (nI 1) :: st) N I L P := st_go b199 dX11_isSo_46 (by decide) rfl
theorem s199_47 : sm_at C X 199 47 ls st N I L P = sm_at C X 199 51 ls st N I L P := st_go b199 dX11_isSo_47 (by decide) rfl
theorem s199_50 : sm_at C X 199 50 ls st N I L P = sm_at C X 199 51 ls (.int (nI 0) :: st) N I L P := st_go b199 dX11_isSo_50 (by decide) rfl
theorem s199_51 : sm_at C X 199 51 [l0, l1, l2] (.int x0 :: st) N I L P = sm_at C X 199 52 [sm_cl l0, some (.int x0), l2] st N I L P := st_go b199 dX11_isSo_51 (by decide) rfl
theorem s199_52 : sm_at C X 199 52 [l0, l1, some (.int x0)] st N I L P = sm_at C X 199 55 [l0, sm_cl l1, some (.int (x0 + (nI 1)))] st N I L P := st_go b199 dX11_isSo_52 (by decide) rfl
theorem s199_55 : sm_at C X 199 55 ls st N I L P = sm_at C X 199 4 ls st N I L P := st_go b199 dX11_isSo_55 (by decide) rfl
theorem s199_58 : sm_at C X 199 58 [l0, some (.int x0), l2] st N I L P = sm_at C X 199 59 [l0, some (.int x0), l2] (.int x0 :: st) N I L P := st_go b199 dX11_isSo_58 (by decide) rfl
theorem s199_59 (h : x0 = 0 ∨ x0 = 1) : sm_at C X 199 59 ls [.int x0] N I L P = some (some (.int x0), N, I, L, P) := st_zret b199 dX11_isSo_59 rfl h
theorem b200 : sm_b 200 = cX11_pairingsOf := rfl
theorem s200_0 : sm_at C X 200 0 [some (.ref a), l1, l2, l3, l4] st N I L P = sm_at C X 200 1 [some (.ref a), l1, l2, l3, l4] (.ref a :: st) N I L P := st_go b200 dX11_pairingsOf_0 (by decide) rfl
theorem s200_1 (h : a < N) (h1 : sm_lay a = .inl 11) : sm_at C X 200 1 ls (.ref a :: st) N I L P = sm_at C X 200 4 ls (.int (I a 19) :: st) N I L P := st_gfI b200 dX11_pairingsOf_1 rfl rfl h h1
theorem s200_4 : sm_at C X 200 4 ls st N I L P = sm_at C X 200 5 ls (.int (nI 2) :: st) N I L P := st_go b200 dX11_pairingsOf_4 (by decide) rfl
theorem s200_5 : sm_at C X 200 5 ls (.int x0 :: .int x1 :: st) N I L P = if ¬ x1 = x0 then sm_at C X 200 12 ls st N I L P else sm_at C X 200 8 ls st N I L P := st_br b200 dX11_pairingsOf_5 (by decide) rfl
theorem s200_8 : sm_at C X 200 8 ls st N I L P = sm_at C X 200 9 ls (.int (nI 1) :: st) N I L P := st_go b200 dX11_pairingsOf_8 (by decide) rfl
theorem s200_9 : sm_at C X 200 9 ls st N I L P = sm_at C X 200 40 ls st N I L P := st_go b200 dX11_pairingsOf_9 (by decide) rfl
theorem s200_12 : sm_at C X 200 12 [some (.ref a), l1, l2, l3, l4] st N I L P = sm_at C X 200 13 [some (.ref a), l1, l2, l3, l4] (.ref a :: st) N I L P := st_go b200 dX11_pairingsOf_12 (by decide) rfl
theorem s200_13 (h : a < N) (h1 : sm_lay a = .inl 11) : sm_at C X 200 13 ls (.ref a :: st) N I L P = sm_at C X 200 16 ls (.int (I a 19) :: st) N I L P := st_gfI b200 dX11_pairingsOf_13 rfl rfl h h1
theorem s200_16 : sm_at C X 200 16 ls st N I L P = sm_at C X 200 17 ls (.int (nI 4) :: st) N I L P := st_go b200 dX11_pairingsOf_16 (by decide) rfl
theorem s200_17 : sm_at C X 200 17 ls (.int x0 :: .int x1 :: st) N I L P = if ¬ x1 = x0 then sm_at C X 200 24 ls st N I L P else sm_at C X 200 20 ls st N I L P := st_br b200 dX11_pairingsOf_17 (by decide) rfl
theorem s200_20 : sm_at C X 200 20 ls st N I L P = sm_at C X 200 21 ls (.int (nI 3) :: st) N I L P := st_go b200 dX11_pairingsOf_20 (by decide) rfl
theorem s200_21 : sm_at C X 200 21 ls st N I L P = sm_at C X 200 40 ls st N I L P := st_go b200 dX11_pairingsOf_21 (by decide) rfl
theorem s200_24 : sm_at C X 200 24 [some (.ref a), l1, l2, l3, l4] st N I L P = sm_at C X 200 25 [some (.ref a), l1, l2, l3, l4] (.ref a :: st) N I L P := st_go b200 dX11_pairingsOf_24 (by decide) rfl
theorem s200_25 (h : a < N) (h1 : sm_lay a = .inl 11) : sm_at C X 200 25 ls (.ref a :: st) N I L P = sm_at C X 200 28 ls (.int (I a 19) :: st) N I L P := st_gfI b200 dX11_pairingsOf_25 rfl rfl h h1
theorem s200_28 : sm_at C X 200 28 ls st N I L P = sm_at C X 200 30 ls (.int (nI 6) :: st) N I L P := st_go b200 dX11_pairingsOf_28 (by decide) rfl
theorem s200_30 : sm_at C X 200 30 ls (.int x0 :: .int x1 :: st) N I L P = if ¬ x1 = x0 then sm_at C X 200 38 ls st N I L P else sm_at C X 200 33 ls st N I L P := st_br b200 dX11_pairingsOf_30 (by decide) rfl
theorem s200_33 : sm_at C X 200 33 ls st N I L P = sm_at C X 200 35 ls (.int (nI 15) :: st) N I L P := st_go b200 dX11_pairingsOf_33 (by decide) rfl
theorem s200_35 : sm_at C X 200 35 ls st N I L P = sm_at C X 200 40 ls st N I L P := st_go b200 dX11_pairingsOf_35 (by decide) rfl
theorem s200_38 : sm_at C X 200 38 ls st N I L P = sm_at C X 200 40 ls (.int (nI 105) :: st) N I L P := st_go b200 dX11_pairingsOf_38 (by decide) rfl
theorem s200_40 : sm_at C X 200 40 [l0, l1, l2, l3, l4] (.int x0 :: st) N I L P = sm_at C X 200 41 [sm_cl l0, some (.int x0), l2, l3, l4] st N I L P := st_go b200 dX11_pairingsOf_40 (by decide) rfl
theorem s200_41 : sm_at C X 200 41 ls st N I L P = sm_at C X 200 42 ls (.int (nI 0) :: st) N I L P := st_go b200 dX11_pairingsOf_41 (by decide) rfl
theorem s200_42 : sm_at C X 200 42 [l0, l1, l2, l3, l4] (.int x0 :: st) N I L P = sm_at C X 200 43 [l0, sm_cl l1, some (.int x0), l3, l4] st N I L P := st_go b200 dX11_pairingsOf_42 (by decide) rfl
theorem s200_43 : sm_at C X 200 43 [l0, l1, some (.int x0), l3, l4] st N I L P = sm_at C X 200 44 [l0, l1, some (.int x0), l3, l4] (.int x0 :: st) N I L P := st_go b200 dX11_pairingsOf_43 (by decide) rfl
theorem s200_44 : sm_at C X 200 44 ls st N I L P = sm_at C X 200 46 ls (.int (nI 8) :: st) N I L P := st_go b200 dX11_pairingsOf_44 (by decide) rfl
theorem s200_46 : sm_at C X 200 46 ls (.int x0 :: .int x1 :: st) N I L P = if x0 ≤ x1 then sm_at C X 200 62 ls st N I L P else sm_at C X 200 49 ls st N I L P := st_br b200 dX11_pairingsOf_46 (by decide) rfl
theorem s200_49 : sm_at C X 200 49 [some (.ref a), l1, l2, l3, l4] st N I L P = sm_at C X 200 50 [some (.ref a), l1, l2, l3, l4] (.ref a :: st) N I L P := st_go b200 dX11_pairingsOf_49 (by decide) rfl
theorem s200_50 (h : a < N) (h1 : sm_lay a = .inl 11) : sm_at C X 200 50 ls (.ref a :: st) N I L P = sm_at C X 200 53 ls (va_rf (P a 24) :: st) N I L P := st_gfR b200 dX11_pairingsOf_50 rfl rfl h h1
theorem s200_53 : sm_at C X 200 53 [l0, l1, some (.int x0), l3, l4] st N I L P = sm_at C X 200 54 [l0, l1, some (.int x0), l3, l4] (.int x0 :: st) N I L P := st_go b200 dX11_pairingsOf_53 (by decide) rfl
theorem s200_54 : sm_at C X 200 54 ls st N I L P = sm_at C X 200 55 ls (.int (nI 0) :: st) N I L P := st_go b200 dX11_pairingsOf_54 (by decide) rfl
theorem s200_55 (h : a < N) (h1 : k < sm_al a) : sm_at C X 200 55 ls (.int x0 :: .int (nI k) :: .ref a :: st) N I L P = sm_at C X 200 56 ls st N (sm_up I a k x0) L P := st_iast b200 dX11_pairingsOf_55 h h1
theorem s200_56 : sm_at C X 200 56 [l0, l1, some (.int x0), l3, l4] st N I L P = sm_at C X 200 59 [l0, sm_cl l1, some (.int (x0 + (nI 1))), l3, l4] st N I L P := st_go b200 dX11_pairingsOf_56 (by decide) rfl
theorem s200_59 : sm_at C X 200 59 ls st N I L P = sm_at C X 200 43 ls st N I L P := st_go b200 dX11_pairingsOf_59 (by decide) rfl
theorem s200_62 : sm_at C X 200 62 ls st N I L P = sm_at C X 200 63 ls (.int (nI 0) :: st) N I L P := st_go b200 dX11_pairingsOf_62 (by decide) rfl
theorem s200_63 : sm_at C X 200 63 [l0, l1, l2, l3, l4] (.int x0 :: st) N I L P = sm_at C X 200 64 [l0, sm_cl l1, some (.int x0), l3, l4] st N I L P := st_go b200 dX11_pairingsOf_63 (by decide) rfl
theorem s200_64 : sm_at C X 200 64 ls st N I L P = sm_at C X 200 65 ls (.int (nI 0) :: st) N I L P := st_go b200 dX11_pairingsOf_64 (by decide) rfl
theorem s200_65 : sm_at C X 200 65 [l0, l1, l2, l3, l4] (.int x0 :: st) N I L P = sm_at C X 200 66 [l0, l1, sm_cl l2, some (.int x0), l4] st N I L P := st_go b200 dX11_pairingsOf_65 (by decide) rfl
theorem s200_66 : sm_at C X 200 66 [l0, l1, l2, some (.int x0), l4] st N I L P = sm_at C X 200 67 [l0, l1, l2, some (.int x0), l4] (.int x0 :: st) N I L P := st_go b200 dX11_pairingsOf_66 (by decide) rfl
theorem s200_67 : sm_at C X 200 67 [l0, some (.int x0), l2, l3, l4] st N I L P = sm_at C X 200 68 [l0, some (.int x0), l2, l3, l4] (.int x0 :: st) N I L P := st_go b200 dX11_pairingsOf_67 (by decide) rfl
theorem s200_68 : sm_at C X 200 68 ls (.int x0 :: .int x1 :: st) N I L P = if x0 ≤ x1 then sm_at C X 200 129 ls st N I L P else sm_at C X 200 71 ls st N I L P := st_br b200 dX11_pairingsOf_68 (by decide) rfl
theorem s200_71 : sm_at C X 200 71 [some (.ref a), l1, l2, l3, l4] st N I L P = sm_at C X 200 72 [some (.ref a), l1, l2, l3, l4] (.ref a :: st) N I L P := st_go b200 dX11_pairingsOf_71 (by decide) rfl
theorem s200_72 : sm_at C X 200 72 [l0, l1, l2, some (.int x0), l4] st N I L P = sm_at C X 200 73 [l0, l1, l2, some (.int x0), l4] (.int x0 :: st) N I L P := st_go b200 dX11_pairingsOf_72 (by decide) rfl
theorem s200_73 (h : a < N) (h1 : sm_lay a = .inl 11) : sm_at C X 200 73 ls [w1, .ref a] N I L P = sm_af C X 200 76 ls [] (C 198 [.ref a, w1] N I L P) := st_virt b200 dX11_pairingsOf_73 (n := 2) (rest := []) rfl rfl rfl rfl rfl rfl rfl h h1
theorem s200_76 : sm_at C X 200 76 [some (.ref a), l1, l2, l3, l4] st N I L P = sm_at C X 200 77 [some (.ref a), l1, l2, l3, l4] (.ref a :: st) N I L P := st_go b200 dX11_pairingsOf_76 (by decide) rfl
theorem s200_77 (h : a < N) (h1 : sm_lay a = .inl 11) : sm_at C X 200 77 ls [.ref a] N I L P = sm_af C X 200 80 ls [] (C 199 [.ref a] N I L P) := st_virt b200 dX11_pairingsOf_77 (n := 1) (rest := []) rfl rfl rfl rfl rfl rfl rfl h h1
theorem s200_80 : sm_at C X 200 80 ls (.int x0 :: st) N I L P = if x0 = 0 then sm_at C X 200 123 ls st N I L P else sm_at C X 200 83 ls st N I L P := st_br b200 dX11_pairingsOf_80 (by decide) rfl
theorem s200_83 : sm_at C X 200 83 [l0, l1, some (.int x0), l3, l4] st N I L P = sm_at C X 200 86 [l0, sm_cl l1, some (.int (x0 + (nI 1))), l3, l4] st N I L P := st_go b200 dX11_pairingsOf_83 (by decide) rfl
theorem s200_86 : sm_at C X 200 86 ls st N I L P = sm_at C X 200 87 ls (.int (nI 0) :: st) N I L P := st_go b200 dX11_pairingsOf_86 (by decide) rfl
theorem s200_87 : sm_at C X 200 87 [l0, l1, l2, l3, l4] (.int x0 :: st) N I L P = sm_at C X 200 89 [l0, l1, l2, sm_cl l3, some (.int x0)] st N I L P := st_go b200 dX11_pairingsOf_87 (by decide) rfl
theorem s200_89 : sm_at C X 200 89 [l0, l1, l2, l3, some (.int x0)] st N I L P = sm_at C X 200 91 [l0, l1, l2, l3, some (.int x0)] (.int x0 :: st) N I L P := st_go b200 dX11_pairingsOf_89 (by decide) rfl
theorem s200_91 : sm_at C X 200 91 [some (.ref a), l1, l2, l3, l4] st N I L P = sm_at C X 200 92 [some (.ref a), l1, l2, l3, l4] (.ref a :: st) N I L P := st_go b200 dX11_pairingsOf_91 (by decide) rfl
theorem s200_92 (h : a < N) (h1 : sm_lay a = .inl 11) : sm_at C X 200 92 ls (.ref a :: st) N I L P = sm_at C X 200 95 ls (.int (I a 19) :: st) N I L P := st_gfI b200 dX11_pairingsOf_92 rfl rfl h h1
theorem s200_95 : sm_at C X 200 95 ls (.int x0 :: .int x1 :: st) N I L P = if x0 ≤ x1 then sm_at C X 200 123 ls st N I L P else sm_at C X 200 98 ls st N I L P := st_br b200 dX11_pairingsOf_95 (by decide) rfl
theorem s200_98 : sm_at C X 200 98 [some (.ref a), l1, l2, l3, l4] st N I L P = sm_at C X 200 99 [some (.ref a), l1, l2, l3, l4] (.ref a :: st) N I L P := st_go b200 dX11_pairingsOf_98 (by decide) rfl
theorem s200_99 (h : a < N) (h1 : sm_lay a = .inl 11) : sm_at C X 200 99 ls (.ref a :: st) N I L P = sm_at C X 200 102 ls (va_rf (P a 24) :: st) N I L P := st_gfR b200 dX11_pairingsOf_99 rfl rfl h h1
theorem s200_102 : sm_at C X 200 102 [l0, l1, l2, l3, some (.int x0)] st N I L P = sm_at C X 200 104 [l0, l1, l2, l3, some (.int x0)] (.int x0 :: st) N I L P := st_go b200 dX11_pairingsOf_102 (by decide) rfl
theorem s200_104 : sm_at C X 200 104 ls (.int x0 :: .ref a :: st) N I L P = sm_at C X 200 105 ls (.int x0 :: .ref a :: .int x0 :: .ref a :: st) N I L P := st_go b200 dX11_pairingsOf_104 (by decide) rfl
theorem s200_105 (h : a < N) (h1 : k < sm_al a) : sm_at C X 200 105 ls (.int (nI k) :: .ref a :: st) N I L P = sm_at C X 200 106 ls (.int (I a k) :: st) N I L P := st_iald b200 dX11_pairingsOf_105 h h1
theorem s200_106 : sm_at C X 200 106 ls st N I L P = sm_at C X 200 107 ls (.int (nI 1) :: st) N I L P := st_go b200 dX11_pairingsOf_106 (by decide) rfl
theorem s200_107 : sm_at C X 200 107 [some (.ref a), l1, l2, l3, l4] st N I L P = sm_at C X 200 108 [some (.ref a), l1, l2, l3, l4] (.ref a :: st) N I L P := st_go b200 dX11_pairingsOf_107 (by decide) rfl
theorem s200_108 (h : a < N) (h1 : sm_lay a = .inl 11) : sm_at C X 200 108 ls (.ref a :: st) N I L P = sm_at C X 200 111 ls (va_rf (P a 23) :: st) N I L P := st_gfR b200 dX11_pairingsOf_108 rfl rfl h h1
theorem s200_111 : sm_at C X 200 111 [l0, l1, l2, l3, some (.int x0)] st N I L P = sm_at C X 200 113 [l0, l1, l2, l3, some (.int x0)] (.int x0 :: st) N I L P := st_go b200 dX11_pairingsOf_111 (by decide) rfl
theorem s200_113 (h : a < N) (h1 : k < sm_al a) : sm_at C X 200 113 ls (.int (nI k) :: .ref a :: st) N I L P = sm_at C X 200 114 ls (.int (I a k) :: st) N I L P := st_iald b200 dX11_pairingsOf_113 h h1
theorem s200_114 : sm_at C X 200 114 ls (.int x0 :: .int x1 :: st) N I L P = sm_at C X 200 115 ls (.int (x1 <<< (x0 &&& 31)) :: st) N I L P := st_go b200 dX11_pairingsOf_114 (by decide) rfl
theorem s200_115 : sm_at C X 200 115 ls (.int x0 :: .int x1 :: st) N I L P = sm_at C X 200 116 ls (.int (x1 ||| x0) :: st) N I L P := st_go b200 dX11_pairingsOf_115 (by decide) rfl
theorem s200_116 (h : a < N) (h1 : k < sm_al a) : sm_at C X 200 116 ls (.int x0 :: .int (nI k) :: .ref a :: st) N I L P = sm_at C X 200 117 ls st N (sm_up I a k x0) L P := st_iast b200 dX11_pairingsOf_116 h h1
theorem s200_117 : sm_at C X 200 117 [l0, l1, l2, l3, some (.int x0)] st N I L P = sm_at C X 200 120 [l0, l1, l2, sm_cl l3, some (.int (x0 + (nI 1)))] st N I L P := st_go b200 dX11_pairingsOf_117 (by decide) rfl
theorem s200_120 : sm_at C X 200 120 ls st N I L P = sm_at C X 200 89 ls st N I L P := st_go b200 dX11_pairingsOf_120 (by decide) rfl
theorem s200_123 : sm_at C X 200 123 [l0, l1, l2, some (.int x0), l4] st N I L P = sm_at C X 200 126 [l0, l1, sm_cl l2, some (.int (x0 + (nI 1))), l4] st N I L P := st_go b200 dX11_pairingsOf_123 (by decide) rfl
theorem s200_126 : sm_at C X 200 126 ls st N I L P = sm_at C X 200 66 ls st N I L P := st_go b200 dX11_pairingsOf_126 (by decide) rfl
theorem s200_129 : sm_at C X 200 129 [l0, l1, some (.int x0), l3, l4] st N I L P = sm_at C X 200 130 [l0, l1, some (.int x0), l3, l4] (.int x0 :: st) N I L P := st_go b200 dX11_pairingsOf_129 (by decide) rfl
theorem s200_130 : sm_at C X 200 130 ls [.int x0] N I L P = some (some (.int x0), N, I, L, P) := st_iret b200 dX11_pairingsOf_130 rfl
theorem b201 : sm_b 201 = cX11_pairings := rfl
theorem s201_0 : sm_at C X 201 0 [some (.ref a)] st N I L P = sm_at C X 201 1 [some (.ref a)] (.ref a :: st) N I L P := st_go b201 dX11_pairings_0 (by decide) rfl
theorem s201_1 (h : a < N) (h1 : sm_lay a = .inl 11) : sm_at C X 201 1 ls [.ref a] N I L P = sm_af C X 201 4 ls [] (C 200 [.ref a] N I L P) := st_virt b201 dX11_pairings_1 (n := 1) (rest := []) rfl rfl rfl rfl rfl rfl rfl h h1
theorem s201_4 : sm_at C X 201 4 ls [.int x0] N I L P = some (some (.int x0), N, I, L, P) := st_iret b201 dX11_pairings_4 rfl
theorem b202 : sm_b 202 = cX11_twinNow := rfl
theorem s202_0 : sm_at C X 202 0 ls st N I L P = sm_at C X 202 1 ls (.int (-1) :: st) N I L P := st_go b202 dX11_twinNow_0 (by decide) rfl
theorem s202_1 : sm_at C X 202 1 [l0, l1, l2, l3] (.int x0 :: st) N I L P = sm_at C X 202 2 [l0, sm_cl l1, some (.int x0), l3] st N I L P := st_go b202 dX11_twinNow_1 (by decide) rfl
theorem s202_2 : sm_at C X 202 2 ls st N I L P = sm_at C X 202 3 ls (.int (nI 0) :: st) N I L P := st_go b202 dX11_twinNow_2 (by decide) rfl
theorem s202_3 : sm_at C X 202 3 [l0, l1, l2, l3] (.int x0 :: st) N I L P = sm_at C X 202 4 [l0, l1, sm_cl l2, some (.int x0)] st N I L P := st_go b202 dX11_twinNow_3 (by decide) rfl
theorem s202_4 : sm_at C X 202 4 [l0, l1, l2, some (.int x0)] st N I L P = sm_at C X 202 5 [l0, l1, l2, some (.int x0)] (.int x0 :: st) N I L P := st_go b202 dX11_twinNow_4 (by decide) rfl
theorem s202_5 : sm_at C X 202 5 [some (.ref a), l1, l2, l3] st N I L P = sm_at C X 202 6 [some (.ref a), l1, l2, l3] (.ref a :: st) N I L P := st_go b202 dX11_twinNow_5 (by decide) rfl
theorem s202_6 (h : a < N) (h1 : sm_lay a = .inl 11) : sm_at C X 202 6 ls (.ref a :: st) N I L P = sm_at C X 202 9 ls (.int (I a 19) :: st) N I L P := st_gfI b202 dX11_twinNow_6 rfl rfl h h1
theorem s202_9 : sm_at C X 202 9 ls (.int x0 :: .int x1 :: st) N I L P = if x0 ≤ x1 then sm_at C X 202 36 ls st N I L P else sm_at C X 202 12 ls st N I L P := st_br b202 dX11_twinNow_9 (by decide) rfl
theorem s202_12 : sm_at C X 202 12 [some (.ref a), l1, l2, l3] st N I L P = sm_at C X 202 13 [some (.ref a), l1, l2, l3] (.ref a :: st) N I L P := st_go b202 dX11_twinNow_12 (by decide) rfl
theorem s202_13 (h : a < N) (h1 : sm_lay a = .inl 11) : sm_at C X 202 13 ls (.ref a :: st) N I L P = sm_at C X 202 16 ls (va_rf (P a 24) :: st) N I L P := st_gfR b202 dX11_twinNow_13 rfl rfl h h1
theorem s202_16 : sm_at C X 202 16 [l0, some (.int x0), l2, l3] st N I L P = sm_at C X 202 17 [l0, some (.int x0), l2, l3] (.int x0 :: st) N I L P := st_go b202 dX11_twinNow_16 (by decide) rfl
theorem s202_17 (h : a < N) (h1 : k < sm_al a) : sm_at C X 202 17 ls (.int (nI k) :: .ref a :: st) N I L P = sm_at C X 202 18 ls (.int (I a k) :: st) N I L P := st_iald b202 dX11_twinNow_17 h h1
theorem s202_18 : sm_at C X 202 18 ls st N I L P = sm_at C X 202 19 ls (.int (nI 1) :: st) N I L P := st_go b202 dX11_twinNow_18 (by decide) rfl
theorem s202_19 : sm_at C X 202 19 [l0, l1, l2, some (.int x0)] st N I L P = sm_at C X 202 20 [l0, l1, l2, some (.int x0)] (.int x0 :: st) N I L P := st_go b202 dX11_twinNow_19 (by decide) rfl
theorem s202_20 : sm_at C X 202 20 ls (.int x0 :: .int x1 :: st) N I L P = sm_at C X 202 21 ls (.int (x1 <<< (x0 &&& 31)) :: st) N I L P := st_go b202 dX11_twinNow_20 (by decide) rfl
theorem s202_21 : sm_at C X 202 21 ls (.int x0 :: .int x1 :: st) N I L P = if ¬ x1 = x0 then sm_at C X 202 28 ls st N I L P else sm_at C X 202 24 ls st N I L P := st_br b202 dX11_twinNow_21 (by decide) rfl
theorem s202_24 : sm_at C X 202 24 [l0, l1, l2, some (.int x0)] st N I L P = sm_at C X 202 25 [l0, l1, l2, some (.int x0)] (.int x0 :: st) N I L P := st_go b202 dX11_twinNow_24 (by decide) rfl
theorem s202_25 : sm_at C X 202 25 ls st N I L P = sm_at C X 202 29 ls st N I L P := st_go b202 dX11_twinNow_25 (by decide) rfl
theorem s202_28 : sm_at C X 202 28 [l0, l1, some (.int x0), l3] st N I L P = sm_at C X 202 29 [l0, l1, some (.int x0), l3] (.int x0 :: st) N I L P := st_go b202 dX11_twinNow_28 (by decide) rfl
theorem s202_29 : sm_at C X 202 29 [l0, l1, l2, l3] (.int x0 :: st) N I L P = sm_at C X 202 30 [l0, sm_cl l1, some (.int x0), l3] st N I L P := st_go b202 dX11_twinNow_29 (by decide) rfl
theorem s202_30 : sm_at C X 202 30 [l0, l1, l2, some (.int x0)] st N I L P = sm_at C X 202 33 [l0, l1, sm_cl l2, some (.int (x0 + (nI 1)))] st N I L P := st_go b202 dX11_twinNow_30 (by decide) rfl
theorem s202_33 : sm_at C X 202 33 ls st N I L P = sm_at C X 202 4 ls st N I L P := st_go b202 dX11_twinNow_33 (by decide) rfl
theorem s202_36 : sm_at C X 202 36 [l0, l1, some (.int x0), l3] st N I L P = sm_at C X 202 37 [l0, l1, some (.int x0), l3] (.int x0 :: st) N I L P := st_go b202 dX11_twinNow_36 (by decide) rfl
theorem s202_37 : sm_at C X 202 37 ls [.int x0] N I L P = some (some (.int x0), N, I, L, P) := st_iret b202 dX11_twinNow_37 rfl
theorem b203 : sm_b 203 = cX11_twin := rfl
theorem s203_0 : sm_at C X 203 0 [l0, some (.int x0), l2] st N I L P = sm_at C X 203 1 [l0, some (.int x0), l2] (.int x0 :: st) N I L P := st_go b203 dX11_twin_0 (by decide) rfl
theorem s203_1 : sm_at C X 203 1 ls (.int x0 :: st) N I L P = sm_at C X 203 2 ls (.long x0.toInt64 :: st) N I L P := st_go b203 dX11_twin_1 (by decide) rfl
theorem s203_2 : sm_at C X 203 2 ls st N I L P = sm_at C X 203 3 ls (.long (lN 0) :: st) N I L P := st_go b203 dX11_twin_2 (by decide) rfl
theorem s203_3 : sm_at C X 203 3 [some (.ref a), l1, l2] st N I L P = sm_at C X 203 4 [some (.ref a), l1, l2] (.ref a :: st) N I L P := st_go b203 dX11_twin_3 (by decide) rfl
theorem s203_4 (h : a < N) (h1 : sm_lay a = .inl 11) : sm_at C X 203 4 ls (.ref a :: st) N I L P = sm_at C X 203 7 ls (.int (I a 19) :: st) N I L P := st_gfI b203 dX11_twin_4 rfl rfl h h1
theorem s203_7 : sm_at C X 203 7 ls st N I L P = sm_at C X 203 8 ls (.int (nI 1) :: st) N I L P := st_go b203 dX11_twin_7 (by decide) rfl
theorem s203_8 : sm_at C X 203 8 ls (.int x0 :: .int x1 :: st) N I L P = sm_at C X 203 9 ls (.int (x1 - x0) :: st) N I L P := st_go b203 dX11_twin_8 (by decide) rfl
theorem s203_9 : sm_at C X 203 9 ls (.int x0 :: st) N I L P = sm_at C X 203 10 ls (.long x0.toInt64 :: st) N I L P := st_go b203 dX11_twin_9 (by decide) rfl
theorem s203_10 : sm_at C X 203 10 ls [w2, w1, w0] N I L P = sm_af C X 203 13 ls [] (C 146 [w0, w1, w2] N I L P) := st_stat b203 dX11_twin_10 (n := 3) (rest := []) rfl rfl rfl rfl rfl rfl
theorem s203_13 : sm_at C X 203 13 ls (.int x0 :: st) N I L P = if ¬ x0 = 0 then sm_at C X 203 19 ls st N I L P else sm_at C X 203 16 ls st N I L P := st_br b203 dX11_twin_13 (by decide) rfl
theorem s203_16 : sm_at C X 203 16 ls st N I L P = sm_at C X 203 18 ls (.int (-101) :: st) N I L P := st_go b203 dX11_twin_16 (by decide) rfl
theorem s203_18 : sm_at C X 203 18 ls [.int x0] N I L P = some (some (.int x0), N, I, L, P) := st_iret b203 dX11_twin_18 rfl
theorem s203_19 : sm_at C X 203 19 [some (.ref a), l1, l2] st N I L P = sm_at C X 203 20 [some (.ref a), l1, l2] (.ref a :: st) N I L P := st_go b203 dX11_twin_19 (by decide) rfl
theorem s203_20 (h : a < N) (h1 : sm_lay a = .inl 11) : sm_at C X 203 20 ls [.ref a] N I L P = sm_af C X 203 23 ls [] (C 200 [.ref a] N I L P) := st_virt b203 dX11_twin_20 (n := 1) (rest := []) rfl rfl rfl rfl rfl rfl rfl h h1
theorem s203_23 : sm_at C X 203 23 [l0, l1, l2] (.int x0 :: st) N I L P = sm_at C X 203 24 [l0, sm_cl l1, some (.int x0)] st N I L P := st_go b203 dX11_twin_23 (by decide) rfl
theorem s203_24 : sm_at C X 203 24 [some (.ref a), l1, l2] st N I L P = sm_at C X 203 25 [some (.ref a), l1, l2] (.ref a :: st) N I L P := st_go b203 dX11_twin_24 (by decide) rfl
theorem s203_25 : sm_at C X 203 25 [l0, some (.int x0), l2] st N I L P = sm_at C X 203 26 [l0, some (.int x0), l2] (.int x0 :: st) N I L P := st_go b203 dX11_twin_25 (by decide) rfl
theorem s203_26 (h : a < N) (h1 : sm_lay a = .inl 11) : sm_at C X 203 26 ls [w1, .ref a] N I L P = sm_af C X 203 29 ls [] (C 202 [.ref a, w1] N I L P) := st_virt b203 dX11_twin_26 (n := 2) (rest := []) rfl rfl rfl rfl rfl rfl rfl h h1
theorem s203_29 : sm_at C X 203 29 ls [.int x0] N I L P = some (some (.int x0), N, I, L, P) := st_iret b203 dX11_twin_29 rfl
theorem b204 : sm_b 204 = cX11_round := rfl
theorem s204_0 : sm_at C X 204 0 [l0, some (.int x0), l2, l3, l4, l5, l6, l7, l8] st N I L P = sm_at C X 204 1 [l0, some (.int x0), l2, l3, l4, l5, l6, l7, l8] (.int x0 :: st) N I L P := st_go b204 dX11_round_0 (by decide) rfl
theorem s204_1 : sm_at C X 204 1 ls (.int x0 :: st) N I L P = sm_at C X 204 2 ls (.long x0.toInt64 :: st) N I L P := st_go b204 dX11_round_1 (by decide) rfl
theorem s204_2 : sm_at C X 204 2 ls st N I L P = sm_at C X 204 5 ls (.long (lN 2) :: st) N I L P := st_go b204 dX11_round_2 (by decide) rfl
theorem s204_5 : sm_at C X 204 5 ls st N I L P = sm_at C X 204 8 ls (.long (lN 9) :: st) N I L P := st_go b204 dX11_round_5 (by decide) rfl
theorem s204_8 : sm_at C X 204 8 ls [w2, w1, w0] N I L P = sm_af C X 204 11 ls [] (C 146 [w0, w1, w2] N I L P) := st_stat b204 dX11_round_8 (n := 3) (rest := []) rfl rfl rfl rfl rfl rfl
theorem s204_11 : sm_at C X 204 11 ls (.int x0 :: st) N I L P = if x0 = 0 then sm_at C X 204 33 ls st N I L P else sm_at C X 204 14 ls st N I L P := st_br b204 dX11_round_11 (by decide) rfl
theorem s204_14 : sm_at C X 204 14 [l0, l1, some (.int x0), l3, l4, l5, l6, l7, l8] st N I L P = sm_at C X 204 15 [l0, l1, some (.int x0), l3, l4, l5, l6, l7, l8] (.int x0 :: st) N I L P := st_go b204 dX11_round_14 (by decide) rfl
theorem s204_15 : sm_at C X 204 15 ls (.int x0 :: st) N I L P = sm_at C X 204 16 ls (.long x0.toInt64 :: st) N I L P := st_go b204 dX11_round_15 (by decide) rfl
theorem s204_16 : sm_at C X 204 16 ls st N I L P = sm_at C X 204 17 ls (.long (lN 0) :: st) N I L P := st_go b204 dX11_round_16 (by decide) rfl
theorem s204_17 : sm_at C X 204 17 ls st N I L P = sm_at C X 204 20 ls (.long (lN 9) :: st) N I L P := st_go b204 dX11_round_17 (by decide) rfl
theorem s204_20 : sm_at C X 204 20 ls [w2, w1, w0] N I L P = sm_af C X 204 23 ls [] (C 146 [w0, w1, w2] N I L P) := st_stat b204 dX11_round_20 (n := 3) (rest := []) rfl rfl rfl rfl rfl rfl
theorem s204_23 : sm_at C X 204 23 ls (.int x0 :: st) N I L P = if x0 = 0 then sm_at C X 204 33 ls st N I L P else sm_at C X 204 26 ls st N I L P := st_br b204 dX11_round_23 (by decide) rfl
theorem s204_26 : sm_at C X 204 26 [l0, l1, l2, some (.int x0), l4, l5, l6, l7, l8] st N I L P = sm_at C X 204 27 [l0, l1, l2, some (.int x0), l4, l5, l6, l7, l8] (.int x0 :: st) N I L P := st_go b204 dX11_round_26 (by decide) rfl
theorem s204_27 : sm_at C X 204 27 ls [w0] N I L P = sm_af C X 204 30 ls [] (C 172 [w0] N I L P) := st_stat b204 dX11_round_27 (n := 1) (rest := []) rfl rfl rfl rfl rfl rfl
theorem s204_30 : sm_at C X 204 30 ls (.int x0 :: st) N I L P = if ¬ x0 = 0 then sm_at C X 204 37 ls st N I L P else sm_at C X 204 33 ls st N I L P := st_br b204 dX11_round_30 (by decide) rfl
theorem s204_33 : sm_at C X 204 33 ls st N I L P = sm_at C X 204 36 ls (.long (-102) :: st) N I L P := st_go b204 dX11_round_33 (by decide) rfl
theorem s204_36 : sm_at C X 204 36 ls [.long z0] N I L P = some (some (.long z0), N, I, L, P) := st_ret b204 dX11_round_36 (by decide) rfl
theorem s204_37 : sm_at C X 204 37 ls st N I L P = sm_at C X 204 38 ls (.long (lN 1) :: st) N I L P := st_go b204 dX11_round_37 (by decide) rfl
theorem s204_38 : sm_at C X 204 38 [l0, l1, l2, l3, l4, l5, l6, l7, l8] (.long z0 :: st) N I L P = sm_at C X 204 40 [l0, l1, l2, sm_cl l3, some (.long z0), none, l6, l7, l8] st N I L P := st_go b204 dX11_round_38 (by decide) rfl
theorem s204_40 : sm_at C X 204 40 ls st N I L P = sm_at C X 204 41 ls (.long (lN 1) :: st) N I L P := st_go b204 dX11_round_40 (by decide) rfl
theorem s204_41 : sm_at C X 204 41 [l0, l1, l2, l3, l4, l5, l6, l7, l8] (.long z0 :: st) N I L P = sm_at C X 204 43 [l0, l1, l2, l3, l4, sm_cl l5, some (.long z0), none, l8] st N I L P := st_go b204 dX11_round_41 (by decide) rfl
theorem s204_43 : sm_at C X 204 43 ls st N I L P = sm_at C X 204 44 ls (.int (nI 1) :: st) N I L P := st_go b204 dX11_round_43 (by decide) rfl
theorem s204_44 : sm_at C X 204 44 [l0, l1, l2, l3, l4, l5, l6, l7, l8] (.int x0 :: st) N I L P = sm_at C X 204 46 [l0, l1, l2, l3, l4, l5, l6, sm_cl l7, some (.int x0)] st N I L P := st_go b204 dX11_round_44 (by decide) rfl
theorem s204_46 : sm_at C X 204 46 [l0, l1, l2, l3, l4, l5, l6, l7, some (.int x0)] st N I L P = sm_at C X 204 48 [l0, l1, l2, l3, l4, l5, l6, l7, some (.int x0)] (.int x0 :: st) N I L P := st_go b204 dX11_round_46 (by decide) rfl
theorem s204_48 : sm_at C X 204 48 [l0, some (.int x0), l2, l3, l4, l5, l6, l7, l8] st N I L P = sm_at C X 204 49 [l0, some (.int x0), l2, l3, l4, l5, l6, l7, l8] (.int x0 :: st) N I L P := st_go b204 dX11_round_48 (by decide) rfl
theorem s204_49 : sm_at C X 204 49 ls (.int x0 :: .int x1 :: st) N I L P = if x0 ≤ x1 then sm_at C X 204 73 ls st N I L P else sm_at C X 204 52 ls st N I L P := st_br b204 dX11_round_49 (by decide) rfl
theorem s204_52 : sm_at C X 204 52 [l0, l1, l2, l3, some (.long z0), l5, l6, l7, l8] st N I L P = sm_at C X 204 54 [l0, l1, l2, l3, some (.long z0), l5, l6, l7, l8] (.long z0 :: st) N I L P := st_go b204 dX11_round_52 (by decide) rfl
theorem s204_54 : sm_at C X 204 54 [l0, l1, some (.int x0), l3, l4, l5, l6, l7, l8] st N I L P = sm_at C X 204 55 [l0, l1, some (.int x0), l3, l4, l5, l6, l7, l8] (.int x0 :: st) N I L P := st_go b204 dX11_round_54 (by decide) rfl
theorem s204_55 : sm_at C X 204 55 ls (.int x0 :: st) N I L P = sm_at C X 204 56 ls (.long x0.toInt64 :: st) N I L P := st_go b204 dX11_round_55 (by decide) rfl
theorem s204_56 : sm_at C X 204 56 ls (.long z0 :: .long z1 :: st) N I L P = sm_at C X 204 57 ls (.long (z1 * z0) :: st) N I L P := st_go b204 dX11_round_56 (by decide) rfl
theorem s204_57 : sm_at C X 204 57 [l0, l1, l2, l3, l4, l5, l6, l7, l8] (.long z0 :: st) N I L P = sm_at C X 204 59 [l0, l1, l2, sm_cl l3, some (.long z0), none, l6, l7, l8] st N I L P := st_go b204 dX11_round_57 (by decide) rfl
theorem s204_59 : sm_at C X 204 59 [l0, l1, l2, l3, l4, l5, some (.long z0), l7, l8] st N I L P = sm_at C X 204 61 [l0, l1, l2, l3, l4, l5, some (.long z0), l7, l8] (.long z0 :: st) N I L P := st_go b204 dX11_round_59 (by decide) rfl
theorem s204_61 : sm_at C X 204 61 ls st N I L P = sm_at C X 204 64 ls (.long (lN 10) :: st) N I L P := st_go b204 dX11_round_61 (by decide) rfl
theorem s204_64 : sm_at C X 204 64 ls (.long z0 :: .long z1 :: st) N I L P = sm_at C X 204 65 ls (.long (z1 * z0) :: st) N I L P := st_go b204 dX11_round_64 (by decide) rfl
theorem s204_65 : sm_at C X 204 65 [l0, l1, l2, l3, l4, l5, l6, l7, l8] (.long z0 :: st) N I L P = sm_at C X 204 67 [l0, l1, l2, l3, l4, sm_cl l5, some (.long z0), none, l8] st N I L P := st_go b204 dX11_round_65 (by decide) rfl
theorem s204_67 : sm_at C X 204 67 [l0, l1, l2, l3, l4, l5, l6, l7, some (.int x0)] st N I L P = sm_at C X 204 70 [l0, l1, l2, l3, l4, l5, l6, sm_cl l7, some (.int (x0 + (nI 1)))] st N I L P := st_go b204 dX11_round_67 (by decide) rfl
theorem s204_70 : sm_at C X 204 70 ls st N I L P = sm_at C X 204 46 ls st N I L P := st_go b204 dX11_round_70 (by decide) rfl
theorem s204_73 : sm_at C X 204 73 [l0, l1, l2, l3, some (.long z0), l5, l6, l7, l8] st N I L P = sm_at C X 204 75 [l0, l1, l2, l3, some (.long z0), l5, l6, l7, l8] (.long z0 :: st) N I L P := st_go b204 dX11_round_73 (by decide) rfl
theorem s204_75 : sm_at C X 204 75 [l0, l1, l2, l3, l4, l5, some (.long z0), l7, l8] st N I L P = sm_at C X 204 77 [l0, l1, l2, l3, l4, l5, some (.long z0), l7, l8] (.long z0 :: st) N I L P := st_go b204 dX11_round_75 (by decide) rfl
theorem s204_77 : sm_at C X 204 77 [l0, l1, l2, some (.int x0), l4, l5, l6, l7, l8] st N I L P = sm_at C X 204 78 [l0, l1, l2, some (.int x0), l4, l5, l6, l7, l8] (.int x0 :: st) N I L P := st_go b204 dX11_round_77 (by decide) rfl
theorem s204_78 : sm_at C X 204 78 ls [w2, w1, w0] N I L P = sm_af C X 204 81 ls [] (C 171 [w0, w1, w2] N I L P) := st_stat b204 dX11_round_78 (n := 3) (rest := []) rfl rfl rfl rfl rfl rfl
theorem s204_81 : sm_at C X 204 81 ls [.long z0] N I L P = some (some (.long z0), N, I, L, P) := st_ret b204 dX11_round_81 (by decide) rfl
theorem b205 : sm_b 205 = cX11_image := rfl
theorem s205_0 : sm_at C X 205 0 ls st N I L P = sm_at C X 205 1 ls (.int (nI 0) :: st) N I L P := st_go b205 dX11_image_0 (by decide) rfl
theorem s205_1 : sm_at C X 205 1 [l0, l1] (.int x0 :: st) N I L P = sm_at C X 205 2 [sm_cl l0, some (.int x0)] st N I L P := st_go b205 dX11_image_1 (by decide) rfl
theorem s205_2 : sm_at C X 205 2 [l0, some (.int x0)] st N I L P = sm_at C X 205 3 [l0, some (.int x0)] (.int x0 :: st) N I L P := st_go b205 dX11_image_2 (by decide) rfl
theorem s205_3 : sm_at C X 205 3 ls st N I L P = sm_at C X 205 5 ls (.int (nI 24) :: st) N I L P := st_go b205 dX11_image_3 (by decide) rfl
theorem s205_5 : sm_at C X 205 5 ls (.int x0 :: .int x1 :: st) N I L P = if x0 ≤ x1 then sm_at C X 205 26 ls st N I L P else sm_at C X 205 8 ls st N I L P := st_br b205 dX11_image_5 (by decide) rfl
theorem s205_8 : sm_at C X 205 8 [some (.ref a), l1] st N I L P = sm_at C X 205 9 [some (.ref a), l1] (.ref a :: st) N I L P := st_go b205 dX11_image_8 (by decide) rfl
theorem s205_9 (h : a < N) (h1 : sm_lay a = .inl 11) : sm_at C X 205 9 ls (.ref a :: st) N I L P = sm_at C X 205 12 ls (va_rf (P a 30) :: st) N I L P := st_gfR b205 dX11_image_9 rfl rfl h h1
theorem s205_12 : sm_at C X 205 12 [l0, some (.int x0)] st N I L P = sm_at C X 205 13 [l0, some (.int x0)] (.int x0 :: st) N I L P := st_go b205 dX11_image_12 (by decide) rfl
theorem s205_13 : sm_at C X 205 13 [some (.ref a), l1] st N I L P = sm_at C X 205 14 [some (.ref a), l1] (.ref a :: st) N I L P := st_go b205 dX11_image_13 (by decide) rfl
theorem s205_14 (h : a < N) (h1 : sm_lay a = .inl 11) : sm_at C X 205 14 ls (.ref a :: st) N I L P = sm_at C X 205 17 ls (va_rf (P a 13) :: st) N I L P := st_gfR b205 dX11_image_14 rfl rfl h h1
theorem s205_17 : sm_at C X 205 17 [l0, some (.int x0)] st N I L P = sm_at C X 205 18 [l0, some (.int x0)] (.int x0 :: st) N I L P := st_go b205 dX11_image_17 (by decide) rfl
theorem s205_18 (h : a < N) (h1 : k < sm_al a) : sm_at C X 205 18 ls (.int (nI k) :: .ref a :: st) N I L P = sm_at C X 205 19 ls (.int (I a k) :: st) N I L P := st_iald b205 dX11_image_18 h h1
theorem s205_19 (h : a < N) (h1 : k < sm_al a) : sm_at C X 205 19 ls (.int x0 :: .int (nI k) :: .ref a :: st) N I L P = sm_at C X 205 20 ls st N (sm_up I a k x0) L P := st_iast b205 dX11_image_19 h h1
theorem s205_20 : sm_at C X 205 20 [l0, some (.int x0)] st N I L P = sm_at C X 205 23 [sm_cl l0, some (.int (x0 + (nI 1)))] st N I L P := st_go b205 dX11_image_20 (by decide) rfl
theorem s205_23 : sm_at C X 205 23 ls st N I L P = sm_at C X 205 2 ls st N I L P := st_go b205 dX11_image_23 (by decide) rfl
theorem s205_26 : sm_at C X 205 26 ls st N I L P = sm_at C X 205 27 ls (.int (nI 0) :: st) N I L P := st_go b205 dX11_image_26 (by decide) rfl
theorem s205_27 : sm_at C X 205 27 [l0, l1] (.int x0 :: st) N I L P = sm_at C X 205 28 [sm_cl l0, some (.int x0)] st N I L P := st_go b205 dX11_image_27 (by decide) rfl
theorem s205_28 : sm_at C X 205 28 [l0, some (.int x0)] st N I L P = sm_at C X 205 29 [l0, some (.int x0)] (.int x0 :: st) N I L P := st_go b205 dX11_image_28 (by decide) rfl
theorem s205_29 : sm_at C X 205 29 ls st N I L P = sm_at C X 205 31 ls (.int (nI 10) :: st) N I L P := st_go b205 dX11_image_29 (by decide) rfl
theorem s205_31 : sm_at C X 205 31 ls (.int x0 :: .int x1 :: st) N I L P = if x0 ≤ x1 then sm_at C X 205 52 ls st N I L P else sm_at C X 205 34 ls st N I L P := st_br b205 dX11_image_31 (by decide) rfl
theorem s205_34 : sm_at C X 205 34 [some (.ref a), l1] st N I L P = sm_at C X 205 35 [some (.ref a), l1] (.ref a :: st) N I L P := st_go b205 dX11_image_34 (by decide) rfl
theorem s205_35 (h : a < N) (h1 : sm_lay a = .inl 11) : sm_at C X 205 35 ls (.ref a :: st) N I L P = sm_at C X 205 38 ls (va_rf (P a 31) :: st) N I L P := st_gfR b205 dX11_image_35 rfl rfl h h1
theorem s205_38 : sm_at C X 205 38 [l0, some (.int x0)] st N I L P = sm_at C X 205 39 [l0, some (.int x0)] (.int x0 :: st) N I L P := st_go b205 dX11_image_38 (by decide) rfl
theorem s205_39 : sm_at C X 205 39 [some (.ref a), l1] st N I L P = sm_at C X 205 40 [some (.ref a), l1] (.ref a :: st) N I L P := st_go b205 dX11_image_39 (by decide) rfl
theorem s205_40 (h : a < N) (h1 : sm_lay a = .inl 11) : sm_at C X 205 40 ls (.ref a :: st) N I L P = sm_at C X 205 43 ls (va_rf (P a 1) :: st) N I L P := st_gfR b205 dX11_image_40 rfl rfl h h1
theorem s205_43 : sm_at C X 205 43 [l0, some (.int x0)] st N I L P = sm_at C X 205 44 [l0, some (.int x0)] (.int x0 :: st) N I L P := st_go b205 dX11_image_43 (by decide) rfl
theorem s205_44 (h : a < N) (h1 : k < sm_al a) : sm_at C X 205 44 ls (.int (nI k) :: .ref a :: st) N I L P = sm_at C X 205 45 ls (.int (I a k) :: st) N I L P := st_iald b205 dX11_image_44 h h1
theorem s205_45 (h : a < N) (h1 : k < sm_al a) : sm_at C X 205 45 ls (.int x0 :: .int (nI k) :: .ref a :: st) N I L P = sm_at C X 205 46 ls st N (sm_up I a k x0) L P := st_iast b205 dX11_image_45 h h1
theorem s205_46 : sm_at C X 205 46 [l0, some (.int x0)] st N I L P = sm_at C X 205 49 [sm_cl l0, some (.int (x0 + (nI 1)))] st N I L P := st_go b205 dX11_image_46 (by decide) rfl
theorem s205_49 : sm_at C X 205 49 ls st N I L P = sm_at C X 205 28 ls st N I L P := st_go b205 dX11_image_49 (by decide) rfl
theorem s205_52 : sm_at C X 205 52 ls st N I L P = sm_at C X 205 53 ls (.int (nI 0) :: st) N I L P := st_go b205 dX11_image_52 (by decide) rfl
theorem s205_53 : sm_at C X 205 53 [l0, l1] (.int x0 :: st) N I L P = sm_at C X 205 54 [sm_cl l0, some (.int x0)] st N I L P := st_go b205 dX11_image_53 (by decide) rfl
theorem s205_54 : sm_at C X 205 54 [l0, some (.int x0)] st N I L P = sm_at C X 205 55 [l0, some (.int x0)] (.int x0 :: st) N I L P := st_go b205 dX11_image_54 (by decide) rfl
theorem s205_55 : sm_at C X 205 55 ls st N I L P = sm_at C X 205 56 ls (.int (nI 4) :: st) N I L P := st_go b205 dX11_image_55 (by decide) rfl
theorem s205_56 : sm_at C X 205 56 ls (.int x0 :: .int x1 :: st) N I L P = if x0 ≤ x1 then sm_at C X 205 77 ls st N I L P else sm_at C X 205 59 ls st N I L P := st_br b205 dX11_image_56 (by decide) rfl
theorem s205_59 : sm_at C X 205 59 [some (.ref a), l1] st N I L P = sm_at C X 205 60 [some (.ref a), l1] (.ref a :: st) N I L P := st_go b205 dX11_image_59 (by decide) rfl
theorem s205_60 (h : a < N) (h1 : sm_lay a = .inl 11) : sm_at C X 205 60 ls (.ref a :: st) N I L P = sm_at C X 205 63 ls (va_rf (P a 32) :: st) N I L P := st_gfR b205 dX11_image_60 rfl rfl h h1
theorem s205_63 : sm_at C X 205 63 [l0, some (.int x0)] st N I L P = sm_at C X 205 64 [l0, some (.int x0)] (.int x0 :: st) N I L P := st_go b205 dX11_image_63 (by decide) rfl
theorem s205_64 : sm_at C X 205 64 [some (.ref a), l1] st N I L P = sm_at C X 205 65 [some (.ref a), l1] (.ref a :: st) N I L P := st_go b205 dX11_image_64 (by decide) rfl
theorem s205_65 (h : a < N) (h1 : sm_lay a = .inl 11) : sm_at C X 205 65 ls (.ref a :: st) N I L P = sm_at C X 205 68 ls (va_rf (P a 18) :: st) N I L P := st_gfR b205 dX11_image_65 rfl rfl h h1
theorem s205_68 : sm_at C X 205 68 [l0, some (.int x0)] st N I L P = sm_at C X 205 69 [l0, some (.int x0)] (.int x0 :: st) N I L P := st_go b205 dX11_image_68 (by decide) rfl
theorem s205_69 (h : a < N) (h1 : k < sm_al a) : sm_at C X 205 69 ls (.int (nI k) :: .ref a :: st) N I L P = sm_at C X 205 70 ls (.int (I a k) :: st) N I L P := st_iald b205 dX11_image_69 h h1
theorem s205_70 (h : a < N) (h1 : k < sm_al a) : sm_at C X 205 70 ls (.int x0 :: .int (nI k) :: .ref a :: st) N I L P = sm_at C X 205 71 ls st N (sm_up I a k x0) L P := st_iast b205 dX11_image_70 h h1
theorem s205_71 : sm_at C X 205 71 [l0, some (.int x0)] st N I L P = sm_at C X 205 74 [sm_cl l0, some (.int (x0 + (nI 1)))] st N I L P := st_go b205 dX11_image_71 (by decide) rfl
theorem s205_74 : sm_at C X 205 74 ls st N I L P = sm_at C X 205 54 ls st N I L P := st_go b205 dX11_image_74 (by decide) rfl
theorem s205_77 : sm_at C X 205 77 ls st N I L P = sm_at C X 205 78 ls (.int (nI 0) :: st) N I L P := st_go b205 dX11_image_77 (by decide) rfl
theorem s205_78 : sm_at C X 205 78 [l0, l1] (.int x0 :: st) N I L P = sm_at C X 205 79 [sm_cl l0, some (.int x0)] st N I L P := st_go b205 dX11_image_78 (by decide) rfl
theorem s205_79 : sm_at C X 205 79 [l0, some (.int x0)] st N I L P = sm_at C X 205 80 [l0, some (.int x0)] (.int x0 :: st) N I L P := st_go b205 dX11_image_79 (by decide) rfl
theorem s205_80 : sm_at C X 205 80 ls st N I L P = sm_at C X 205 82 ls (.int (nI 16) :: st) N I L P := st_go b205 dX11_image_80 (by decide) rfl
theorem s205_82 : sm_at C X 205 82 ls (.int x0 :: .int x1 :: st) N I L P = if x0 ≤ x1 then sm_at C X 205 103 ls st N I L P else sm_at C X 205 85 ls st N I L P := st_br b205 dX11_image_82 (by decide) rfl
theorem s205_85 : sm_at C X 205 85 [some (.ref a), l1] st N I L P = sm_at C X 205 86 [some (.ref a), l1] (.ref a :: st) N I L P := st_go b205 dX11_image_85 (by decide) rfl
theorem s205_86 (h : a < N) (h1 : sm_lay a = .inl 11) : sm_at C X 205 86 ls (.ref a :: st) N I L P = sm_at C X 205 89 ls (va_rf (P a 33) :: st) N I L P := st_gfR b205 dX11_image_86 rfl rfl h h1
theorem s205_89 : sm_at C X 205 89 [l0, some (.int x0)] st N I L P = sm_at C X 205 90 [l0, some (.int x0)] (.int x0 :: st) N I L P := st_go b205 dX11_image_89 (by decide) rfl
theorem s205_90 : sm_at C X 205 90 [some (.ref a), l1] st N I L P = sm_at C X 205 91 [some (.ref a), l1] (.ref a :: st) N I L P := st_go b205 dX11_image_90 (by decide) rfl
theorem s205_91 (h : a < N) (h1 : sm_lay a = .inl 11) : sm_at C X 205 91 ls (.ref a :: st) N I L P = sm_at C X 205 94 ls (va_rf (P a 22) :: st) N I L P := st_gfR b205 dX11_image_91 rfl rfl h h1
theorem s205_94 : sm_at C X 205 94 [l0, some (.int x0)] st N I L P = sm_at C X 205 95 [l0, some (.int x0)] (.int x0 :: st) N I L P := st_go b205 dX11_image_94 (by decide) rfl
theorem s205_95 (h : a < N) (h1 : k < sm_al a) : sm_at C X 205 95 ls (.int (nI k) :: .ref a :: st) N I L P = sm_at C X 205 96 ls (.int (I a k) :: st) N I L P := st_iald b205 dX11_image_95 h h1
theorem s205_96 (h : a < N) (h1 : k < sm_al a) : sm_at C X 205 96 ls (.int x0 :: .int (nI k) :: .ref a :: st) N I L P = sm_at C X 205 97 ls st N (sm_up I a k x0) L P := st_iast b205 dX11_image_96 h h1
theorem s205_97 : sm_at C X 205 97 [l0, some (.int x0)] st N I L P = sm_at C X 205 100 [sm_cl l0, some (.int (x0 + (nI 1)))] st N I L P := st_go b205 dX11_image_97 (by decide) rfl
theorem s205_100 : sm_at C X 205 100 ls st N I L P = sm_at C X 205 79 ls st N I L P := st_go b205 dX11_image_100 (by decide) rfl
theorem s205_103 : sm_at C X 205 103 [some (.ref a), l1] st N I L P = sm_at C X 205 104 [some (.ref a), l1] (.ref a :: st) N I L P := st_go b205 dX11_image_103 (by decide) rfl
theorem s205_104 : sm_at C X 205 104 [some (.ref a), l1] st N I L P = sm_at C X 205 105 [some (.ref a), l1] (.ref a :: st) N I L P := st_go b205 dX11_image_104 (by decide) rfl
theorem s205_105 (h : a < N) (h1 : sm_lay a = .inl 11) : sm_at C X 205 105 ls (.ref a :: st) N I L P = sm_at C X 205 108 ls (.int (I a 12) :: st) N I L P := st_gfI b205 dX11_image_105 rfl rfl h h1
theorem s205_108 (h : a < N) (h1 : sm_lay a = .inl 11) : sm_at C X 205 108 ls (.int x0 :: .ref a :: st) N I L P = sm_at C X 205 111 ls st N (sm_up I a 25 x0) L P := st_pfI b205 dX11_image_108 rfl rfl rfl h h1
theorem s205_111 : sm_at C X 205 111 [some (.ref a), l1] st N I L P = sm_at C X 205 112 [some (.ref a), l1] (.ref a :: st) N I L P := st_go b205 dX11_image_111 (by decide) rfl
theorem s205_112 : sm_at C X 205 112 [some (.ref a), l1] st N I L P = sm_at C X 205 113 [some (.ref a), l1] (.ref a :: st) N I L P := st_go b205 dX11_image_112 (by decide) rfl
theorem s205_113 (h : a < N) (h1 : sm_lay a = .inl 11) : sm_at C X 205 113 ls (.ref a :: st) N I L P = sm_at C X 205 116 ls (.int (I a 17) :: st) N I L P := st_gfI b205 dX11_image_113 rfl rfl h h1
theorem s205_116 (h : a < N) (h1 : sm_lay a = .inl 11) : sm_at C X 205 116 ls (.int x0 :: .ref a :: st) N I L P = sm_at C X 205 119 ls st N (sm_up I a 28 x0) L P := st_pfI b205 dX11_image_116 rfl rfl rfl h h1
theorem s205_119 : sm_at C X 205 119 [some (.ref a), l1] st N I L P = sm_at C X 205 120 [some (.ref a), l1] (.ref a :: st) N I L P := st_go b205 dX11_image_119 (by decide) rfl
theorem s205_120 : sm_at C X 205 120 [some (.ref a), l1] st N I L P = sm_at C X 205 121 [some (.ref a), l1] (.ref a :: st) N I L P := st_go b205 dX11_image_120 (by decide) rfl
theorem s205_121 (h : a < N) (h1 : sm_lay a = .inl 11) : sm_at C X 205 121 ls (.ref a :: st) N I L P = sm_at C X 205 124 ls (.int (I a 21) :: st) N I L P := st_gfI b205 dX11_image_121 rfl rfl h h1
theorem s205_124 (h : a < N) (h1 : sm_lay a = .inl 11) : sm_at C X 205 124 ls (.int x0 :: .ref a :: st) N I L P = sm_at C X 205 127 ls st N (sm_up I a 29 x0) L P := st_pfI b205 dX11_image_124 rfl rfl rfl h h1
theorem s205_127 : sm_at C X 205 127 [some (.ref a), l1] st N I L P = sm_at C X 205 128 [some (.ref a), l1] (.ref a :: st) N I L P := st_go b205 dX11_image_127 (by decide) rfl
theorem s205_128 : sm_at C X 205 128 [some (.ref a), l1] st N I L P = sm_at C X 205 129 [some (.ref a), l1] (.ref a :: st) N I L P := st_go b205 dX11_image_128 (by decide) rfl
theorem s205_129 (h : a < N) (h1 : sm_lay a = .inl 11) : sm_at C X 205 129 ls (.ref a :: st) N I L P = sm_at C X 205 132 ls (.int (I a 9) :: st) N I L P := st_gfI b205 dX11_image_129 rfl rfl h h1
theorem s205_132 (h : a < N) (h1 : sm_lay a = .inl 11) : sm_at C X 205 132 ls (.int x0 :: .ref a :: st) N I L P = sm_at C X 205 135 ls st N (sm_up I a 26 x0) L P := st_pfI b205 dX11_image_132 rfl rfl rfl h h1
theorem s205_135 : sm_at C X 205 135 [some (.ref a), l1] st N I L P = sm_at C X 205 136 [some (.ref a), l1] (.ref a :: st) N I L P := st_go b205 dX11_image_135 (by decide) rfl
theorem s205_136 : sm_at C X 205 136 [some (.ref a), l1] st N I L P = sm_at C X 205 137 [some (.ref a), l1] (.ref a :: st) N I L P := st_go b205 dX11_image_136 (by decide) rfl
theorem s205_137 (h : a < N) (h1 : sm_lay a = .inl 11) : sm_at C X 205 137 ls (.ref a :: st) N I L P = sm_at C X 205 140 ls (.int (I a 20) :: st) N I L P := st_gfI b205 dX11_image_137 rfl rfl h h1
theorem s205_140 (h : a < N) (h1 : sm_lay a = .inl 11) : sm_at C X 205 140 ls (.int x0 :: .ref a :: st) N I L P = sm_at C X 205 143 ls st N (sm_up I a 27 x0) L P := st_pfI b205 dX11_image_140 rfl rfl rfl h h1
theorem s205_143 : sm_at C X 205 143 [some (.ref a), l1] st N I L P = sm_at C X 205 144 [some (.ref a), l1] (.ref a :: st) N I L P := st_go b205 dX11_image_143 (by decide) rfl
theorem s205_144 (h : a < N) (h1 : sm_lay a = .inl 11) : sm_at C X 205 144 ls (.ref a :: st) N I L P = sm_at C X 205 147 ls (.int (I a 12) :: st) N I L P := st_gfI b205 dX11_image_144 rfl rfl h h1
theorem s205_147 : sm_at C X 205 147 ls [.int x0] N I L P = some (some (.int x0), N, I, L, P) := st_iret b205 dX11_image_147 rfl
theorem b206 : sm_b 206 = cX11_restore := rfl
theorem s206_0 : sm_at C X 206 0 [some (.ref a), l1] st N I L P = sm_at C X 206 1 [some (.ref a), l1] (.ref a :: st) N I L P := st_go b206 dX11_restore_0 (by decide) rfl
theorem s206_1 (h : a < N) (h1 : sm_lay a = .inl 11) : sm_at C X 206 1 ls (.ref a :: st) N I L P = sm_at C X 206 4 ls (.int (I a 25) :: st) N I L P := st_gfI b206 dX11_restore_1 rfl rfl h h1
theorem s206_4 : sm_at C X 206 4 ls st N I L P = sm_at C X 206 5 ls (.int (-1) :: st) N I L P := st_go b206 dX11_restore_4 (by decide) rfl
theorem s206_5 : sm_at C X 206 5 ls (.int x0 :: .int x1 :: st) N I L P = if x1 = x0 then sm_at C X 206 30 ls st N I L P else sm_at C X 206 8 ls st N I L P := st_br b206 dX11_restore_5 (by decide) rfl
theorem s206_8 : sm_at C X 206 8 [some (.ref a), l1] st N I L P = sm_at C X 206 9 [some (.ref a), l1] (.ref a :: st) N I L P := st_go b206 dX11_restore_8 (by decide) rfl
theorem s206_9 (h : a < N) (h1 : sm_lay a = .inl 11) : sm_at C X 206 9 ls (.ref a :: st) N I L P = sm_at C X 206 12 ls (.int (I a 26) :: st) N I L P := st_gfI b206 dX11_restore_9 rfl rfl h h1
theorem s206_12 : sm_at C X 206 12 [some (.ref a), l1] st N I L P = sm_at C X 206 13 [some (.ref a), l1] (.ref a :: st) N I L P := st_go b206 dX11_restore_12 (by decide) rfl
theorem s206_13 (h : a < N) (h1 : sm_lay a = .inl 11) : sm_at C X 206 13 ls (.ref a :: st) N I L P = sm_at C X 206 16 ls (.int (I a 9) :: st) N I L P := st_gfI b206 dX11_restore_13 rfl rfl h h1
theorem s206_16 : sm_at C X 206 16 ls (.int x0 :: .int x1 :: st) N I L P = if ¬ x1 = x0 then sm_at C X 206 30 ls st N I L P else sm_at C X 206 19 ls st N I L P := st_br b206 dX11_restore_16 (by decide) rfl
theorem s206_19 : sm_at C X 206 19 [some (.ref a), l1] st N I L P = sm_at C X 206 20 [some (.ref a), l1] (.ref a :: st) N I L P := st_go b206 dX11_restore_19 (by decide) rfl
theorem s206_20 (h : a < N) (h1 : sm_lay a = .inl 11) : sm_at C X 206 20 ls (.ref a :: st) N I L P = sm_at C X 206 23 ls (.int (I a 27) :: st) N I L P := st_gfI b206 dX11_restore_20 rfl rfl h h1
theorem s206_23 : sm_at C X 206 23 [some (.ref a), l1] st N I L P = sm_at C X 206 24 [some (.ref a), l1] (.ref a :: st) N I L P := st_go b206 dX11_restore_23 (by decide) rfl
theorem s206_24 (h : a < N) (h1 : sm_lay a = .inl 11) : sm_at C X 206 24 ls (.ref a :: st) N I L P = sm_at C X 206 27 ls (.int (I a 20) :: st) N I L P := st_gfI b206 dX11_restore_24 rfl rfl h h1
theorem s206_27 : sm_at C X 206 27 ls (.int x0 :: .int x1 :: st) N I L P = if x1 = x0 then sm_at C X 206 33 ls st N I L P else sm_at C X 206 30 ls st N I L P := st_br b206 dX11_restore_27 (by decide) rfl
theorem s206_30 : sm_at C X 206 30 ls st N I L P = sm_at C X 206 32 ls (.int (-103) :: st) N I L P := st_go b206 dX11_restore_30 (by decide) rfl
theorem s206_32 : sm_at C X 206 32 ls [.int x0] N I L P = some (some (.int x0), N, I, L, P) := st_iret b206 dX11_restore_32 rfl
theorem s206_33 : sm_at C X 206 33 ls st N I L P = sm_at C X 206 34 ls (.int (nI 0) :: st) N I L P := st_go b206 dX11_restore_33 (by decide) rfl
theorem s206_34 : sm_at C X 206 34 [l0, l1] (.int x0 :: st) N I L P = sm_at C X 206 35 [sm_cl l0, some (.int x0)] st N I L P := st_go b206 dX11_restore_34 (by decide) rfl
theorem s206_35 : sm_at C X 206 35 [l0, some (.int x0)] st N I L P = sm_at C X 206 36 [l0, some (.int x0)] (.int x0 :: st) N I L P := st_go b206 dX11_restore_35 (by decide) rfl
theorem s206_36 : sm_at C X 206 36 ls st N I L P = sm_at C X 206 38 ls (.int (nI 24) :: st) N I L P := st_go b206 dX11_restore_36 (by decide) rfl
theorem s206_38 : sm_at C X 206 38 ls (.int x0 :: .int x1 :: st) N I L P = if x0 ≤ x1 then sm_at C X 206 59 ls st N I L P else sm_at C X 206 41 ls st N I L P := st_br b206 dX11_restore_38 (by decide) rfl
theorem s206_41 : sm_at C X 206 41 [some (.ref a), l1] st N I L P = sm_at C X 206 42 [some (.ref a), l1] (.ref a :: st) N I L P := st_go b206 dX11_restore_41 (by decide) rfl
theorem s206_42 (h : a < N) (h1 : sm_lay a = .inl 11) : sm_at C X 206 42 ls (.ref a :: st) N I L P = sm_at C X 206 45 ls (va_rf (P a 13) :: st) N I L P := st_gfR b206 dX11_restore_42 rfl rfl h h1
theorem s206_45 : sm_at C X 206 45 [l0, some (.int x0)] st N I L P = sm_at C X 206 46 [l0, some (.int x0)] (.int x0 :: st) N I L P := st_go b206 dX11_restore_45 (by decide) rfl
theorem s206_46 : sm_at C X 206 46 [some (.ref a), l1] st N I L P = sm_at C X 206 47 [some (.ref a), l1] (.ref a :: st) N I L P := st_go b206 dX11_restore_46 (by decide) rfl
theorem s206_47 (h : a < N) (h1 : sm_lay a = .inl 11) : sm_at C X 206 47 ls (.ref a :: st) N I L P = sm_at C X 206 50 ls (va_rf (P a 30) :: st) N I L P := st_gfR b206 dX11_restore_47 rfl rfl h h1
theorem s206_50 : sm_at C X 206 50 [l0, some (.int x0)] st N I L P = sm_at C X 206 51 [l0, some (.int x0)] (.int x0 :: st) N I L P := st_go b206 dX11_restore_50 (by decide) rfl
theorem s206_51 (h : a < N) (h1 : k < sm_al a) : sm_at C X 206 51 ls (.int (nI k) :: .ref a :: st) N I L P = sm_at C X 206 52 ls (.int (I a k) :: st) N I L P := st_iald b206 dX11_restore_51 h h1
theorem s206_52 (h : a < N) (h1 : k < sm_al a) : sm_at C X 206 52 ls (.int x0 :: .int (nI k) :: .ref a :: st) N I L P = sm_at C X 206 53 ls st N (sm_up I a k x0) L P := st_iast b206 dX11_restore_52 h h1
theorem s206_53 : sm_at C X 206 53 [l0, some (.int x0)] st N I L P = sm_at C X 206 56 [sm_cl l0, some (.int (x0 + (nI 1)))] st N I L P := st_go b206 dX11_restore_53 (by decide) rfl
theorem s206_56 : sm_at C X 206 56 ls st N I L P = sm_at C X 206 35 ls st N I L P := st_go b206 dX11_restore_56 (by decide) rfl
theorem s206_59 : sm_at C X 206 59 ls st N I L P = sm_at C X 206 60 ls (.int (nI 0) :: st) N I L P := st_go b206 dX11_restore_59 (by decide) rfl
theorem s206_60 : sm_at C X 206 60 [l0, l1] (.int x0 :: st) N I L P = sm_at C X 206 61 [sm_cl l0, some (.int x0)] st N I L P := st_go b206 dX11_restore_60 (by decide) rfl
theorem s206_61 : sm_at C X 206 61 [l0, some (.int x0)] st N I L P = sm_at C X 206 62 [l0, some (.int x0)] (.int x0 :: st) N I L P := st_go b206 dX11_restore_61 (by decide) rfl
theorem s206_62 : sm_at C X 206 62 ls st N I L P = sm_at C X 206 64 ls (.int (nI 10) :: st) N I L P := st_go b206 dX11_restore_62 (by decide) rfl
theorem s206_64 : sm_at C X 206 64 ls (.int x0 :: .int x1 :: st) N I L P = if x0 ≤ x1 then sm_at C X 206 85 ls st N I L P else sm_at C X 206 67 ls st N I L P := st_br b206 dX11_restore_64 (by decide) rfl
theorem s206_67 : sm_at C X 206 67 [some (.ref a), l1] st N I L P = sm_at C X 206 68 [some (.ref a), l1] (.ref a :: st) N I L P := st_go b206 dX11_restore_67 (by decide) rfl
theorem s206_68 (h : a < N) (h1 : sm_lay a = .inl 11) : sm_at C X 206 68 ls (.ref a :: st) N I L P = sm_at C X 206 71 ls (va_rf (P a 1) :: st) N I L P := st_gfR b206 dX11_restore_68 rfl rfl h h1
theorem s206_71 : sm_at C X 206 71 [l0, some (.int x0)] st N I L P = sm_at C X 206 72 [l0, some (.int x0)] (.int x0 :: st) N I L P := st_go b206 dX11_restore_71 (by decide) rfl
theorem s206_72 : sm_at C X 206 72 [some (.ref a), l1] st N I L P = sm_at C X 206 73 [some (.ref a), l1] (.ref a :: st) N I L P := st_go b206 dX11_restore_72 (by decide) rfl
theorem s206_73 (h : a < N) (h1 : sm_lay a = .inl 11) : sm_at C X 206 73 ls (.ref a :: st) N I L P = sm_at C X 206 76 ls (va_rf (P a 31) :: st) N I L P := st_gfR b206 dX11_restore_73 rfl rfl h h1
theorem s206_76 : sm_at C X 206 76 [l0, some (.int x0)] st N I L P = sm_at C X 206 77 [l0, some (.int x0)] (.int x0 :: st) N I L P := st_go b206 dX11_restore_76 (by decide) rfl
theorem s206_77 (h : a < N) (h1 : k < sm_al a) : sm_at C X 206 77 ls (.int (nI k) :: .ref a :: st) N I L P = sm_at C X 206 78 ls (.int (I a k) :: st) N I L P := st_iald b206 dX11_restore_77 h h1
theorem s206_78 (h : a < N) (h1 : k < sm_al a) : sm_at C X 206 78 ls (.int x0 :: .int (nI k) :: .ref a :: st) N I L P = sm_at C X 206 79 ls st N (sm_up I a k x0) L P := st_iast b206 dX11_restore_78 h h1
theorem s206_79 : sm_at C X 206 79 [l0, some (.int x0)] st N I L P = sm_at C X 206 82 [sm_cl l0, some (.int (x0 + (nI 1)))] st N I L P := st_go b206 dX11_restore_79 (by decide) rfl
theorem s206_82 : sm_at C X 206 82 ls st N I L P = sm_at C X 206 61 ls st N I L P := st_go b206 dX11_restore_82 (by decide) rfl
theorem s206_85 : sm_at C X 206 85 ls st N I L P = sm_at C X 206 86 ls (.int (nI 0) :: st) N I L P := st_go b206 dX11_restore_85 (by decide) rfl
theorem s206_86 : sm_at C X 206 86 [l0, l1] (.int x0 :: st) N I L P = sm_at C X 206 87 [sm_cl l0, some (.int x0)] st N I L P := st_go b206 dX11_restore_86 (by decide) rfl
theorem s206_87 : sm_at C X 206 87 [l0, some (.int x0)] st N I L P = sm_at C X 206 88 [l0, some (.int x0)] (.int x0 :: st) N I L P := st_go b206 dX11_restore_87 (by decide) rfl
theorem s206_88 : sm_at C X 206 88 ls st N I L P = sm_at C X 206 89 ls (.int (nI 4) :: st) N I L P := st_go b206 dX11_restore_88 (by decide) rfl
theorem s206_89 : sm_at C X 206 89 ls (.int x0 :: .int x1 :: st) N I L P = if x0 ≤ x1 then sm_at C X 206 110 ls st N I L P else sm_at C X 206 92 ls st N I L P := st_br b206 dX11_restore_89 (by decide) rfl
theorem s206_92 : sm_at C X 206 92 [some (.ref a), l1] st N I L P = sm_at C X 206 93 [some (.ref a), l1] (.ref a :: st) N I L P := st_go b206 dX11_restore_92 (by decide) rfl
theorem s206_93 (h : a < N) (h1 : sm_lay a = .inl 11) : sm_at C X 206 93 ls (.ref a :: st) N I L P = sm_at C X 206 96 ls (va_rf (P a 18) :: st) N I L P := st_gfR b206 dX11_restore_93 rfl rfl h h1
theorem s206_96 : sm_at C X 206 96 [l0, some (.int x0)] st N I L P = sm_at C X 206 97 [l0, some (.int x0)] (.int x0 :: st) N I L P := st_go b206 dX11_restore_96 (by decide) rfl
theorem s206_97 : sm_at C X 206 97 [some (.ref a), l1] st N I L P = sm_at C X 206 98 [some (.ref a), l1] (.ref a :: st) N I L P := st_go b206 dX11_restore_97 (by decide) rfl
theorem s206_98 (h : a < N) (h1 : sm_lay a = .inl 11) : sm_at C X 206 98 ls (.ref a :: st) N I L P = sm_at C X 206 101 ls (va_rf (P a 32) :: st) N I L P := st_gfR b206 dX11_restore_98 rfl rfl h h1
theorem s206_101 : sm_at C X 206 101 [l0, some (.int x0)] st N I L P = sm_at C X 206 102 [l0, some (.int x0)] (.int x0 :: st) N I L P := st_go b206 dX11_restore_101 (by decide) rfl
theorem s206_102 (h : a < N) (h1 : k < sm_al a) : sm_at C X 206 102 ls (.int (nI k) :: .ref a :: st) N I L P = sm_at C X 206 103 ls (.int (I a k) :: st) N I L P := st_iald b206 dX11_restore_102 h h1
theorem s206_103 (h : a < N) (h1 : k < sm_al a) : sm_at C X 206 103 ls (.int x0 :: .int (nI k) :: .ref a :: st) N I L P = sm_at C X 206 104 ls st N (sm_up I a k x0) L P := st_iast b206 dX11_restore_103 h h1
theorem s206_104 : sm_at C X 206 104 [l0, some (.int x0)] st N I L P = sm_at C X 206 107 [sm_cl l0, some (.int (x0 + (nI 1)))] st N I L P := st_go b206 dX11_restore_104 (by decide) rfl
theorem s206_107 : sm_at C X 206 107 ls st N I L P = sm_at C X 206 87 ls st N I L P := st_go b206 dX11_restore_107 (by decide) rfl
theorem s206_110 : sm_at C X 206 110 ls st N I L P = sm_at C X 206 111 ls (.int (nI 0) :: st) N I L P := st_go b206 dX11_restore_110 (by decide) rfl
theorem s206_111 : sm_at C X 206 111 [l0, l1] (.int x0 :: st) N I L P = sm_at C X 206 112 [sm_cl l0, some (.int x0)] st N I L P := st_go b206 dX11_restore_111 (by decide) rfl
theorem s206_112 : sm_at C X 206 112 [l0, some (.int x0)] st N I L P = sm_at C X 206 113 [l0, some (.int x0)] (.int x0 :: st) N I L P := st_go b206 dX11_restore_112 (by decide) rfl
theorem s206_113 : sm_at C X 206 113 ls st N I L P = sm_at C X 206 115 ls (.int (nI 16) :: st) N I L P := st_go b206 dX11_restore_113 (by decide) rfl
theorem s206_115 : sm_at C X 206 115 ls (.int x0 :: .int x1 :: st) N I L P = if x0 ≤ x1 then sm_at C X 206 136 ls st N I L P else sm_at C X 206 118 ls st N I L P := st_br b206 dX11_restore_115 (by decide) rfl
theorem s206_118 : sm_at C X 206 118 [some (.ref a), l1] st N I L P = sm_at C X 206 119 [some (.ref a), l1] (.ref a :: st) N I L P := st_go b206 dX11_restore_118 (by decide) rfl
theorem s206_119 (h : a < N) (h1 : sm_lay a = .inl 11) : sm_at C X 206 119 ls (.ref a :: st) N I L P = sm_at C X 206 122 ls (va_rf (P a 22) :: st) N I L P := st_gfR b206 dX11_restore_119 rfl rfl h h1
theorem s206_122 : sm_at C X 206 122 [l0, some (.int x0)] st N I L P = sm_at C X 206 123 [l0, some (.int x0)] (.int x0 :: st) N I L P := st_go b206 dX11_restore_122 (by decide) rfl
theorem s206_123 : sm_at C X 206 123 [some (.ref a), l1] st N I L P = sm_at C X 206 124 [some (.ref a), l1] (.ref a :: st) N I L P := st_go b206 dX11_restore_123 (by decide) rfl
theorem s206_124 (h : a < N) (h1 : sm_lay a = .inl 11) : sm_at C X 206 124 ls (.ref a :: st) N I L P = sm_at C X 206 127 ls (va_rf (P a 33) :: st) N I L P := st_gfR b206 dX11_restore_124 rfl rfl h h1
theorem s206_127 : sm_at C X 206 127 [l0, some (.int x0)] st N I L P = sm_at C X 206 128 [l0, some (.int x0)] (.int x0 :: st) N I L P := st_go b206 dX11_restore_127 (by decide) rfl
theorem s206_128 (h : a < N) (h1 : k < sm_al a) : sm_at C X 206 128 ls (.int (nI k) :: .ref a :: st) N I L P = sm_at C X 206 129 ls (.int (I a k) :: st) N I L P := st_iald b206 dX11_restore_128 h h1
theorem s206_129 (h : a < N) (h1 : k < sm_al a) : sm_at C X 206 129 ls (.int x0 :: .int (nI k) :: .ref a :: st) N I L P = sm_at C X 206 130 ls st N (sm_up I a k x0) L P := st_iast b206 dX11_restore_129 h h1
theorem s206_130 : sm_at C X 206 130 [l0, some (.int x0)] st N I L P = sm_at C X 206 133 [sm_cl l0, some (.int (x0 + (nI 1)))] st N I L P := st_go b206 dX11_restore_130 (by decide) rfl
theorem s206_133 : sm_at C X 206 133 ls st N I L P = sm_at C X 206 112 ls st N I L P := st_go b206 dX11_restore_133 (by decide) rfl
theorem s206_136 : sm_at C X 206 136 [some (.ref a), l1] st N I L P = sm_at C X 206 137 [some (.ref a), l1] (.ref a :: st) N I L P := st_go b206 dX11_restore_136 (by decide) rfl
theorem s206_137 : sm_at C X 206 137 [some (.ref a), l1] st N I L P = sm_at C X 206 138 [some (.ref a), l1] (.ref a :: st) N I L P := st_go b206 dX11_restore_137 (by decide) rfl
theorem s206_138 (h : a < N) (h1 : sm_lay a = .inl 11) : sm_at C X 206 138 ls (.ref a :: st) N I L P = sm_at C X 206 141 ls (.int (I a 25) :: st) N I L P := st_gfI b206 dX11_restore_138 rfl rfl h h1
theorem s206_141 (h : a < N) (h1 : sm_lay a = .inl 11) : sm_at C X 206 141 ls (.int x0 :: .ref a :: st) N I L P = sm_at C X 206 144 ls st N (sm_up I a 12 x0) L P := st_pfI b206 dX11_restore_141 rfl rfl rfl h h1
theorem s206_144 : sm_at C X 206 144 [some (.ref a), l1] st N I L P = sm_at C X 206 145 [some (.ref a), l1] (.ref a :: st) N I L P := st_go b206 dX11_restore_144 (by decide) rfl
theorem s206_145 : sm_at C X 206 145 [some (.ref a), l1] st N I L P = sm_at C X 206 146 [some (.ref a), l1] (.ref a :: st) N I L P := st_go b206 dX11_restore_145 (by decide) rfl
theorem s206_146 (h : a < N) (h1 : sm_lay a = .inl 11) : sm_at C X 206 146 ls (.ref a :: st) N I L P = sm_at C X 206 149 ls (.int (I a 28) :: st) N I L P := st_gfI b206 dX11_restore_146 rfl rfl h h1
theorem s206_149 (h : a < N) (h1 : sm_lay a = .inl 11) : sm_at C X 206 149 ls (.int x0 :: .ref a :: st) N I L P = sm_at C X 206 152 ls st N (sm_up I a 17 x0) L P := st_pfI b206 dX11_restore_149 rfl rfl rfl h h1
theorem s206_152 : sm_at C X 206 152 [some (.ref a), l1] st N I L P = sm_at C X 206 153 [some (.ref a), l1] (.ref a :: st) N I L P := st_go b206 dX11_restore_152 (by decide) rfl
theorem s206_153 : sm_at C X 206 153 [some (.ref a), l1] st N I L P = sm_at C X 206 154 [some (.ref a), l1] (.ref a :: st) N I L P := st_go b206 dX11_restore_153 (by decide) rfl
theorem s206_154 (h : a < N) (h1 : sm_lay a = .inl 11) : sm_at C X 206 154 ls (.ref a :: st) N I L P = sm_at C X 206 157 ls (.int (I a 29) :: st) N I L P := st_gfI b206 dX11_restore_154 rfl rfl h h1
theorem s206_157 (h : a < N) (h1 : sm_lay a = .inl 11) : sm_at C X 206 157 ls (.int x0 :: .ref a :: st) N I L P = sm_at C X 206 160 ls st N (sm_up I a 21 x0) L P := st_pfI b206 dX11_restore_157 rfl rfl rfl h h1
theorem s206_160 : sm_at C X 206 160 [some (.ref a), l1] st N I L P = sm_at C X 206 161 [some (.ref a), l1] (.ref a :: st) N I L P := st_go b206 dX11_restore_160 (by decide) rfl
theorem s206_161 (h : a < N) (h1 : sm_lay a = .inl 11) : sm_at C X 206 161 ls (.ref a :: st) N I L P = sm_at C X 206 164 ls (.int (I a 12) :: st) N I L P := st_gfI b206 dX11_restore_161 rfl rfl h h1
theorem s206_164 : sm_at C X 206 164 ls [.int x0] N I L P = some (some (.int x0), N, I, L, P) := st_iret b206 dX11_restore_164 rfl
theorem b207 : sm_b 207 = cX11_roadMany := rfl
theorem s207_0 : sm_at C X 207 0 ls st N I L P = sm_at C X 207 1 ls (.int (nI 0) :: st) N I L P := st_go b207 dX11_roadMany_0 (by decide) rfl
theorem s207_1 : sm_at C X 207 1 [l0, l1, l2] (.int x0 :: st) N I L P = sm_at C X 207 2 [sm_cl l0, some (.int x0), l2] st N I L P := st_go b207 dX11_roadMany_1 (by decide) rfl
theorem s207_2 : sm_at C X 207 2 ls st N I L P = sm_at C X 207 3 ls (.int (nI 0) :: st) N I L P := st_go b207 dX11_roadMany_2 (by decide) rfl
theorem s207_3 : sm_at C X 207 3 [l0, l1, l2] (.int x0 :: st) N I L P = sm_at C X 207 4 [l0, sm_cl l1, some (.int x0)] st N I L P := st_go b207 dX11_roadMany_3 (by decide) rfl
theorem s207_4 : sm_at C X 207 4 [l0, l1, some (.int x0)] st N I L P = sm_at C X 207 5 [l0, l1, some (.int x0)] (.int x0 :: st) N I L P := st_go b207 dX11_roadMany_4 (by decide) rfl
theorem s207_5 : sm_at C X 207 5 ls st N I L P = sm_at C X 207 7 ls (.int (nI 36) :: st) N I L P := st_go b207 dX11_roadMany_5 (by decide) rfl
theorem s207_7 : sm_at C X 207 7 ls (.int x0 :: .int x1 :: st) N I L P = if x0 ≤ x1 then sm_at C X 207 44 ls st N I L P else sm_at C X 207 10 ls st N I L P := st_br b207 dX11_roadMany_7 (by decide) rfl
theorem s207_10 : sm_at C X 207 10 [l0, some (.int x0), l2] st N I L P = sm_at C X 207 11 [l0, some (.int x0), l2] (.int x0 :: st) N I L P := st_go b207 dX11_roadMany_10 (by decide) rfl
theorem s207_11 : sm_at C X 207 11 [l0, l1, some (.int x0)] st N I L P = sm_at C X 207 12 [l0, l1, some (.int x0)] (.int x0 :: st) N I L P := st_go b207 dX11_roadMany_11 (by decide) rfl
theorem s207_12 : sm_at C X 207 12 ls st N I L P = sm_at C X 207 14 ls (.int (nI 6) :: st) N I L P := st_go b207 dX11_roadMany_12 (by decide) rfl
theorem s207_14 (h : ¬ x0 = 0) : sm_at C X 207 14 ls (.int x0 :: .int x1 :: st) N I L P = sm_at C X 207 15 ls (.int (x1 / x0) :: st) N I L P := st_idiv b207 dX11_roadMany_14 h
theorem s207_15 : sm_at C X 207 15 [l0, l1, some (.int x0)] st N I L P = sm_at C X 207 16 [l0, l1, some (.int x0)] (.int x0 :: st) N I L P := st_go b207 dX11_roadMany_15 (by decide) rfl
theorem s207_16 : sm_at C X 207 16 ls st N I L P = sm_at C X 207 18 ls (.int (nI 6) :: st) N I L P := st_go b207 dX11_roadMany_16 (by decide) rfl
theorem s207_18 (h : ¬ x0 = 0) : sm_at C X 207 18 ls (.int x0 :: .int x1 :: st) N I L P = sm_at C X 207 19 ls (.int (x1 - x1 / x0 * x0) :: st) N I L P := st_irem b207 dX11_roadMany_18 h
theorem s207_19 : sm_at C X 207 19 ls (.int x0 :: .int x1 :: st) N I L P = if x0 ≤ x1 then sm_at C X 207 35 ls st N I L P else sm_at C X 207 22 ls st N I L P := st_br b207 dX11_roadMany_19 (by decide) rfl
theorem s207_22 : sm_at C X 207 22 [some (.ref a), l1, l2] st N I L P = sm_at C X 207 23 [some (.ref a), l1, l2] (.ref a :: st) N I L P := st_go b207 dX11_roadMany_22 (by decide) rfl
theorem s207_23 (h : a < N) (h1 : sm_lay a = .inl 11) : sm_at C X 207 23 ls (.ref a :: st) N I L P = sm_at C X 207 26 ls (va_rf (P a 0) :: st) N I L P := st_gfR b207 dX11_roadMany_23 rfl rfl h h1
theorem s207_26 : sm_at C X 207 26 [l0, l1, some (.int x0)] st N I L P = sm_at C X 207 27 [l0, l1, some (.int x0)] (.int x0 :: st) N I L P := st_go b207 dX11_roadMany_26 (by decide) rfl
theorem s207_27 (h : a < N) (h1 : k < sm_al a) : sm_at C X 207 27 ls (.int (nI k) :: .ref a :: st) N I L P = sm_at C X 207 28 ls (.int (I a k) :: st) N I L P := st_iald b207 dX11_roadMany_27 h h1
theorem s207_28 : sm_at C X 207 28 ls (.int x0 :: st) N I L P = if x0 ≤ 0 then sm_at C X 207 35 ls st N I L P else sm_at C X 207 31 ls st N I L P := st_br b207 dX11_roadMany_28 (by decide) rfl
theorem s207_31 : sm_at C X 207 31 ls st N I L P = sm_at C X 207 32 ls (.int (nI 1) :: st) N I L P := st_go b207 dX11_roadMany_31 (by decide) rfl
theorem s207_32 : sm_at C X 207 32 ls st N I L P = sm_at C X 207 36 ls st N I L P := st_go b207 dX11_roadMany_32 (by decide) rfl
theorem s207_35 : sm_at C X 207 35 ls st N I L P = sm_at C X 207 36 ls (.int (nI 0) :: st) N I L P := st_go b207 dX11_roadMany_35 (by decide) rfl
theorem s207_36 : sm_at C X 207 36 ls (.int x0 :: .int x1 :: st) N I L P = sm_at C X 207 37 ls (.int (x1 + x0) :: st) N I L P := st_go b207 dX11_roadMany_36 (by decide) rfl
theorem s207_37 : sm_at C X 207 37 [l0, l1, l2] (.int x0 :: st) N I L P = sm_at C X 207 38 [sm_cl l0, some (.int x0), l2] st N I L P := st_go b207 dX11_roadMany_37 (by decide) rfl
theorem s207_38 : sm_at C X 207 38 [l0, l1, some (.int x0)] st N I L P = sm_at C X 207 41 [l0, sm_cl l1, some (.int (x0 + (nI 1)))] st N I L P := st_go b207 dX11_roadMany_38 (by decide) rfl
theorem s207_41 : sm_at C X 207 41 ls st N I L P = sm_at C X 207 4 ls st N I L P := st_go b207 dX11_roadMany_41 (by decide) rfl
theorem s207_44 : sm_at C X 207 44 [l0, some (.int x0), l2] st N I L P = sm_at C X 207 45 [l0, some (.int x0), l2] (.int x0 :: st) N I L P := st_go b207 dX11_roadMany_44 (by decide) rfl
theorem s207_45 : sm_at C X 207 45 ls [.int x0] N I L P = some (some (.int x0), N, I, L, P) := st_iret b207 dX11_roadMany_45 rfl
theorem b208 : sm_b 208 = cX11_countOf := rfl
theorem s208_0 : sm_at C X 208 0 [l0, some (.int x0)] st N I L P = sm_at C X 208 1 [l0, some (.int x0)] (.int x0 :: st) N I L P := st_go b208 dX11_countOf_0 (by decide) rfl
theorem s208_1_0 : sm_at C X 208 1 ls (.int (nI 0) :: st) N I L P = sm_at C X 208 52 ls st N I L P := st_go b208 dX11_countOf_1 (by decide) rfl
theorem s208_1_1 : sm_at C X 208 1 ls (.int (nI 1) :: st) N I L P = sm_at C X 208 57 ls st N I L P := st_go b208 dX11_countOf_1 (by decide) rfl
theorem s208_1_2 : sm_at C X 208 1 ls (.int (nI 2) :: st) N I L P = sm_at C X 208 62 ls st N I L P := st_go b208 dX11_countOf_1 (by decide) rfl
theorem s208_1_3 : sm_at C X 208 1 ls (.int (nI 3) :: st) N I L P = sm_at C X 208 67 ls st N I L P := st_go b208 dX11_countOf_1 (by decide) rfl
theorem s208_1_4 : sm_at C X 208 1 ls (.int (nI 4) :: st) N I L P = sm_at C X 208 72 ls st N I L P := st_go b208 dX11_countOf_1 (by decide) rfl
theorem s208_1_5 : sm_at C X 208 1 ls (.int (nI 5) :: st) N I L P = sm_at C X 208 77 ls st N I L P := st_go b208 dX11_countOf_1 (by decide) rfl
theorem s208_1_6 : sm_at C X 208 1 ls (.int (nI 6) :: st) N I L P = sm_at C X 208 82 ls st N I L P := st_go b208 dX11_countOf_1 (by decide) rfl
theorem s208_1_7 : sm_at C X 208 1 ls (.int (nI 7) :: st) N I L P = sm_at C X 208 87 ls st N I L P := st_go b208 dX11_countOf_1 (by decide) rfl
theorem s208_1_8 : sm_at C X 208 1 ls (.int (nI 8) :: st) N I L P = sm_at C X 208 92 ls st N I L P := st_go b208 dX11_countOf_1 (by decide) rfl
theorem s208_1_d (h : x0.toInt < 0 ∨ 8 < x0.toInt) : sm_at C X 208 1 ls (.int x0 :: st) N I L P = sm_at C X 208 97 ls st N I L P := st_tab b208 dX11_countOf_1 rfl h
theorem s208_52 : sm_at C X 208 52 [some (.ref a), l1] st N I L P = sm_at C X 208 53 [some (.ref a), l1] (.ref a :: st) N I L P := st_go b208 dX11_countOf_52 (by decide) rfl
theorem s208_53 (h : a < N) (h1 : sm_lay a = .inl 11) : sm_at C X 208 53 ls (.ref a :: st) N I L P = sm_at C X 208 56 ls (.int (I a 8) :: st) N I L P := st_gfI b208 dX11_countOf_53 rfl rfl h h1
theorem s208_56 : sm_at C X 208 56 ls [.int x0] N I L P = some (some (.int x0), N, I, L, P) := st_iret b208 dX11_countOf_56 rfl
theorem s208_57 : sm_at C X 208 57 [some (.ref a), l1] st N I L P = sm_at C X 208 58 [some (.ref a), l1] (.ref a :: st) N I L P := st_go b208 dX11_countOf_57 (by decide) rfl
theorem s208_58 (h : a < N) (h1 : sm_lay a = .inl 11) : sm_at C X 208 58 ls (.ref a :: st) N I L P = sm_at C X 208 61 ls (.int (I a 12) :: st) N I L P := st_gfI b208 dX11_countOf_58 rfl rfl h h1
theorem s208_61 : sm_at C X 208 61 ls [.int x0] N I L P = some (some (.int x0), N, I, L, P) := st_iret b208 dX11_countOf_61 rfl
theorem s208_62 : sm_at C X 208 62 [some (.ref a), l1] st N I L P = sm_at C X 208 63 [some (.ref a), l1] (.ref a :: st) N I L P := st_go b208 dX11_countOf_62 (by decide) rfl
theorem s208_63 (h : a < N) (h1 : sm_lay a = .inl 11) : sm_at C X 208 63 ls [.ref a] N I L P = sm_af C X 208 66 ls [] (C 207 [.ref a] N I L P) := st_virt b208 dX11_countOf_63 (n := 1) (rest := []) rfl rfl rfl rfl rfl rfl rfl h h1
theorem s208_66 : sm_at C X 208 66 ls [.int x0] N I L P = some (some (.int x0), N, I, L, P) := st_iret b208 dX11_countOf_66 rfl
theorem s208_67 : sm_at C X 208 67 [some (.ref a), l1] st N I L P = sm_at C X 208 68 [some (.ref a), l1] (.ref a :: st) N I L P := st_go b208 dX11_countOf_67 (by decide) rfl
theorem s208_68 (h : a < N) (h1 : sm_lay a = .inl 11) : sm_at C X 208 68 ls (.ref a :: st) N I L P = sm_at C X 208 71 ls (.int (I a 17) :: st) N I L P := st_gfI b208 dX11_countOf_68 rfl rfl h h1
theorem s208_71 : sm_at C X 208 71 ls [.int x0] N I L P = some (some (.int x0), N, I, L, P) := st_iret b208 dX11_countOf_71 rfl
theorem s208_72 : sm_at C X 208 72 [some (.ref a), l1] st N I L P = sm_at C X 208 73 [some (.ref a), l1] (.ref a :: st) N I L P := st_go b208 dX11_countOf_72 (by decide) rfl
theorem s208_73 (h : a < N) (h1 : sm_lay a = .inl 11) : sm_at C X 208 73 ls (.ref a :: st) N I L P = sm_at C X 208 76 ls (.int (I a 19) :: st) N I L P := st_gfI b208 dX11_countOf_73 rfl rfl h h1
theorem s208_76 : sm_at C X 208 76 ls [.int x0] N I L P = some (some (.int x0), N, I, L, P) := st_iret b208 dX11_countOf_76 rfl
theorem s208_77 : sm_at C X 208 77 [some (.ref a), l1] st N I L P = sm_at C X 208 78 [some (.ref a), l1] (.ref a :: st) N I L P := st_go b208 dX11_countOf_77 (by decide) rfl
theorem s208_78 (h : a < N) (h1 : sm_lay a = .inl 11) : sm_at C X 208 78 ls (.ref a :: st) N I L P = sm_at C X 208 81 ls (.int (I a 21) :: st) N I L P := st_gfI b208 dX11_countOf_78 rfl rfl h h1
theorem s208_81 : sm_at C X 208 81 ls [.int x0] N I L P = some (some (.int x0), N, I, L, P) := st_iret b208 dX11_countOf_81 rfl
theorem s208_82 : sm_at C X 208 82 [some (.ref a), l1] st N I L P = sm_at C X 208 83 [some (.ref a), l1] (.ref a :: st) N I L P := st_go b208 dX11_countOf_82 (by decide) rfl
theorem s208_83 (h : a < N) (h1 : sm_lay a = .inl 11) : sm_at C X 208 83 ls (.ref a :: st) N I L P = sm_at C X 208 86 ls (.int (I a 3) :: st) N I L P := st_gfI b208 dX11_countOf_83 rfl rfl h h1
theorem s208_86 : sm_at C X 208 86 ls [.int x0] N I L P = some (some (.int x0), N, I, L, P) := st_iret b208 dX11_countOf_86 rfl
theorem s208_87 : sm_at C X 208 87 [some (.ref a), l1] st N I L P = sm_at C X 208 88 [some (.ref a), l1] (.ref a :: st) N I L P := st_go b208 dX11_countOf_87 (by decide) rfl
theorem s208_88 (h : a < N) (h1 : sm_lay a = .inl 11) : sm_at C X 208 88 ls (.ref a :: st) N I L P = sm_at C X 208 91 ls (.int (I a 9) :: st) N I L P := st_gfI b208 dX11_countOf_88 rfl rfl h h1
theorem s208_91 : sm_at C X 208 91 ls [.int x0] N I L P = some (some (.int x0), N, I, L, P) := st_iret b208 dX11_countOf_91 rfl
theorem s208_92 : sm_at C X 208 92 [some (.ref a), l1] st N I L P = sm_at C X 208 93 [some (.ref a), l1] (.ref a :: st) N I L P := st_go b208 dX11_countOf_92 (by decide) rfl
theorem s208_93 (h : a < N) (h1 : sm_lay a = .inl 11) : sm_at C X 208 93 ls (.ref a :: st) N I L P = sm_at C X 208 96 ls (.int (I a 15) :: st) N I L P := st_gfI b208 dX11_countOf_93 rfl rfl h h1
theorem s208_96 : sm_at C X 208 96 ls [.int x0] N I L P = some (some (.int x0), N, I, L, P) := st_iret b208 dX11_countOf_96 rfl
theorem s208_97 : sm_at C X 208 97 ls st N I L P = sm_at C X 208 99 ls (.int (-102) :: st) N I L P := st_go b208 dX11_countOf_97 (by decide) rfl
theorem s208_99 : sm_at C X 208 99 ls [.int x0] N I L P = some (some (.int x0), N, I, L, P) := st_iret b208 dX11_countOf_99 rfl
theorem b209 : sm_b 209 = cX11_count := rfl
theorem s209_0 : sm_at C X 209 0 [some (.ref a), l1] st N I L P = sm_at C X 209 1 [some (.ref a), l1] (.ref a :: st) N I L P := st_go b209 dX11_count_0 (by decide) rfl
theorem s209_1 : sm_at C X 209 1 [l0, some (.int x0)] st N I L P = sm_at C X 209 2 [l0, some (.int x0)] (.int x0 :: st) N I L P := st_go b209 dX11_count_1 (by decide) rfl
theorem s209_2 (h : a < N) (h1 : sm_lay a = .inl 11) : sm_at C X 209 2 ls [w1, .ref a] N I L P = sm_af C X 209 5 ls [] (C 208 [.ref a, w1] N I L P) := st_virt b209 dX11_count_2 (n := 2) (rest := []) rfl rfl rfl rfl rfl rfl rfl h h1
theorem s209_5 : sm_at C X 209 5 ls [.int x0] N I L P = some (some (.int x0), N, I, L, P) := st_iret b209 dX11_count_5 rfl
theorem b210 : sm_b 210 = cX11_say := rfl
theorem s210_0 : sm_at C X 210 0 [some (.ref a), l1, l2] st N I L P = sm_at C X 210 1 [some (.ref a), l1, l2] (.ref a :: st) N I L P := st_go b210 dX11_say_0 (by decide) rfl
theorem s210_1 : sm_at C X 210 1 ls st N I L P = sm_at C X 210 4 ls (.long (lN 31) :: st) N I L P := st_go b210 dX11_say_1 (by decide) rfl
theorem s210_4 : sm_at C X 210 4 [some (.ref a), l1, l2] st N I L P = sm_at C X 210 5 [some (.ref a), l1, l2] (.ref a :: st) N I L P := st_go b210 dX11_say_4 (by decide) rfl
theorem s210_5 (h : a < N) (h1 : sm_lay a = .inl 11) : sm_at C X 210 5 ls (.ref a :: st) N I L P = sm_at C X 210 8 ls (.long (L a 34) :: st) N I L P := st_gfL b210 dX11_say_5 rfl rfl h h1
theorem s210_8 : sm_at C X 210 8 ls (.long z0 :: .long z1 :: st) N I L P = sm_at C X 210 9 ls (.long (z1 * z0) :: st) N I L P := st_go b210 dX11_say_8 (by decide) rfl
theorem s210_9 : sm_at C X 210 9 [l0, some (.long z0), l2] st N I L P = sm_at C X 210 10 [l0, some (.long z0), l2] (.long z0 :: st) N I L P := st_go b210 dX11_say_9 (by decide) rfl
theorem s210_10 : sm_at C X 210 10 ls (.long z0 :: .long z1 :: st) N I L P = sm_at C X 210 11 ls (.long (z1 + z0) :: st) N I L P := st_go b210 dX11_say_10 (by decide) rfl
theorem s210_11 (h : a < N) (h1 : sm_lay a = .inl 11) : sm_at C X 210 11 ls (.long z0 :: .ref a :: st) N I L P = sm_at C X 210 14 ls st N I (sm_up L a 34 z0) P := st_pfL b210 dX11_say_11 rfl rfl rfl h h1
theorem s210_14 : sm_at C X 210 14 ls [] N I L P = some (none, N, I, L, P) := st_ret b210 dX11_say_14 (by decide) rfl
theorem b211 : sm_b 211 = cX11_sayNews := rfl
theorem s211_0 : sm_at C X 211 0 [some (.ref a), l1] st N I L P = sm_at C X 211 1 [some (.ref a), l1] (.ref a :: st) N I L P := st_go b211 dX11_sayNews_0 (by decide) rfl
theorem s211_1 : sm_at C X 211 1 ls st N I L P = sm_at C X 211 2 ls (.int (nI 0) :: st) N I L P := st_go b211 dX11_sayNews_1 (by decide) rfl
theorem s211_2 (h : a < N) (h1 : sm_lay a = .inl 11) : sm_at C X 211 2 ls [w1, .ref a] N I L P = sm_af C X 211 5 ls [] (C 179 [.ref a, w1] N I L P) := st_virt b211 dX11_sayNews_2 (n := 2) (rest := []) rfl rfl rfl rfl rfl rfl rfl h h1
theorem s211_5 : sm_at C X 211 5 [some (.ref a), l1] st N I L P = sm_at C X 211 6 [some (.ref a), l1] (.ref a :: st) N I L P := st_go b211 dX11_sayNews_5 (by decide) rfl
theorem s211_6 (h : a < N) (h1 : sm_lay a = .inl 11) : sm_at C X 211 6 ls [.ref a] N I L P = sm_af C X 211 9 ls [] (C 180 [.ref a] N I L P) := st_virt b211 dX11_sayNews_6 (n := 1) (rest := []) rfl rfl rfl rfl rfl rfl rfl h h1
theorem s211_9 : sm_at C X 211 9 ls st N I L P = sm_at C X 211 10 ls (.int (nI 0) :: st) N I L P := st_go b211 dX11_sayNews_9 (by decide) rfl
theorem s211_10 : sm_at C X 211 10 [l0, l1] (.int x0 :: st) N I L P = sm_at C X 211 11 [sm_cl l0, some (.int x0)] st N I L P := st_go b211 dX11_sayNews_10 (by decide) rfl
theorem s211_11 : sm_at C X 211 11 [l0, some (.int x0)] st N I L P = sm_at C X 211 12 [l0, some (.int x0)] (.int x0 :: st) N I L P := st_go b211 dX11_sayNews_11 (by decide) rfl
theorem s211_12 : sm_at C X 211 12 ls st N I L P = sm_at C X 211 14 ls (.int (nI 36) :: st) N I L P := st_go b211 dX11_sayNews_12 (by decide) rfl
theorem s211_14 : sm_at C X 211 14 ls (.int x0 :: .int x1 :: st) N I L P = if x0 ≤ x1 then sm_at C X 211 40 ls st N I L P else sm_at C X 211 17 ls st N I L P := st_br b211 dX11_sayNews_14 (by decide) rfl
theorem s211_17 : sm_at C X 211 17 [some (.ref a), l1] st N I L P = sm_at C X 211 18 [some (.ref a), l1] (.ref a :: st) N I L P := st_go b211 dX11_sayNews_17 (by decide) rfl
theorem s211_18 : sm_at C X 211 18 [some (.ref a), l1] st N I L P = sm_at C X 211 19 [some (.ref a), l1] (.ref a :: st) N I L P := st_go b211 dX11_sayNews_18 (by decide) rfl
theorem s211_19 : sm_at C X 211 19 [l0, some (.int x0)] st N I L P = sm_at C X 211 20 [l0, some (.int x0)] (.int x0 :: st) N I L P := st_go b211 dX11_sayNews_19 (by decide) rfl
theorem s211_20 : sm_at C X 211 20 ls st N I L P = sm_at C X 211 22 ls (.int (nI 6) :: st) N I L P := st_go b211 dX11_sayNews_20 (by decide) rfl
theorem s211_22 (h : ¬ x0 = 0) : sm_at C X 211 22 ls (.int x0 :: .int x1 :: st) N I L P = sm_at C X 211 23 ls (.int (x1 / x0) :: st) N I L P := st_idiv b211 dX11_sayNews_22 h
theorem s211_23 : sm_at C X 211 23 [l0, some (.int x0)] st N I L P = sm_at C X 211 24 [l0, some (.int x0)] (.int x0 :: st) N I L P := st_go b211 dX11_sayNews_23 (by decide) rfl
theorem s211_24 : sm_at C X 211 24 ls st N I L P = sm_at C X 211 26 ls (.int (nI 6) :: st) N I L P := st_go b211 dX11_sayNews_24 (by decide) rfl
theorem s211_26 (h : ¬ x0 = 0) : sm_at C X 211 26 ls (.int x0 :: .int x1 :: st) N I L P = sm_at C X 211 27 ls (.int (x1 - x1 / x0 * x0) :: st) N I L P := st_irem b211 dX11_sayNews_26 h
theorem s211_27 (h : a < N) (h1 : sm_lay a = .inl 11) : sm_at C X 211 27 ls [w2, w1, .ref a, v0] N I L P = sm_af C X 211 30 ls [v0] (C 181 [.ref a, w1, w2] N I L P) := st_virt b211 dX11_sayNews_27 (n := 3) (rest := [v0]) rfl rfl rfl rfl rfl rfl rfl h h1
theorem s211_30 : sm_at C X 211 30 ls (.int x0 :: st) N I L P = sm_at C X 211 31 ls (.long x0.toInt64 :: st) N I L P := st_go b211 dX11_sayNews_30 (by decide) rfl
theorem s211_31 (h : a < N) (h1 : sm_lay a = .inl 11) : sm_at C X 211 31 ls [w1, .ref a] N I L P = sm_af C X 211 34 ls [] (C 210 [.ref a, w1] N I L P) := st_virt b211 dX11_sayNews_31 (n := 2) (rest := []) rfl rfl rfl rfl rfl rfl rfl h h1
theorem s211_34 : sm_at C X 211 34 [l0, some (.int x0)] st N I L P = sm_at C X 211 37 [sm_cl l0, some (.int (x0 + (nI 1)))] st N I L P := st_go b211 dX11_sayNews_34 (by decide) rfl
theorem s211_37 : sm_at C X 211 37 ls st N I L P = sm_at C X 211 11 ls st N I L P := st_go b211 dX11_sayNews_37 (by decide) rfl
theorem s211_40 : sm_at C X 211 40 ls [] N I L P = some (none, N, I, L, P) := st_ret b211 dX11_sayNews_40 (by decide) rfl
theorem b212 : sm_b 212 = cX11_digest := rfl
theorem s212_0 : sm_at C X 212 0 [some (.ref a), l1, l2] st N I L P = sm_at C X 212 1 [some (.ref a), l1, l2] (.ref a :: st) N I L P := st_go b212 dX11_digest_0 (by decide) rfl
theorem s212_1 : sm_at C X 212 1 ls st N I L P = sm_at C X 212 4 ls (.long (lN 577) :: st) N I L P := st_go b212 dX11_digest_1 (by decide) rfl
theorem s212_4 (h : a < N) (h1 : sm_lay a = .inl 11) : sm_at C X 212 4 ls (.long z0 :: .ref a :: st) N I L P = sm_at C X 212 7 ls st N I (sm_up L a 34 z0) P := st_pfL b212 dX11_digest_4 rfl rfl rfl h h1
theorem s212_7 : sm_at C X 212 7 ls st N I L P = sm_at C X 212 8 ls (.int (nI 0) :: st) N I L P := st_go b212 dX11_digest_7 (by decide) rfl
theorem s212_8 : sm_at C X 212 8 [l0, l1, l2] (.int x0 :: st) N I L P = sm_at C X 212 9 [sm_cl l0, some (.int x0), l2] st N I L P := st_go b212 dX11_digest_8 (by decide) rfl
theorem s212_9 : sm_at C X 212 9 [l0, some (.int x0), l2] st N I L P = sm_at C X 212 10 [l0, some (.int x0), l2] (.int x0 :: st) N I L P := st_go b212 dX11_digest_9 (by decide) rfl
theorem s212_10 : sm_at C X 212 10 ls st N I L P = sm_at C X 212 12 ls (.int (nI 7) :: st) N I L P := st_go b212 dX11_digest_10 (by decide) rfl
theorem s212_12 : sm_at C X 212 12 [some (.ref a), l1, l2] st N I L P = sm_at C X 212 13 [some (.ref a), l1, l2] (.ref a :: st) N I L P := st_go b212 dX11_digest_12 (by decide) rfl
theorem s212_13 (h : a < N) (h1 : sm_lay a = .inl 11) : sm_at C X 212 13 ls (.ref a :: st) N I L P = sm_at C X 212 16 ls (.int (I a 8) :: st) N I L P := st_gfI b212 dX11_digest_13 rfl rfl h h1
theorem s212_16 : sm_at C X 212 16 ls (.int x0 :: .int x1 :: st) N I L P = sm_at C X 212 17 ls (.int (x1 * x0) :: st) N I L P := st_go b212 dX11_digest_16 (by decide) rfl
theorem s212_17 : sm_at C X 212 17 ls (.int x0 :: .int x1 :: st) N I L P = if x0 ≤ x1 then sm_at C X 212 37 ls st N I L P else sm_at C X 212 20 ls st N I L P := st_br b212 dX11_digest_17 (by decide) rfl
theorem s212_20 : sm_at C X 212 20 [some (.ref a), l1, l2] st N I L P = sm_at C X 212 21 [some (.ref a), l1, l2] (.ref a :: st) N I L P := st_go b212 dX11_digest_20 (by decide) rfl
theorem s212_21 : sm_at C X 212 21 [some (.ref a), l1, l2] st N I L P = sm_at C X 212 22 [some (.ref a), l1, l2] (.ref a :: st) N I L P := st_go b212 dX11_digest_21 (by decide) rfl
theorem s212_22 (h : a < N) (h1 : sm_lay a = .inl 11) : sm_at C X 212 22 ls (.ref a :: st) N I L P = sm_at C X 212 25 ls (va_rf (P a 10) :: st) N I L P := st_gfR b212 dX11_digest_22 rfl rfl h h1
theorem s212_25 : sm_at C X 212 25 [l0, some (.int x0), l2] st N I L P = sm_at C X 212 26 [l0, some (.int x0), l2] (.int x0 :: st) N I L P := st_go b212 dX11_digest_25 (by decide) rfl
theorem s212_26 (h : a < N) (h1 : k < sm_al a) : sm_at C X 212 26 ls (.int (nI k) :: .ref a :: st) N I L P = sm_at C X 212 27 ls (.int (I a k) :: st) N I L P := st_iald b212 dX11_digest_26 h h1
theorem s212_27 : sm_at C X 212 27 ls (.int x0 :: st) N I L P = sm_at C X 212 28 ls (.long x0.toInt64 :: st) N I L P := st_go b212 dX11_digest_27 (by decide) rfl
theorem s212_28 (h : a < N) (h1 : sm_lay a = .inl 11) : sm_at C X 212 28 ls [w1, .ref a] N I L P = sm_af C X 212 31 ls [] (C 210 [.ref a, w1] N I L P) := st_virt b212 dX11_digest_28 (n := 2) (rest := []) rfl rfl rfl rfl rfl rfl rfl h h1
theorem s212_31 : sm_at C X 212 31 [l0, some (.int x0), l2] st N I L P = sm_at C X 212 34 [sm_cl l0, some (.int (x0 + (nI 1))), l2] st N I L P := st_go b212 dX11_digest_31 (by decide) rfl
theorem s212_34 : sm_at C X 212 34 ls st N I L P = sm_at C X 212 9 ls st N I L P := st_go b212 dX11_digest_34 (by decide) rfl
theorem s212_37 : sm_at C X 212 37 ls st N I L P = sm_at C X 212 38 ls (.int (nI 0) :: st) N I L P := st_go b212 dX11_digest_37 (by decide) rfl
theorem s212_38 : sm_at C X 212 38 [l0, l1, l2] (.int x0 :: st) N I L P = sm_at C X 212 39 [sm_cl l0, some (.int x0), l2] st N I L P := st_go b212 dX11_digest_38 (by decide) rfl
theorem s212_39 : sm_at C X 212 39 [l0, some (.int x0), l2] st N I L P = sm_at C X 212 40 [l0, some (.int x0), l2] (.int x0 :: st) N I L P := st_go b212 dX11_digest_39 (by decide) rfl
theorem s212_40 : sm_at C X 212 40 ls st N I L P = sm_at C X 212 42 ls (.int (nI 10) :: st) N I L P := st_go b212 dX11_digest_40 (by decide) rfl
theorem s212_42 : sm_at C X 212 42 ls (.int x0 :: .int x1 :: st) N I L P = if x0 ≤ x1 then sm_at C X 212 93 ls st N I L P else sm_at C X 212 45 ls st N I L P := st_br b212 dX11_digest_42 (by decide) rfl
theorem s212_45 : sm_at C X 212 45 ls st N I L P = sm_at C X 212 46 ls (.int (nI 0) :: st) N I L P := st_go b212 dX11_digest_45 (by decide) rfl
theorem s212_46 : sm_at C X 212 46 [l0, l1, l2] (.int x0 :: st) N I L P = sm_at C X 212 47 [l0, sm_cl l1, some (.int x0)] st N I L P := st_go b212 dX11_digest_46 (by decide) rfl
theorem s212_47 : sm_at C X 212 47 [l0, l1, some (.int x0)] st N I L P = sm_at C X 212 48 [l0, l1, some (.int x0)] (.int x0 :: st) N I L P := st_go b212 dX11_digest_47 (by decide) rfl
theorem s212_48 : sm_at C X 212 48 ls st N I L P = sm_at C X 212 49 ls (.int (nI 3) :: st) N I L P := st_go b212 dX11_digest_48 (by decide) rfl
theorem s212_49 : sm_at C X 212 49 ls (.int x0 :: .int x1 :: st) N I L P = if x0 ≤ x1 then sm_at C X 212 69 ls st N I L P else sm_at C X 212 52 ls st N I L P := st_br b212 dX11_digest_49 (by decide) rfl
theorem s212_52 : sm_at C X 212 52 [some (.ref a), l1, l2] st N I L P = sm_at C X 212 53 [some (.ref a), l1, l2] (.ref a :: st) N I L P := st_go b212 dX11_digest_52 (by decide) rfl
theorem s212_53 : sm_at C X 212 53 [some (.ref a), l1, l2] st N I L P = sm_at C X 212 54 [some (.ref a), l1, l2] (.ref a :: st) N I L P := st_go b212 dX11_digest_53 (by decide) rfl
theorem s212_54 : sm_at C X 212 54 [l0, some (.int x0), l2] st N I L P = sm_at C X 212 55 [l0, some (.int x0), l2] (.int x0 :: st) N I L P := st_go b212 dX11_digest_54 (by decide) rfl
theorem s212_55 : sm_at C X 212 55 [l0, l1, some (.int x0)] st N I L P = sm_at C X 212 56 [l0, l1, some (.int x0)] (.int x0 :: st) N I L P := st_go b212 dX11_digest_55 (by decide) rfl
theorem s212_56 (h : a < N) (h1 : sm_lay a = .inl 11) : sm_at C X 212 56 ls [w2, w1, .ref a, v0] N I L P = sm_af C X 212 59 ls [v0] (C 162 [.ref a, w1, w2] N I L P) := st_virt b212 dX11_digest_56 (n := 3) (rest := [v0]) rfl rfl rfl rfl rfl rfl rfl h h1
theorem s212_59 : sm_at C X 212 59 ls (.int x0 :: st) N I L P = sm_at C X 212 60 ls (.long x0.toInt64 :: st) N I L P := st_go b212 dX11_digest_59 (by decide) rfl
theorem s212_60 (h : a < N) (h1 : sm_lay a = .inl 11) : sm_at C X 212 60 ls [w1, .ref a] N I L P = sm_af C X 212 63 ls [] (C 210 [.ref a, w1] N I L P) := st_virt b212 dX11_digest_60 (n := 2) (rest := []) rfl rfl rfl rfl rfl rfl rfl h h1
theorem s212_63 : sm_at C X 212 63 [l0, l1, some (.int x0)] st N I L P = sm_at C X 212 66 [l0, sm_cl l1, some (.int (x0 + (nI 1)))] st N I L P := st_go b212 dX11_digest_63 (by decide) rfl
theorem s212_66 : sm_at C X 212 66 ls st N I L P = sm_at C X 212 47 ls st N I L P := st_go b212 dX11_digest_66 (by decide) rfl
theorem s212_69 : sm_at C X 212 69 [some (.ref a), l1, l2] st N I L P = sm_at C X 212 70 [some (.ref a), l1, l2] (.ref a :: st) N I L P := st_go b212 dX11_digest_69 (by decide) rfl
theorem s212_70 : sm_at C X 212 70 [some (.ref a), l1, l2] st N I L P = sm_at C X 212 71 [some (.ref a), l1, l2] (.ref a :: st) N I L P := st_go b212 dX11_digest_70 (by decide) rfl
theorem s212_71 : sm_at C X 212 71 [l0, some (.int x0), l2] st N I L P = sm_at C X 212 72 [l0, some (.int x0), l2] (.int x0 :: st) N I L P := st_go b212 dX11_digest_71 (by decide) rfl
theorem s212_72 : sm_at C X 212 72 ls st N I L P = sm_at C X 212 73 ls (.int (nI 0) :: st) N I L P := st_go b212 dX11_digest_72 (by decide) rfl
theorem s212_73 : sm_at C X 212 73 ls st N I L P = sm_at C X 212 76 ls (.int (nI 1999) :: st) N I L P := st_go b212 dX11_digest_73 (by decide) rfl
theorem s212_76 : sm_at C X 212 76 [some (.ref a), l1, l2] st N I L P = sm_at C X 212 77 [some (.ref a), l1, l2] (.ref a :: st) N I L P := st_go b212 dX11_digest_76 (by decide) rfl
theorem s212_77 (h : a < N) (h1 : sm_lay a = .inl 11) : sm_at C X 212 77 ls (.ref a :: st) N I L P = sm_at C X 212 80 ls (.int (I a 12) :: st) N I L P := st_gfI b212 dX11_digest_77 rfl rfl h h1
theorem s212_80 (h : a < N) (h1 : sm_lay a = .inl 11) : sm_at C X 212 80 ls [w4, w3, w2, w1, .ref a, v0] N I L P = sm_af C X 212 83 ls [v0] (C 168 [.ref a, w1, w2, w3, w4] N I L P) := st_virt b212 dX11_digest_80 (n := 5) (rest := [v0]) rfl rfl rfl rfl rfl rfl rfl h h1
theorem s212_83 : sm_at C X 212 83 ls (.int x0 :: st) N I L P = sm_at C X 212 84 ls (.long x0.toInt64 :: st) N I L P := st_go b212 dX11_digest_83 (by decide) rfl
theorem s212_84 (h : a < N) (h1 : sm_lay a = .inl 11) : sm_at C X 212 84 ls [w1, .ref a] N I L P = sm_af C X 212 87 ls [] (C 210 [.ref a, w1] N I L P) := st_virt b212 dX11_digest_84 (n := 2) (rest := []) rfl rfl rfl rfl rfl rfl rfl h h1
theorem s212_87 : sm_at C X 212 87 [l0, some (.int x0), l2] st N I L P = sm_at C X 212 90 [sm_cl l0, some (.int (x0 + (nI 1))), l2] st N I L P := st_go b212 dX11_digest_87 (by decide) rfl
theorem s212_90 : sm_at C X 212 90 ls st N I L P = sm_at C X 212 39 ls st N I L P := st_go b212 dX11_digest_90 (by decide) rfl
theorem s212_93 : sm_at C X 212 93 [some (.ref a), l1, l2] st N I L P = sm_at C X 212 94 [some (.ref a), l1, l2] (.ref a :: st) N I L P := st_go b212 dX11_digest_93 (by decide) rfl
theorem s212_94 : sm_at C X 212 94 [some (.ref a), l1, l2] st N I L P = sm_at C X 212 95 [some (.ref a), l1, l2] (.ref a :: st) N I L P := st_go b212 dX11_digest_94 (by decide) rfl
theorem s212_95 (h : a < N) (h1 : sm_lay a = .inl 11) : sm_at C X 212 95 ls [.ref a, v0] N I L P = sm_af C X 212 98 ls [v0] (C 175 [.ref a] N I L P) := st_virt b212 dX11_digest_95 (n := 1) (rest := [v0]) rfl rfl rfl rfl rfl rfl rfl h h1
theorem s212_98 : sm_at C X 212 98 ls (.int x0 :: st) N I L P = sm_at C X 212 99 ls (.long x0.toInt64 :: st) N I L P := st_go b212 dX11_digest_98 (by decide) rfl
theorem s212_99 (h : a < N) (h1 : sm_lay a = .inl 11) : sm_at C X 212 99 ls [w1, .ref a] N I L P = sm_af C X 212 102 ls [] (C 210 [.ref a, w1] N I L P) := st_virt b212 dX11_digest_99 (n := 2) (rest := []) rfl rfl rfl rfl rfl rfl rfl h h1
theorem s212_102 : sm_at C X 212 102 [some (.ref a), l1, l2] st N I L P = sm_at C X 212 103 [some (.ref a), l1, l2] (.ref a :: st) N I L P := st_go b212 dX11_digest_102 (by decide) rfl
theorem s212_103 (h : a < N) (h1 : sm_lay a = .inl 11) : sm_at C X 212 103 ls [.ref a] N I L P = sm_af C X 212 106 ls [] (C 211 [.ref a] N I L P) := st_virt b212 dX11_digest_103 (n := 1) (rest := []) rfl rfl rfl rfl rfl rfl rfl h h1
theorem s212_106 : sm_at C X 212 106 ls st N I L P = sm_at C X 212 107 ls (.int (nI 0) :: st) N I L P := st_go b212 dX11_digest_106 (by decide) rfl
theorem s212_107 : sm_at C X 212 107 [l0, l1, l2] (.int x0 :: st) N I L P = sm_at C X 212 108 [sm_cl l0, some (.int x0), l2] st N I L P := st_go b212 dX11_digest_107 (by decide) rfl
theorem s212_108 : sm_at C X 212 108 [l0, some (.int x0), l2] st N I L P = sm_at C X 212 109 [l0, some (.int x0), l2] (.int x0 :: st) N I L P := st_go b212 dX11_digest_108 (by decide) rfl
theorem s212_109 : sm_at C X 212 109 [some (.ref a), l1, l2] st N I L P = sm_at C X 212 110 [some (.ref a), l1, l2] (.ref a :: st) N I L P := st_go b212 dX11_digest_109 (by decide) rfl
theorem s212_110 (h : a < N) (h1 : sm_lay a = .inl 11) : sm_at C X 212 110 ls (.ref a :: st) N I L P = sm_at C X 212 113 ls (.int (I a 17) :: st) N I L P := st_gfI b212 dX11_digest_110 rfl rfl h h1
theorem s212_113 : sm_at C X 212 113 ls (.int x0 :: .int x1 :: st) N I L P = if x0 ≤ x1 then sm_at C X 212 133 ls st N I L P else sm_at C X 212 116 ls st N I L P := st_br b212 dX11_digest_113 (by decide) rfl
theorem s212_116 : sm_at C X 212 116 [some (.ref a), l1, l2] st N I L P = sm_at C X 212 117 [some (.ref a), l1, l2] (.ref a :: st) N I L P := st_go b212 dX11_digest_116 (by decide) rfl
theorem s212_117 : sm_at C X 212 117 [some (.ref a), l1, l2] st N I L P = sm_at C X 212 118 [some (.ref a), l1, l2] (.ref a :: st) N I L P := st_go b212 dX11_digest_117 (by decide) rfl
theorem s212_118 (h : a < N) (h1 : sm_lay a = .inl 11) : sm_at C X 212 118 ls (.ref a :: st) N I L P = sm_at C X 212 121 ls (va_rf (P a 18) :: st) N I L P := st_gfR b212 dX11_digest_118 rfl rfl h h1
theorem s212_121 : sm_at C X 212 121 [l0, some (.int x0), l2] st N I L P = sm_at C X 212 122 [l0, some (.int x0), l2] (.int x0 :: st) N I L P := st_go b212 dX11_digest_121 (by decide) rfl
theorem s212_122 (h : a < N) (h1 : k < sm_al a) : sm_at C X 212 122 ls (.int (nI k) :: .ref a :: st) N I L P = sm_at C X 212 123 ls (.int (I a k) :: st) N I L P := st_iald b212 dX11_digest_122 h h1
theorem s212_123 : sm_at C X 212 123 ls (.int x0 :: st) N I L P = sm_at C X 212 124 ls (.long x0.toInt64 :: st) N I L P := st_go b212 dX11_digest_123 (by decide) rfl
theorem s212_124 (h : a < N) (h1 : sm_lay a = .inl 11) : sm_at C X 212 124 ls [w1, .ref a] N I L P = sm_af C X 212 127 ls [] (C 210 [.ref a, w1] N I L P) := st_virt b212 dX11_digest_124 (n := 2) (rest := []) rfl rfl rfl rfl rfl rfl rfl h h1
theorem s212_127 : sm_at C X 212 127 [l0, some (.int x0), l2] st N I L P = sm_at C X 212 130 [sm_cl l0, some (.int (x0 + (nI 1))), l2] st N I L P := st_go b212 dX11_digest_127 (by decide) rfl
theorem s212_130 : sm_at C X 212 130 ls st N I L P = sm_at C X 212 108 ls st N I L P := st_go b212 dX11_digest_130 (by decide) rfl
theorem s212_133 : sm_at C X 212 133 [some (.ref a), l1, l2] st N I L P = sm_at C X 212 134 [some (.ref a), l1, l2] (.ref a :: st) N I L P := st_go b212 dX11_digest_133 (by decide) rfl
theorem s212_134 : sm_at C X 212 134 [some (.ref a), l1, l2] st N I L P = sm_at C X 212 135 [some (.ref a), l1, l2] (.ref a :: st) N I L P := st_go b212 dX11_digest_134 (by decide) rfl
theorem s212_135 (h : a < N) (h1 : sm_lay a = .inl 11) : sm_at C X 212 135 ls [.ref a, v0] N I L P = sm_af C X 212 138 ls [v0] (C 200 [.ref a] N I L P) := st_virt b212 dX11_digest_135 (n := 1) (rest := [v0]) rfl rfl rfl rfl rfl rfl rfl h h1
theorem s212_138 : sm_at C X 212 138 ls (.int x0 :: st) N I L P = sm_at C X 212 139 ls (.long x0.toInt64 :: st) N I L P := st_go b212 dX11_digest_138 (by decide) rfl
theorem s212_139 (h : a < N) (h1 : sm_lay a = .inl 11) : sm_at C X 212 139 ls [w1, .ref a] N I L P = sm_af C X 212 142 ls [] (C 210 [.ref a, w1] N I L P) := st_virt b212 dX11_digest_139 (n := 2) (rest := []) rfl rfl rfl rfl rfl rfl rfl h h1
theorem s212_142 : sm_at C X 212 142 ls st N I L P = sm_at C X 212 143 ls (.int (nI 0) :: st) N I L P := st_go b212 dX11_digest_142 (by decide) rfl
theorem s212_143 : sm_at C X 212 143 [l0, l1, l2] (.int x0 :: st) N I L P = sm_at C X 212 144 [sm_cl l0, some (.int x0), l2] st N I L P := st_go b212 dX11_digest_143 (by decide) rfl
theorem s212_144 : sm_at C X 212 144 [l0, some (.int x0), l2] st N I L P = sm_at C X 212 145 [l0, some (.int x0), l2] (.int x0 :: st) N I L P := st_go b212 dX11_digest_144 (by decide) rfl
theorem s212_145 : sm_at C X 212 145 [some (.ref a), l1, l2] st N I L P = sm_at C X 212 146 [some (.ref a), l1, l2] (.ref a :: st) N I L P := st_go b212 dX11_digest_145 (by decide) rfl
theorem s212_146 (h : a < N) (h1 : sm_lay a = .inl 11) : sm_at C X 212 146 ls (.ref a :: st) N I L P = sm_at C X 212 149 ls (.int (I a 19) :: st) N I L P := st_gfI b212 dX11_digest_146 rfl rfl h h1
theorem s212_149 : sm_at C X 212 149 ls (.int x0 :: .int x1 :: st) N I L P = if x0 ≤ x1 then sm_at C X 212 168 ls st N I L P else sm_at C X 212 152 ls st N I L P := st_br b212 dX11_digest_149 (by decide) rfl
theorem s212_152 : sm_at C X 212 152 [some (.ref a), l1, l2] st N I L P = sm_at C X 212 153 [some (.ref a), l1, l2] (.ref a :: st) N I L P := st_go b212 dX11_digest_152 (by decide) rfl
theorem s212_153 : sm_at C X 212 153 [some (.ref a), l1, l2] st N I L P = sm_at C X 212 154 [some (.ref a), l1, l2] (.ref a :: st) N I L P := st_go b212 dX11_digest_153 (by decide) rfl
theorem s212_154 : sm_at C X 212 154 [l0, some (.int x0), l2] st N I L P = sm_at C X 212 155 [l0, some (.int x0), l2] (.int x0 :: st) N I L P := st_go b212 dX11_digest_154 (by decide) rfl
theorem s212_155 (h : a < N) (h1 : sm_lay a = .inl 11) : sm_at C X 212 155 ls [w1, .ref a, v0] N I L P = sm_af C X 212 158 ls [v0] (C 202 [.ref a, w1] N I L P) := st_virt b212 dX11_digest_155 (n := 2) (rest := [v0]) rfl rfl rfl rfl rfl rfl rfl h h1
theorem s212_158 : sm_at C X 212 158 ls (.int x0 :: st) N I L P = sm_at C X 212 159 ls (.long x0.toInt64 :: st) N I L P := st_go b212 dX11_digest_158 (by decide) rfl
theorem s212_159 (h : a < N) (h1 : sm_lay a = .inl 11) : sm_at C X 212 159 ls [w1, .ref a] N I L P = sm_af C X 212 162 ls [] (C 210 [.ref a, w1] N I L P) := st_virt b212 dX11_digest_159 (n := 2) (rest := []) rfl rfl rfl rfl rfl rfl rfl h h1
theorem s212_162 : sm_at C X 212 162 [l0, some (.int x0), l2] st N I L P = sm_at C X 212 165 [sm_cl l0, some (.int (x0 + (nI 1))), l2] st N I L P := st_go b212 dX11_digest_162 (by decide) rfl
theorem s212_165 : sm_at C X 212 165 ls st N I L P = sm_at C X 212 144 ls st N I L P := st_go b212 dX11_digest_165 (by decide) rfl
theorem s212_168 : sm_at C X 212 168 ls st N I L P = sm_at C X 212 169 ls (.int (nI 0) :: st) N I L P := st_go b212 dX11_digest_168 (by decide) rfl
theorem s212_169 : sm_at C X 212 169 [l0, l1, l2] (.int x0 :: st) N I L P = sm_at C X 212 170 [sm_cl l0, some (.int x0), l2] st N I L P := st_go b212 dX11_digest_169 (by decide) rfl
theorem s212_170 : sm_at C X 212 170 [l0, some (.int x0), l2] st N I L P = sm_at C X 212 171 [l0, some (.int x0), l2] (.int x0 :: st) N I L P := st_go b212 dX11_digest_170 (by decide) rfl
theorem s212_171 : sm_at C X 212 171 [some (.ref a), l1, l2] st N I L P = sm_at C X 212 172 [some (.ref a), l1, l2] (.ref a :: st) N I L P := st_go b212 dX11_digest_171 (by decide) rfl
theorem s212_172 (h : a < N) (h1 : sm_lay a = .inl 11) : sm_at C X 212 172 ls (.ref a :: st) N I L P = sm_at C X 212 175 ls (.int (I a 3) :: st) N I L P := st_gfI b212 dX11_digest_172 rfl rfl h h1
theorem s212_175 : sm_at C X 212 175 ls (.int x0 :: .int x1 :: st) N I L P = if x0 ≤ x1 then sm_at C X 212 195 ls st N I L P else sm_at C X 212 178 ls st N I L P := st_br b212 dX11_digest_175 (by decide) rfl
theorem s212_178 : sm_at C X 212 178 [some (.ref a), l1, l2] st N I L P = sm_at C X 212 179 [some (.ref a), l1, l2] (.ref a :: st) N I L P := st_go b212 dX11_digest_178 (by decide) rfl
theorem s212_179 : sm_at C X 212 179 [some (.ref a), l1, l2] st N I L P = sm_at C X 212 180 [some (.ref a), l1, l2] (.ref a :: st) N I L P := st_go b212 dX11_digest_179 (by decide) rfl
theorem s212_180 (h : a < N) (h1 : sm_lay a = .inl 11) : sm_at C X 212 180 ls (.ref a :: st) N I L P = sm_at C X 212 183 ls (va_rf (P a 2) :: st) N I L P := st_gfR b212 dX11_digest_180 rfl rfl h h1
theorem s212_183 : sm_at C X 212 183 [l0, some (.int x0), l2] st N I L P = sm_at C X 212 184 [l0, some (.int x0), l2] (.int x0 :: st) N I L P := st_go b212 dX11_digest_183 (by decide) rfl
theorem s212_184 (h : a < N) (h1 : k < sm_al a) : sm_at C X 212 184 ls (.int (nI k) :: .ref a :: st) N I L P = sm_at C X 212 185 ls (.int (I a k) :: st) N I L P := st_iald b212 dX11_digest_184 h h1
theorem s212_185 : sm_at C X 212 185 ls (.int x0 :: st) N I L P = sm_at C X 212 186 ls (.long x0.toInt64 :: st) N I L P := st_go b212 dX11_digest_185 (by decide) rfl
theorem s212_186 (h : a < N) (h1 : sm_lay a = .inl 11) : sm_at C X 212 186 ls [w1, .ref a] N I L P = sm_af C X 212 189 ls [] (C 210 [.ref a, w1] N I L P) := st_virt b212 dX11_digest_186 (n := 2) (rest := []) rfl rfl rfl rfl rfl rfl rfl h h1
theorem s212_189 : sm_at C X 212 189 [l0, some (.int x0), l2] st N I L P = sm_at C X 212 192 [sm_cl l0, some (.int (x0 + (nI 1))), l2] st N I L P := st_go b212 dX11_digest_189 (by decide) rfl
theorem s212_192 : sm_at C X 212 192 ls st N I L P = sm_at C X 212 170 ls st N I L P := st_go b212 dX11_digest_192 (by decide) rfl
theorem s212_195 : sm_at C X 212 195 ls st N I L P = sm_at C X 212 196 ls (.int (nI 0) :: st) N I L P := st_go b212 dX11_digest_195 (by decide) rfl
theorem s212_196 : sm_at C X 212 196 [l0, l1, l2] (.int x0 :: st) N I L P = sm_at C X 212 197 [sm_cl l0, some (.int x0), l2] st N I L P := st_go b212 dX11_digest_196 (by decide) rfl
theorem s212_197 : sm_at C X 212 197 [l0, some (.int x0), l2] st N I L P = sm_at C X 212 198 [l0, some (.int x0), l2] (.int x0 :: st) N I L P := st_go b212 dX11_digest_197 (by decide) rfl
theorem s212_198 : sm_at C X 212 198 ls st N I L P = sm_at C X 212 200 ls (.int (nI 9) :: st) N I L P := st_go b212 dX11_digest_198 (by decide) rfl
theorem s212_200 : sm_at C X 212 200 ls (.int x0 :: .int x1 :: st) N I L P = if x0 ≤ x1 then sm_at C X 212 219 ls st N I L P else sm_at C X 212 203 ls st N I L P := st_br b212 dX11_digest_200 (by decide) rfl
theorem s212_203 : sm_at C X 212 203 [some (.ref a), l1, l2] st N I L P = sm_at C X 212 204 [some (.ref a), l1, l2] (.ref a :: st) N I L P := st_go b212 dX11_digest_203 (by decide) rfl
theorem s212_204 : sm_at C X 212 204 [some (.ref a), l1, l2] st N I L P = sm_at C X 212 205 [some (.ref a), l1, l2] (.ref a :: st) N I L P := st_go b212 dX11_digest_204 (by decide) rfl
theorem s212_205 : sm_at C X 212 205 [l0, some (.int x0), l2] st N I L P = sm_at C X 212 206 [l0, some (.int x0), l2] (.int x0 :: st) N I L P := st_go b212 dX11_digest_205 (by decide) rfl
theorem s212_206 (h : a < N) (h1 : sm_lay a = .inl 11) : sm_at C X 212 206 ls [w1, .ref a, v0] N I L P = sm_af C X 212 209 ls [v0] (C 208 [.ref a, w1] N I L P) := st_virt b212 dX11_digest_206 (n := 2) (rest := [v0]) rfl rfl rfl rfl rfl rfl rfl h h1
theorem s212_209 : sm_at C X 212 209 ls (.int x0 :: st) N I L P = sm_at C X 212 210 ls (.long x0.toInt64 :: st) N I L P := st_go b212 dX11_digest_209 (by decide) rfl
theorem s212_210 (h : a < N) (h1 : sm_lay a = .inl 11) : sm_at C X 212 210 ls [w1, .ref a] N I L P = sm_af C X 212 213 ls [] (C 210 [.ref a, w1] N I L P) := st_virt b212 dX11_digest_210 (n := 2) (rest := []) rfl rfl rfl rfl rfl rfl rfl h h1
theorem s212_213 : sm_at C X 212 213 [l0, some (.int x0), l2] st N I L P = sm_at C X 212 216 [sm_cl l0, some (.int (x0 + (nI 1))), l2] st N I L P := st_go b212 dX11_digest_213 (by decide) rfl
theorem s212_216 : sm_at C X 212 216 ls st N I L P = sm_at C X 212 197 ls st N I L P := st_go b212 dX11_digest_216 (by decide) rfl
theorem s212_219 : sm_at C X 212 219 [some (.ref a), l1, l2] st N I L P = sm_at C X 212 220 [some (.ref a), l1, l2] (.ref a :: st) N I L P := st_go b212 dX11_digest_219 (by decide) rfl
theorem s212_220 (h : a < N) (h1 : sm_lay a = .inl 11) : sm_at C X 212 220 ls (.ref a :: st) N I L P = sm_at C X 212 223 ls (.long (L a 34) :: st) N I L P := st_gfL b212 dX11_digest_220 rfl rfl h h1
theorem s212_223 : sm_at C X 212 223 ls [.long z0] N I L P = some (some (.long z0), N, I, L, P) := st_ret b212 dX11_digest_223 (by decide) rfl
end STX11
