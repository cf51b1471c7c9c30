section STL
variable {C : sm_Cf} {X : sm_Xs} {ls : List (Option Value)} {st : List Value} {N : Nat} {I : sm_Im} {L : sm_Lm} {P : sm_Pm} {x0 x1 x2 : Int32} {z0 z1 : Int64} {a a2 k n : Nat} {f : Nat → Int32} {w0 w1 w2 w3 w4 w5 w6 v0 v1 v2 v3 v4 : Value} {l0 l1 l2 l3 l4 l5 l6 l7 l8 l9 l10 l11 l12 l13 l14 l15 l16 : Option Value}
theorem b216 : sm_b 216 = cL_law := rfl
theorem s216_0 (h : N < 81) (h1 : sm_lay N = .inl 10) : sm_at C X 216 0 ls st N I L P = sm_at C X 216 3 ls (.ref N :: st) (N + 1) (sm_z I N 0) (sm_z L N 0) (sm_z P N none) := st_new b216 dL_law_0 rfl h h1
theorem s216_3 : sm_at C X 216 3 ls (.ref a :: st) N I L P = sm_at C X 216 4 ls (.ref a :: .ref a :: st) N I L P := st_go b216 dL_law_3 (by decide) rfl
theorem s216_4 (h : a < N) (h1 : sm_lay a = .inl 10) : sm_at C X 216 4 ls [.ref a, v0] N I L P = sm_af C X 216 7 ls [v0] (C 93 [.ref a] N I L P) := st_spec b216 dL_law_4 (n := 1) (rest := [v0]) rfl rfl rfl rfl rfl rfl rfl h h1
theorem s216_7 : sm_at C X 216 7 [l0, l1, l2, l3] (.ref a :: st) N I L P = sm_at C X 216 8 [sm_cl l0, some (.ref a), l2, l3] st N I L P := st_go b216 dL_law_7 (by decide) rfl
theorem s216_7n : sm_at C X 216 7 [l0, l1, l2, l3] (.null :: st) N I L P = sm_at C X 216 8 [sm_cl l0, some .null, l2, l3] st N I L P := st_go b216 dL_law_7 (by decide) rfl
theorem s216_8 (h : N < 81) (h1 : sm_lay N = .inl 11) : sm_at C X 216 8 ls st N I L P = sm_at C X 216 11 ls (.ref N :: st) (N + 1) (sm_z I N 0) (sm_z L N 0) (sm_z P N none) := st_new b216 dL_law_8 rfl h h1
theorem s216_11 : sm_at C X 216 11 ls (.ref a :: st) N I L P = sm_at C X 216 12 ls (.ref a :: .ref a :: st) N I L P := st_go b216 dL_law_11 (by decide) rfl
theorem s216_12 (h : a < N) (h1 : sm_lay a = .inl 11) : sm_at C X 216 12 ls [.ref a, v0] N I L P = sm_af C X 216 15 ls [v0] (C 145 [.ref a] N I L P) := st_spec b216 dL_law_12 (n := 1) (rest := [v0]) rfl rfl rfl rfl rfl rfl rfl h h1
theorem s216_15 : sm_at C X 216 15 [l0, l1, l2, l3] (.ref a :: st) N I L P = sm_at C X 216 16 [l0, sm_cl l1, some (.ref a), l3] st N I L P := st_go b216 dL_law_15 (by decide) rfl
theorem s216_15n : sm_at C X 216 15 [l0, l1, l2, l3] (.null :: st) N I L P = sm_at C X 216 16 [l0, sm_cl l1, some .null, l3] st N I L P := st_go b216 dL_law_15 (by decide) rfl
theorem s216_16 : sm_at C X 216 16 ls st N I L P = sm_at C X 216 17 ls (.int (nI 0) :: st) N I L P := st_go b216 dL_law_16 (by decide) rfl
theorem s216_17 : sm_at C X 216 17 [l0, l1, l2, l3] (.int x0 :: st) N I L P = sm_at C X 216 18 [l0, l1, sm_cl l2, some (.int x0)] st N I L P := st_go b216 dL_law_17 (by decide) rfl
theorem s216_18 : sm_at C X 216 18 [l0, l1, l2, some (.int x0)] st N I L P = sm_at C X 216 19 [l0, l1, l2, some (.int x0)] (.int x0 :: st) N I L P := st_go b216 dL_law_18 (by decide) rfl
theorem s216_19 : sm_at C X 216 19 [some (.ref a), l1, l2, l3] st N I L P = sm_at C X 216 20 [some (.ref a), l1, l2, l3] (.ref a :: st) N I L P := st_go b216 dL_law_19 (by decide) rfl
theorem s216_20 (h : a < N) (h1 : sm_lay a = .inr (.inl k)) : sm_at C X 216 20 ls (.ref a :: st) N I L P = sm_at C X 216 21 ls (.int (nI k) :: st) N I L P := st_alen b216 dL_law_20 h h1
theorem s216_20x (h : N ≤ 1000) : sm_at C (some (n, f)) 216 20 ls (.ref 1048578 :: st) N I L P = sm_at C (some (n, f)) 216 21 ls (.int (nI n) :: st) N I L P := st_alex b216 dL_law_20 h
theorem s216_21 : sm_at C X 216 21 ls st N I L P = sm_at C X 216 22 ls (.int (nI 5) :: st) N I L P := st_go b216 dL_law_21 (by decide) rfl
theorem s216_22 : sm_at C X 216 22 ls (.int x0 :: .int x1 :: st) N I L P = sm_at C X 216 23 ls (.int (x1 - x0) :: st) N I L P := st_go b216 dL_law_22 (by decide) rfl
theorem s216_23 : sm_at C X 216 23 ls (.int x0 :: .int x1 :: st) N I L P = if x0 < x1 then sm_at C X 216 1115 ls st N I L P else sm_at C X 216 26 ls st N I L P := st_br b216 dL_law_23 (by decide) rfl
theorem s216_26 : sm_at C X 216 26 [some (.ref a), l1, l2, l3] st N I L P = sm_at C X 216 27 [some (.ref a), l1, l2, l3] (.ref a :: st) N I L P := st_go b216 dL_law_26 (by decide) rfl
theorem s216_27 : sm_at C X 216 27 [l0, l1, l2, some (.int x0)] st N I L P = sm_at C X 216 28 [l0, l1, l2, some (.int x0)] (.int x0 :: st) N I L P := st_go b216 dL_law_27 (by decide) rfl
theorem s216_28 (h : a < N) (h1 : k < sm_al a) : sm_at C X 216 28 ls (.int (nI k) :: .ref a :: st) N I L P = sm_at C X 216 29 ls (.int (I a k) :: st) N I L P := st_iald b216 dL_law_28 h h1
theorem s216_28x (h : N ≤ 1000) (h1 : k < n) (h2 : n < 1000) : sm_at C (some (n, f)) 216 28 ls (.int (nI k) :: .ref 1048578 :: st) N I L P = sm_at C (some (n, f)) 216 29 ls (.int (f k) :: st) N I L P := st_ialx b216 dL_law_28 h h1 h2
theorem s216_29 : sm_at C X 216 29 ls st N I L P = sm_at C X 216 31 ls (.int (nI 31) :: st) N I L P := st_go b216 dL_law_29 (by decide) rfl
theorem s216_31 : sm_at C X 216 31 ls (.int x0 :: .int x1 :: st) N I L P = sm_at C X 216 32 ls (.int (x1 &&& x0) :: st) N I L P := st_go b216 dL_law_31 (by decide) rfl
theorem s216_32_0 : sm_at C X 216 32 ls (.int (nI 0) :: st) N I L P = sm_at C X 216 172 ls st N I L P := st_go b216 dL_law_32 (by decide) rfl
theorem s216_32_1 : sm_at C X 216 32 ls (.int (nI 1) :: st) N I L P = sm_at C X 216 215 ls st N I L P := st_go b216 dL_law_32 (by decide) rfl
theorem s216_32_2 : sm_at C X 216 32 ls (.int (nI 2) :: st) N I L P = sm_at C X 216 248 ls st N I L P := st_go b216 dL_law_32 (by decide) rfl
theorem s216_32_3 : sm_at C X 216 32 ls (.int (nI 3) :: st) N I L P = sm_at C X 216 301 ls st N I L P := st_go b216 dL_law_32 (by decide) rfl
theorem s216_32_4 : sm_at C X 216 32 ls (.int (nI 4) :: st) N I L P = sm_at C X 216 314 ls st N I L P := st_go b216 dL_law_32 (by decide) rfl
theorem s216_32_5 : sm_at C X 216 32 ls (.int (nI 5) :: st) N I L P = sm_at C X 216 327 ls st N I L P := st_go b216 dL_law_32 (by decide) rfl
theorem s216_32_6 : sm_at C X 216 32 ls (.int (nI 6) :: st) N I L P = sm_at C X 216 340 ls st N I L P := st_go b216 dL_law_32 (by decide) rfl
theorem s216_32_7 : sm_at C X 216 32 ls (.int (nI 7) :: st) N I L P = sm_at C X 216 373 ls st N I L P := st_go b216 dL_law_32 (by decide) rfl
theorem s216_32_8 : sm_at C X 216 32 ls (.int (nI 8) :: st) N I L P = sm_at C X 216 406 ls st N I L P := st_go b216 dL_law_32 (by decide) rfl
theorem s216_32_9 : sm_at C X 216 32 ls (.int (nI 9) :: st) N I L P = sm_at C X 216 439 ls st N I L P := st_go b216 dL_law_32 (by decide) rfl
theorem s216_32_10 : sm_at C X 216 32 ls (.int (nI 10) :: st) N I L P = sm_at C X 216 472 ls st N I L P := st_go b216 dL_law_32 (by decide) rfl
theorem s216_32_11 : sm_at C X 216 32 ls (.int (nI 11) :: st) N I L P = sm_at C X 216 485 ls st N I L P := st_go b216 dL_law_32 (by decide) rfl
theorem s216_32_12 : sm_at C X 216 32 ls (.int (nI 12) :: st) N I L P = sm_at C X 216 528 ls st N I L P := st_go b216 dL_law_32 (by decide) rfl
theorem s216_32_13 : sm_at C X 216 32 ls (.int (nI 13) :: st) N I L P = sm_at C X 216 582 ls st N I L P := st_go b216 dL_law_32 (by decide) rfl
theorem s216_32_14 : sm_at C X 216 32 ls (.int (nI 14) :: st) N I L P = sm_at C X 216 595 ls st N I L P := st_go b216 dL_law_32 (by decide) rfl
theorem s216_32_15 : sm_at C X 216 32 ls (.int (nI 15) :: st) N I L P = sm_at C X 216 628 ls st N I L P := st_go b216 dL_law_32 (by decide) rfl
theorem s216_32_16 : sm_at C X 216 32 ls (.int (nI 16) :: st) N I L P = sm_at C X 216 671 ls st N I L P := st_go b216 dL_law_32 (by decide) rfl
theorem s216_32_17 : sm_at C X 216 32 ls (.int (nI 17) :: st) N I L P = sm_at C X 216 704 ls st N I L P := st_go b216 dL_law_32 (by decide) rfl
theorem s216_32_18 : sm_at C X 216 32 ls (.int (nI 18) :: st) N I L P = sm_at C X 216 747 ls st N I L P := st_go b216 dL_law_32 (by decide) rfl
theorem s216_32_19 : sm_at C X 216 32 ls (.int (nI 19) :: st) N I L P = sm_at C X 216 790 ls st N I L P := st_go b216 dL_law_32 (by decide) rfl
theorem s216_32_20 : sm_at C X 216 32 ls (.int (nI 20) :: st) N I L P = sm_at C X 216 833 ls st N I L P := st_go b216 dL_law_32 (by decide) rfl
theorem s216_32_21 : sm_at C X 216 32 ls (.int (nI 21) :: st) N I L P = sm_at C X 216 856 ls st N I L P := st_go b216 dL_law_32 (by decide) rfl
theorem s216_32_22 : sm_at C X 216 32 ls (.int (nI 22) :: st) N I L P = sm_at C X 216 910 ls st N I L P := st_go b216 dL_law_32 (by decide) rfl
theorem s216_32_23 : sm_at C X 216 32 ls (.int (nI 23) :: st) N I L P = sm_at C X 216 933 ls st N I L P := st_go b216 dL_law_32 (by decide) rfl
theorem s216_32_24 : sm_at C X 216 32 ls (.int (nI 24) :: st) N I L P = sm_at C X 216 966 ls st N I L P := st_go b216 dL_law_32 (by decide) rfl
theorem s216_32_25 : sm_at C X 216 32 ls (.int (nI 25) :: st) N I L P = sm_at C X 216 979 ls st N I L P := st_go b216 dL_law_32 (by decide) rfl
theorem s216_32_26 : sm_at C X 216 32 ls (.int (nI 26) :: st) N I L P = sm_at C X 216 1002 ls st N I L P := st_go b216 dL_law_32 (by decide) rfl
theorem s216_32_27 : sm_at C X 216 32 ls (.int (nI 27) :: st) N I L P = sm_at C X 216 1046 ls st N I L P := st_go b216 dL_law_32 (by decide) rfl
theorem s216_32_28 : sm_at C X 216 32 ls (.int (nI 28) :: st) N I L P = sm_at C X 216 1059 ls st N I L P := st_go b216 dL_law_32 (by decide) rfl
theorem s216_32_29 : sm_at C X 216 32 ls (.int (nI 29) :: st) N I L P = sm_at C X 216 1072 ls st N I L P := st_go b216 dL_law_32 (by decide) rfl
theorem s216_32_30 : sm_at C X 216 32 ls (.int (nI 30) :: st) N I L P = sm_at C X 216 1095 ls st N I L P := st_go b216 dL_law_32 (by decide) rfl
theorem s216_32_d (h : x0.toInt < 0 ∨ 30 < x0.toInt) : sm_at C X 216 32 ls (.int x0 :: st) N I L P = sm_at C X 216 1109 ls st N I L P := st_tab b216 dL_law_32 rfl h
theorem s216_172 : sm_at C X 216 172 [l0, some (.ref a), l2, l3] st N I L P = sm_at C X 216 173 [l0, some (.ref a), l2, l3] (.ref a :: st) N I L P := st_go b216 dL_law_172 (by decide) rfl
theorem s216_172n : sm_at C X 216 172 [l0, some .null, l2, l3] st N I L P = sm_at C X 216 173 [l0, some .null, l2, l3] (.null :: st) N I L P := st_go b216 dL_law_172 (by decide) rfl
theorem s216_173 : sm_at C X 216 173 [some (.ref a), l1, l2, l3] st N I L P = sm_at C X 216 174 [some (.ref a), l1, l2, l3] (.ref a :: st) N I L P := st_go b216 dL_law_173 (by decide) rfl
theorem s216_174 : sm_at C X 216 174 [l0, l1, l2, some (.int x0)] st N I L P = sm_at C X 216 175 [l0, l1, l2, some (.int x0)] (.int x0 :: st) N I L P := st_go b216 dL_law_174 (by decide) rfl
theorem s216_175 : sm_at C X 216 175 ls st N I L P = sm_at C X 216 176 ls (.int (nI 1) :: st) N I L P := st_go b216 dL_law_175 (by decide) rfl
theorem s216_176 : sm_at C X 216 176 ls (.int x0 :: .int x1 :: st) N I L P = sm_at C X 216 177 ls (.int (x1 + x0) :: st) N I L P := st_go b216 dL_law_176 (by decide) rfl
theorem s216_177 (h : a < N) (h1 : k < sm_al a) : sm_at C X 216 177 ls (.int (nI k) :: .ref a :: st) N I L P = sm_at C X 216 178 ls (.int (I a k) :: st) N I L P := st_iald b216 dL_law_177 h h1
theorem s216_177x (h : N ≤ 1000) (h1 : k < n) (h2 : n < 1000) : sm_at C (some (n, f)) 216 177 ls (.int (nI k) :: .ref 1048578 :: st) N I L P = sm_at C (some (n, f)) 216 178 ls (.int (f k) :: st) N I L P := st_ialx b216 dL_law_177 h h1 h2
theorem s216_178 : sm_at C X 216 178 [some (.ref a), l1, l2, l3] st N I L P = sm_at C X 216 179 [some (.ref a), l1, l2, l3] (.ref a :: st) N I L P := st_go b216 dL_law_178 (by decide) rfl
theorem s216_179 : sm_at C X 216 179 [l0, l1, l2, some (.int x0)] st N I L P = sm_at C X 216 180 [l0, l1, l2, some (.int x0)] (.int x0 :: st) N I L P := st_go b216 dL_law_179 (by decide) rfl
theorem s216_180 : sm_at C X 216 180 ls st N I L P = sm_at C X 216 181 ls (.int (nI 2) :: st) N I L P := st_go b216 dL_law_180 (by decide) rfl
theorem s216_181 : sm_at C X 216 181 ls (.int x0 :: .int x1 :: st) N I L P = sm_at C X 216 182 ls (.int (x1 + x0) :: st) N I L P := st_go b216 dL_law_181 (by decide) rfl
theorem s216_182 (h : a < N) (h1 : k < sm_al a) : sm_at C X 216 182 ls (.int (nI k) :: .ref a :: st) N I L P = sm_at C X 216 183 ls (.int (I a k) :: st) N I L P := st_iald b216 dL_law_182 h h1
theorem s216_182x (h : N ≤ 1000) (h1 : k < n) (h2 : n < 1000) : sm_at C (some (n, f)) 216 182 ls (.int (nI k) :: .ref 1048578 :: st) N I L P = sm_at C (some (n, f)) 216 183 ls (.int (f k) :: st) N I L P := st_ialx b216 dL_law_182 h h1 h2
theorem s216_183 : sm_at C X 216 183 [some (.ref a), l1, l2, l3] st N I L P = sm_at C X 216 184 [some (.ref a), l1, l2, l3] (.ref a :: st) N I L P := st_go b216 dL_law_183 (by decide) rfl
theorem s216_184 : sm_at C X 216 184 [l0, l1, l2, some (.int x0)] st N I L P = sm_at C X 216 185 [l0, l1, l2, some (.int x0)] (.int x0 :: st) N I L P := st_go b216 dL_law_184 (by decide) rfl
theorem s216_185 : sm_at C X 216 185 ls st N I L P = sm_at C X 216 186 ls (.int (nI 3) :: st) N I L P := st_go b216 dL_law_185 (by decide) rfl
theorem s216_186 : sm_at C X 216 186 ls (.int x0 :: .int x1 :: st) N I L P = sm_at C X 216 187 ls (.int (x1 + x0) :: st) N I L P := st_go b216 dL_law_186 (by decide) rfl
theorem s216_187 (h : a < N) (h1 : k < sm_al a) : sm_at C X 216 187 ls (.int (nI k) :: .ref a :: st) N I L P = sm_at C X 216 188 ls (.int (I a k) :: st) N I L P := st_iald b216 dL_law_187 h h1
theorem s216_187x (h : N ≤ 1000) (h1 : k < n) (h2 : n < 1000) : sm_at C (some (n, f)) 216 187 ls (.int (nI k) :: .ref 1048578 :: st) N I L P = sm_at C (some (n, f)) 216 188 ls (.int (f k) :: st) N I L P := st_ialx b216 dL_law_187 h h1 h2
theorem s216_188 (h : a < N) (h1 : sm_lay a = .inl 10) : sm_at C X 216 188 ls [w3, w2, w1, .ref a] N I L P = sm_af C X 216 191 ls [] (C 94 [.ref a, w1, w2, w3] N I L P) := st_virt b216 dL_law_188 (n := 4) (rest := []) rfl rfl rfl rfl rfl rfl rfl h h1
theorem s216_191 : sm_at C X 216 191 [l0, l1, some (.ref a), l3] st N I L P = sm_at C X 216 192 [l0, l1, some (.ref a), l3] (.ref a :: st) N I L P := st_go b216 dL_law_191 (by decide) rfl
theorem s216_191n : sm_at C X 216 191 [l0, l1, some .null, l3] st N I L P = sm_at C X 216 192 [l0, l1, some .null, l3] (.null :: st) N I L P := st_go b216 dL_law_191 (by decide) rfl
theorem s216_192 : sm_at C X 216 192 [some (.ref a), l1, l2, l3] st N I L P = sm_at C X 216 193 [some (.ref a), l1, l2, l3] (.ref a :: st) N I L P := st_go b216 dL_law_192 (by decide) rfl
theorem s216_193 : sm_at C X 216 193 [l0, l1, l2, some (.int x0)] st N I L P = sm_at C X 216 194 [l0, l1, l2, some (.int x0)] (.int x0 :: st) N I L P := st_go b216 dL_law_193 (by decide) rfl
theorem s216_194 : sm_at C X 216 194 ls st N I L P = sm_at C X 216 195 ls (.int (nI 1) :: st) N I L P := st_go b216 dL_law_194 (by decide) rfl
theorem s216_195 : sm_at C X 216 195 ls (.int x0 :: .int x1 :: st) N I L P = sm_at C X 216 196 ls (.int (x1 + x0) :: st) N I L P := st_go b216 dL_law_195 (by decide) rfl
theorem s216_196 (h : a < N) (h1 : k < sm_al a) : sm_at C X 216 196 ls (.int (nI k) :: .ref a :: st) N I L P = sm_at C X 216 197 ls (.int (I a k) :: st) N I L P := st_iald b216 dL_law_196 h h1
theorem s216_196x (h : N ≤ 1000) (h1 : k < n) (h2 : n < 1000) : sm_at C (some (n, f)) 216 196 ls (.int (nI k) :: .ref 1048578 :: st) N I L P = sm_at C (some (n, f)) 216 197 ls (.int (f k) :: st) N I L P := st_ialx b216 dL_law_196 h h1 h2
theorem s216_197 : sm_at C X 216 197 [some (.ref a), l1, l2, l3] st N I L P = sm_at C X 216 198 [some (.ref a), l1, l2, l3] (.ref a :: st) N I L P := st_go b216 dL_law_197 (by decide) rfl
theorem s216_198 : sm_at C X 216 198 [l0, l1, l2, some (.int x0)] st N I L P = sm_at C X 216 199 [l0, l1, l2, some (.int x0)] (.int x0 :: st) N I L P := st_go b216 dL_law_198 (by decide) rfl
theorem s216_199 : sm_at C X 216 199 ls st N I L P = sm_at C X 216 200 ls (.int (nI 2) :: st) N I L P := st_go b216 dL_law_199 (by decide) rfl
theorem s216_200 : sm_at C X 216 200 ls (.int x0 :: .int x1 :: st) N I L P = sm_at C X 216 201 ls (.int (x1 + x0) :: st) N I L P := st_go b216 dL_law_200 (by decide) rfl
theorem s216_201 (h : a < N) (h1 : k < sm_al a) : sm_at C X 216 201 ls (.int (nI k) :: .ref a :: st) N I L P = sm_at C X 216 202 ls (.int (I a k) :: st) N I L P := st_iald b216 dL_law_201 h h1
theorem s216_201x (h : N ≤ 1000) (h1 : k < n) (h2 : n < 1000) : sm_at C (some (n, f)) 216 201 ls (.int (nI k) :: .ref 1048578 :: st) N I L P = sm_at C (some (n, f)) 216 202 ls (.int (f k) :: st) N I L P := st_ialx b216 dL_law_201 h h1 h2
theorem s216_202 : sm_at C X 216 202 [some (.ref a), l1, l2, l3] st N I L P = sm_at C X 216 203 [some (.ref a), l1, l2, l3] (.ref a :: st) N I L P := st_go b216 dL_law_202 (by decide) rfl
theorem s216_203 : sm_at C X 216 203 [l0, l1, l2, some (.int x0)] st N I L P = sm_at C X 216 204 [l0, l1, l2, some (.int x0)] (.int x0 :: st) N I L P := st_go b216 dL_law_203 (by decide) rfl
theorem s216_204 : sm_at C X 216 204 ls st N I L P = sm_at C X 216 205 ls (.int (nI 3) :: st) N I L P := st_go b216 dL_law_204 (by decide) rfl
theorem s216_205 : sm_at C X 216 205 ls (.int x0 :: .int x1 :: st) N I L P = sm_at C X 216 206 ls (.int (x1 + x0) :: st) N I L P := st_go b216 dL_law_205 (by decide) rfl
theorem s216_206 (h : a < N) (h1 : k < sm_al a) : sm_at C X 216 206 ls (.int (nI k) :: .ref a :: st) N I L P = sm_at C X 216 207 ls (.int (I a k) :: st) N I L P := st_iald b216 dL_law_206 h h1
theorem s216_206x (h : N ≤ 1000) (h1 : k < n) (h2 : n < 1000) : sm_at C (some (n, f)) 216 206 ls (.int (nI k) :: .ref 1048578 :: st) N I L P = sm_at C (some (n, f)) 216 207 ls (.int (f k) :: st) N I L P := st_ialx b216 dL_law_206 h h1 h2
theorem s216_207 (h : a < N) (h1 : sm_lay a = .inl 11) : sm_at C X 216 207 ls [w3, w2, w1, .ref a, v0] N I L P = sm_af C X 216 210 ls [v0] (C 149 [.ref a, w1, w2, w3] N I L P) := st_virt b216 dL_law_207 (n := 4) (rest := [v0]) rfl rfl rfl rfl rfl rfl rfl h h1
theorem s216_210 : sm_at C X 216 210 ls (.int x0 :: .int x1 :: st) N I L P = if x1 = x0 then sm_at C X 216 1109 ls st N I L P else sm_at C X 216 213 ls st N I L P := st_br b216 dL_law_210 (by decide) rfl
theorem s216_213 : sm_at C X 216 213 ls st N I L P = sm_at C X 216 214 ls (.int (nI 0) :: st) N I L P := st_go b216 dL_law_213 (by decide) rfl
theorem s216_214 (h : x0 = 0 ∨ x0 = 1) : sm_at C X 216 214 ls [.int x0] N I L P = some (some (.int x0), N, I, L, P) := st_zret b216 dL_law_214 rfl h
theorem s216_215 : sm_at C X 216 215 [l0, some (.ref a), l2, l3] st N I L P = sm_at C X 216 216 [l0, some (.ref a), l2, l3] (.ref a :: st) N I L P := st_go b216 dL_law_215 (by decide) rfl
theorem s216_215n : sm_at C X 216 215 [l0, some .null, l2, l3] st N I L P = sm_at C X 216 216 [l0, some .null, l2, l3] (.null :: st) N I L P := st_go b216 dL_law_215 (by decide) rfl
theorem s216_216 : sm_at C X 216 216 [some (.ref a), l1, l2, l3] st N I L P = sm_at C X 216 217 [some (.ref a), l1, l2, l3] (.ref a :: st) N I L P := st_go b216 dL_law_216 (by decide) rfl
theorem s216_217 : sm_at C X 216 217 [l0, l1, l2, some (.int x0)] st N I L P = sm_at C X 216 218 [l0, l1, l2, some (.int x0)] (.int x0 :: st) N I L P := st_go b216 dL_law_217 (by decide) rfl
theorem s216_218 : sm_at C X 216 218 ls st N I L P = sm_at C X 216 219 ls (.int (nI 1) :: st) N I L P := st_go b216 dL_law_218 (by decide) rfl
theorem s216_219 : sm_at C X 216 219 ls (.int x0 :: .int x1 :: st) N I L P = sm_at C X 216 220 ls (.int (x1 + x0) :: st) N I L P := st_go b216 dL_law_219 (by decide) rfl
theorem s216_220 (h : a < N) (h1 : k < sm_al a) : sm_at C X 216 220 ls (.int (nI k) :: .ref a :: st) N I L P = sm_at C X 216 221 ls (.int (I a k) :: st) N I L P := st_iald b216 dL_law_220 h h1
theorem s216_220x (h : N ≤ 1000) (h1 : k < n) (h2 : n < 1000) : sm_at C (some (n, f)) 216 220 ls (.int (nI k) :: .ref 1048578 :: st) N I L P = sm_at C (some (n, f)) 216 221 ls (.int (f k) :: st) N I L P := st_ialx b216 dL_law_220 h h1 h2
theorem s216_221 : sm_at C X 216 221 [some (.ref a), l1, l2, l3] st N I L P = sm_at C X 216 222 [some (.ref a), l1, l2, l3] (.ref a :: st) N I L P := st_go b216 dL_law_221 (by decide) rfl
theorem s216_222 : sm_at C X 216 222 [l0, l1, l2, some (.int x0)] st N I L P = sm_at C X 216 223 [l0, l1, l2, some (.int x0)] (.int x0 :: st) N I L P := st_go b216 dL_law_222 (by decide) rfl
theorem s216_223 : sm_at C X 216 223 ls st N I L P = sm_at C X 216 224 ls (.int (nI 2) :: st) N I L P := st_go b216 dL_law_223 (by decide) rfl
theorem s216_224 : sm_at C X 216 224 ls (.int x0 :: .int x1 :: st) N I L P = sm_at C X 216 225 ls (.int (x1 + x0) :: st) N I L P := st_go b216 dL_law_224 (by decide) rfl
theorem s216_225 (h : a < N) (h1 : k < sm_al a) : sm_at C X 216 225 ls (.int (nI k) :: .ref a :: st) N I L P = sm_at C X 216 226 ls (.int (I a k) :: st) N I L P := st_iald b216 dL_law_225 h h1
theorem s216_225x (h : N ≤ 1000) (h1 : k < n) (h2 : n < 1000) : sm_at C (some (n, f)) 216 225 ls (.int (nI k) :: .ref 1048578 :: st) N I L P = sm_at C (some (n, f)) 216 226 ls (.int (f k) :: st) N I L P := st_ialx b216 dL_law_225 h h1 h2
theorem s216_226 (h : a < N) (h1 : sm_lay a = .inl 10) : sm_at C X 216 226 ls [w2, w1, .ref a] N I L P = sm_af C X 216 229 ls [] (C 95 [.ref a, w1, w2] N I L P) := st_virt b216 dL_law_226 (n := 3) (rest := []) rfl rfl rfl rfl rfl rfl rfl h h1
theorem s216_229 : sm_at C X 216 229 [l0, l1, some (.ref a), l3] st N I L P = sm_at C X 216 230 [l0, l1, some (.ref a), l3] (.ref a :: st) N I L P := st_go b216 dL_law_229 (by decide) rfl
theorem s216_229n : sm_at C X 216 229 [l0, l1, some .null, l3] st N I L P = sm_at C X 216 230 [l0, l1, some .null, l3] (.null :: st) N I L P := st_go b216 dL_law_229 (by decide) rfl
theorem s216_230 : sm_at C X 216 230 [some (.ref a), l1, l2, l3] st N I L P = sm_at C X 216 231 [some (.ref a), l1, l2, l3] (.ref a :: st) N I L P := st_go b216 dL_law_230 (by decide) rfl
theorem s216_231 : sm_at C X 216 231 [l0, l1, l2, some (.int x0)] st N I L P = sm_at C X 216 232 [l0, l1, l2, some (.int x0)] (.int x0 :: st) N I L P := st_go b216 dL_law_231 (by decide) rfl
theorem s216_232 : sm_at C X 216 232 ls st N I L P = sm_at C X 216 233 ls (.int (nI 1) :: st) N I L P := st_go b216 dL_law_232 (by decide) rfl
theorem s216_233 : sm_at C X 216 233 ls (.int x0 :: .int x1 :: st) N I L P = sm_at C X 216 234 ls (.int (x1 + x0) :: st) N I L P := st_go b216 dL_law_233 (by decide) rfl
theorem s216_234 (h : a < N) (h1 : k < sm_al a) : sm_at C X 216 234 ls (.int (nI k) :: .ref a :: st) N I L P = sm_at C X 216 235 ls (.int (I a k) :: st) N I L P := st_iald b216 dL_law_234 h h1
theorem s216_234x (h : N ≤ 1000) (h1 : k < n) (h2 : n < 1000) : sm_at C (some (n, f)) 216 234 ls (.int (nI k) :: .ref 1048578 :: st) N I L P = sm_at C (some (n, f)) 216 235 ls (.int (f k) :: st) N I L P := st_ialx b216 dL_law_234 h h1 h2
theorem s216_235 : sm_at C X 216 235 [some (.ref a), l1, l2, l3] st N I L P = sm_at C X 216 236 [some (.ref a), l1, l2, l3] (.ref a :: st) N I L P := st_go b216 dL_law_235 (by decide) rfl
theorem s216_236 : sm_at C X 216 236 [l0, l1, l2, some (.int x0)] st N I L P = sm_at C X 216 237 [l0, l1, l2, some (.int x0)] (.int x0 :: st) N I L P := st_go b216 dL_law_236 (by decide) rfl
theorem s216_237 : sm_at C X 216 237 ls st N I L P = sm_at C X 216 238 ls (.int (nI 2) :: st) N I L P := st_go b216 dL_law_237 (by decide) rfl
theorem s216_238 : sm_at C X 216 238 ls (.int x0 :: .int x1 :: st) N I L P = sm_at C X 216 239 ls (.int (x1 + x0) :: st) N I L P := st_go b216 dL_law_238 (by decide) rfl
theorem s216_239 (h : a < N) (h1 : k < sm_al a) : sm_at C X 216 239 ls (.int (nI k) :: .ref a :: st) N I L P = sm_at C X 216 240 ls (.int (I a k) :: st) N I L P := st_iald b216 dL_law_239 h h1
theorem s216_239x (h : N ≤ 1000) (h1 : k < n) (h2 : n < 1000) : sm_at C (some (n, f)) 216 239 ls (.int (nI k) :: .ref 1048578 :: st) N I L P = sm_at C (some (n, f)) 216 240 ls (.int (f k) :: st) N I L P := st_ialx b216 dL_law_239 h h1 h2
theorem s216_240 (h : a < N) (h1 : sm_lay a = .inl 11) : sm_at C X 216 240 ls [w2, w1, .ref a, v0] N I L P = sm_af C X 216 243 ls [v0] (C 150 [.ref a, w1, w2] N I L P) := st_virt b216 dL_law_240 (n := 3) (rest := [v0]) rfl rfl rfl rfl rfl rfl rfl h h1
theorem s216_243 : sm_at C X 216 243 ls (.int x0 :: .int x1 :: st) N I L P = if x1 = x0 then sm_at C X 216 1109 ls st N I L P else sm_at C X 216 246 ls st N I L P := st_br b216 dL_law_243 (by decide) rfl
theorem s216_246 : sm_at C X 216 246 ls st N I L P = sm_at C X 216 247 ls (.int (nI 0) :: st) N I L P := st_go b216 dL_law_246 (by decide) rfl
theorem s216_247 (h : x0 = 0 ∨ x0 = 1) : sm_at C X 216 247 ls [.int x0] N I L P = some (some (.int x0), N, I, L, P) := st_zret b216 dL_law_247 rfl h
theorem s216_248 : sm_at C X 216 248 [l0, some (.ref a), l2, l3] st N I L P = sm_at C X 216 249 [l0, some (.ref a), l2, l3] (.ref a :: st) N I L P := st_go b216 dL_law_248 (by decide) rfl
theorem s216_248n : sm_at C X 216 248 [l0, some .null, l2, l3] st N I L P = sm_at C X 216 249 [l0, some .null, l2, l3] (.null :: st) N I L P := st_go b216 dL_law_248 (by decide) rfl
theorem s216_249 : sm_at C X 216 249 [some (.ref a), l1, l2, l3] st N I L P = sm_at C X 216 250 [some (.ref a), l1, l2, l3] (.ref a :: st) N I L P := st_go b216 dL_law_249 (by decide) rfl
theorem s216_250 : sm_at C X 216 250 [l0, l1, l2, some (.int x0)] st N I L P = sm_at C X 216 251 [l0, l1, l2, some (.int x0)] (.int x0 :: st) N I L P := st_go b216 dL_law_250 (by decide) rfl
theorem s216_251 : sm_at C X 216 251 ls st N I L P = sm_at C X 216 252 ls (.int (nI 1) :: st) N I L P := st_go b216 dL_law_251 (by decide) rfl
theorem s216_252 : sm_at C X 216 252 ls (.int x0 :: .int x1 :: st) N I L P = sm_at C X 216 253 ls (.int (x1 + x0) :: st) N I L P := st_go b216 dL_law_252 (by decide) rfl
theorem s216_253 (h : a < N) (h1 : k < sm_al a) : sm_at C X 216 253 ls (.int (nI k) :: .ref a :: st) N I L P = sm_at C X 216 254 ls (.int (I a k) :: st) N I L P := st_iald b216 dL_law_253 h h1
theorem s216_253x (h : N ≤ 1000) (h1 : k < n) (h2 : n < 1000) : sm_at C (some (n, f)) 216 253 ls (.int (nI k) :: .ref 1048578 :: st) N I L P = sm_at C (some (n, f)) 216 254 ls (.int (f k) :: st) N I L P := st_ialx b216 dL_law_253 h h1 h2
theorem s216_254 : sm_at C X 216 254 ls (.int x0 :: st) N I L P = sm_at C X 216 255 ls (.long x0.toInt64 :: st) N I L P := st_go b216 dL_law_254 (by decide) rfl
theorem s216_255 : sm_at C X 216 255 ls st N I L P = sm_at C X 216 257 ls (.int (nI 32) :: st) N I L P := st_go b216 dL_law_255 (by decide) rfl
theorem s216_257 : sm_at C X 216 257 ls (.int x0 :: .long z0 :: st) N I L P = sm_at C X 216 258 ls (.long (z0 <<< (x0.toInt64 &&& 63)) :: st) N I L P := st_go b216 dL_law_257 (by decide) rfl
theorem s216_258 : sm_at C X 216 258 [some (.ref a), l1, l2, l3] st N I L P = sm_at C X 216 259 [some (.ref a), l1, l2, l3] (.ref a :: st) N I L P := st_go b216 dL_law_258 (by decide) rfl
theorem s216_259 : sm_at C X 216 259 [l0, l1, l2, some (.int x0)] st N I L P = sm_at C X 216 260 [l0, l1, l2, some (.int x0)] (.int x0 :: st) N I L P := st_go b216 dL_law_259 (by decide) rfl
theorem s216_260 : sm_at C X 216 260 ls st N I L P = sm_at C X 216 261 ls (.int (nI 2) :: st) N I L P := st_go b216 dL_law_260 (by decide) rfl
theorem s216_261 : sm_at C X 216 261 ls (.int x0 :: .int x1 :: st) N I L P = sm_at C X 216 262 ls (.int (x1 + x0) :: st) N I L P := st_go b216 dL_law_261 (by decide) rfl
theorem s216_262 (h : a < N) (h1 : k < sm_al a) : sm_at C X 216 262 ls (.int (nI k) :: .ref a :: st) N I L P = sm_at C X 216 263 ls (.int (I a k) :: st) N I L P := st_iald b216 dL_law_262 h h1
theorem s216_262x (h : N ≤ 1000) (h1 : k < n) (h2 : n < 1000) : sm_at C (some (n, f)) 216 262 ls (.int (nI k) :: .ref 1048578 :: st) N I L P = sm_at C (some (n, f)) 216 263 ls (.int (f k) :: st) N I L P := st_ialx b216 dL_law_262 h h1 h2
theorem s216_263 : sm_at C X 216 263 ls (.int x0 :: st) N I L P = sm_at C X 216 264 ls (.long x0.toInt64 :: st) N I L P := st_go b216 dL_law_263 (by decide) rfl
theorem s216_264 : sm_at C X 216 264 ls st N I L P = sm_at C X 216 267 ls (.long (lN 4294967295) :: st) N I L P := st_go b216 dL_law_264 (by decide) rfl
theorem s216_267 : sm_at C X 216 267 ls (.long z0 :: .long z1 :: st) N I L P = sm_at C X 216 268 ls (.long (z1 &&& z0) :: st) N I L P := st_go b216 dL_law_267 (by decide) rfl
theorem s216_268 : sm_at C X 216 268 ls (.long z0 :: .long z1 :: st) N I L P = sm_at C X 216 269 ls (.long (z1 ||| z0) :: st) N I L P := st_go b216 dL_law_268 (by decide) rfl
theorem s216_269 (h : a < N) (h1 : sm_lay a = .inl 10) : sm_at C X 216 269 ls [w1, .ref a] N I L P = sm_af C X 216 272 ls [] (C 96 [.ref a, w1] N I L P) := st_virt b216 dL_law_269 (n := 2) (rest := []) rfl rfl rfl rfl rfl rfl rfl h h1
theorem s216_272 : sm_at C X 216 272 [l0, l1, some (.ref a), l3] st N I L P = sm_at C X 216 273 [l0, l1, some (.ref a), l3] (.ref a :: st) N I L P := st_go b216 dL_law_272 (by decide) rfl
theorem s216_272n : sm_at C X 216 272 [l0, l1, some .null, l3] st N I L P = sm_at C X 216 273 [l0, l1, some .null, l3] (.null :: st) N I L P := st_go b216 dL_law_272 (by decide) rfl
theorem s216_273 : sm_at C X 216 273 [some (.ref a), l1, l2, l3] st N I L P = sm_at C X 216 274 [some (.ref a), l1, l2, l3] (.ref a :: st) N I L P := st_go b216 dL_law_273 (by decide) rfl
theorem s216_274 : sm_at C X 216 274 [l0, l1, l2, some (.int x0)] st N I L P = sm_at C X 216 275 [l0, l1, l2, some (.int x0)] (.int x0 :: st) N I L P := st_go b216 dL_law_274 (by decide) rfl
theorem s216_275 : sm_at C X 216 275 ls st N I L P = sm_at C X 216 276 ls (.int (nI 1) :: st) N I L P := st_go b216 dL_law_275 (by decide) rfl
theorem s216_276 : sm_at C X 216 276 ls (.int x0 :: .int x1 :: st) N I L P = sm_at C X 216 277 ls (.int (x1 + x0) :: st) N I L P := st_go b216 dL_law_276 (by decide) rfl
theorem s216_277 (h : a < N) (h1 : k < sm_al a) : sm_at C X 216 277 ls (.int (nI k) :: .ref a :: st) N I L P = sm_at C X 216 278 ls (.int (I a k) :: st) N I L P := st_iald b216 dL_law_277 h h1
theorem s216_277x (h : N ≤ 1000) (h1 : k < n) (h2 : n < 1000) : sm_at C (some (n, f)) 216 277 ls (.int (nI k) :: .ref 1048578 :: st) N I L P = sm_at C (some (n, f)) 216 278 ls (.int (f k) :: st) N I L P := st_ialx b216 dL_law_277 h h1 h2
theorem s216_278 : sm_at C X 216 278 ls (.int x0 :: st) N I L P = sm_at C X 216 279 ls (.long x0.toInt64 :: st) N I L P := st_go b216 dL_law_278 (by decide) rfl
theorem s216_279 : sm_at C X 216 279 ls st N I L P = sm_at C X 216 281 ls (.int (nI 32) :: st) N I L P := st_go b216 dL_law_279 (by decide) rfl
theorem s216_281 : sm_at C X 216 281 ls (.int x0 :: .long z0 :: st) N I L P = sm_at C X 216 282 ls (.long (z0 <<< (x0.toInt64 &&& 63)) :: st) N I L P := st_go b216 dL_law_281 (by decide) rfl
theorem s216_282 : sm_at C X 216 282 [some (.ref a), l1, l2, l3] st N I L P = sm_at C X 216 283 [some (.ref a), l1, l2, l3] (.ref a :: st) N I L P := st_go b216 dL_law_282 (by decide) rfl
theorem s216_283 : sm_at C X 216 283 [l0, l1, l2, some (.int x0)] st N I L P = sm_at C X 216 284 [l0, l1, l2, some (.int x0)] (.int x0 :: st) N I L P := st_go b216 dL_law_283 (by decide) rfl
theorem s216_284 : sm_at C X 216 284 ls st N I L P = sm_at C X 216 285 ls (.int (nI 2) :: st) N I L P := st_go b216 dL_law_284 (by decide) rfl
theorem s216_285 : sm_at C X 216 285 ls (.int x0 :: .int x1 :: st) N I L P = sm_at C X 216 286 ls (.int (x1 + x0) :: st) N I L P := st_go b216 dL_law_285 (by decide) rfl
theorem s216_286 (h : a < N) (h1 : k < sm_al a) : sm_at C X 216 286 ls (.int (nI k) :: .ref a :: st) N I L P = sm_at C X 216 287 ls (.int (I a k) :: st) N I L P := st_iald b216 dL_law_286 h h1
theorem s216_286x (h : N ≤ 1000) (h1 : k < n) (h2 : n < 1000) : sm_at C (some (n, f)) 216 286 ls (.int (nI k) :: .ref 1048578 :: st) N I L P = sm_at C (some (n, f)) 216 287 ls (.int (f k) :: st) N I L P := st_ialx b216 dL_law_286 h h1 h2
theorem s216_287 : sm_at C X 216 287 ls (.int x0 :: st) N I L P = sm_at C X 216 288 ls (.long x0.toInt64 :: st) N I L P := st_go b216 dL_law_287 (by decide) rfl
theorem s216_288 : sm_at C X 216 288 ls st N I L P = sm_at C X 216 291 ls (.long (lN 4294967295) :: st) N I L P := st_go b216 dL_law_288 (by decide) rfl
theorem s216_291 : sm_at C X 216 291 ls (.long z0 :: .long z1 :: st) N I L P = sm_at C X 216 292 ls (.long (z1 &&& z0) :: st) N I L P := st_go b216 dL_law_291 (by decide) rfl
theorem s216_292 : sm_at C X 216 292 ls (.long z0 :: .long z1 :: st) N I L P = sm_at C X 216 293 ls (.long (z1 ||| z0) :: st) N I L P := st_go b216 dL_law_292 (by decide) rfl
theorem s216_293 (h : a < N) (h1 : sm_lay a = .inl 11) : sm_at C X 216 293 ls [w1, .ref a, v0] N I L P = sm_af C X 216 296 ls [v0] (C 151 [.ref a, w1] N I L P) := st_virt b216 dL_law_293 (n := 2) (rest := [v0]) rfl rfl rfl rfl rfl rfl rfl h h1
theorem s216_296 : sm_at C X 216 296 ls (.int x0 :: .int x1 :: st) N I L P = if x1 = x0 then sm_at C X 216 1109 ls st N I L P else sm_at C X 216 299 ls st N I L P := st_br b216 dL_law_296 (by decide) rfl
theorem s216_299 : sm_at C X 216 299 ls st N I L P = sm_at C X 216 300 ls (.int (nI 0) :: st) N I L P := st_go b216 dL_law_299 (by decide) rfl
theorem s216_300 (h : x0 = 0 ∨ x0 = 1) : sm_at C X 216 300 ls [.int x0] N I L P = some (some (.int x0), N, I, L, P) := st_zret b216 dL_law_300 rfl h
theorem s216_301 : sm_at C X 216 301 [l0, some (.ref a), l2, l3] st N I L P = sm_at C X 216 302 [l0, some (.ref a), l2, l3] (.ref a :: st) N I L P := st_go b216 dL_law_301 (by decide) rfl
theorem s216_301n : sm_at C X 216 301 [l0, some .null, l2, l3] st N I L P = sm_at C X 216 302 [l0, some .null, l2, l3] (.null :: st) N I L P := st_go b216 dL_law_301 (by decide) rfl
theorem s216_302 (h : a < N) (h1 : sm_lay a = .inl 10) : sm_at C X 216 302 ls [.ref a] N I L P = sm_af C X 216 305 ls [] (C 97 [.ref a] N I L P) := st_virt b216 dL_law_302 (n := 1) (rest := []) rfl rfl rfl rfl rfl rfl rfl h h1
theorem s216_305 : sm_at C X 216 305 [l0, l1, some (.ref a), l3] st N I L P = sm_at C X 216 306 [l0, l1, some (.ref a), l3] (.ref a :: st) N I L P := st_go b216 dL_law_305 (by decide) rfl
theorem s216_305n : sm_at C X 216 305 [l0, l1, some .null, l3] st N I L P = sm_at C X 216 306 [l0, l1, some .null, l3] (.null :: st) N I L P := st_go b216 dL_law_305 (by decide) rfl
theorem s216_306 (h : a < N) (h1 : sm_lay a = .inl 11) : sm_at C X 216 306 ls [.ref a, v0] N I L P = sm_af C X 216 309 ls [v0] (C 152 [.ref a] N I L P) := st_virt b216 dL_law_306 (n := 1) (rest := [v0]) rfl rfl rfl rfl rfl rfl rfl h h1
theorem s216_309 : sm_at C X 216 309 ls (.int x0 :: .int x1 :: st) N I L P = if x1 = x0 then sm_at C X 216 1109 ls st N I L P else sm_at C X 216 312 ls st N I L P := st_br b216 dL_law_309 (by decide) rfl
theorem s216_312 : sm_at C X 216 312 ls st N I L P = sm_at C X 216 313 ls (.int (nI 0) :: st) N I L P := st_go b216 dL_law_312 (by decide) rfl
theorem s216_313 (h : x0 = 0 ∨ x0 = 1) : sm_at C X 216 313 ls [.int x0] N I L P = some (some (.int x0), N, I, L, P) := st_zret b216 dL_law_313 rfl h
theorem s216_314 : sm_at C X 216 314 [l0, some (.ref a), l2, l3] st N I L P = sm_at C X 216 315 [l0, some (.ref a), l2, l3] (.ref a :: st) N I L P := st_go b216 dL_law_314 (by decide) rfl
theorem s216_314n : sm_at C X 216 314 [l0, some .null, l2, l3] st N I L P = sm_at C X 216 315 [l0, some .null, l2, l3] (.null :: st) N I L P := st_go b216 dL_law_314 (by decide) rfl
theorem s216_315 (h : a < N) (h1 : sm_lay a = .inl 10) : sm_at C X 216 315 ls [.ref a] N I L P = sm_af C X 216 318 ls [] (C 98 [.ref a] N I L P) := st_virt b216 dL_law_315 (n := 1) (rest := []) rfl rfl rfl rfl rfl rfl rfl h h1
theorem s216_318 : sm_at C X 216 318 [l0, l1, some (.ref a), l3] st N I L P = sm_at C X 216 319 [l0, l1, some (.ref a), l3] (.ref a :: st) N I L P := st_go b216 dL_law_318 (by decide) rfl
theorem s216_318n : sm_at C X 216 318 [l0, l1, some .null, l3] st N I L P = sm_at C X 216 319 [l0, l1, some .null, l3] (.null :: st) N I L P := st_go b216 dL_law_318 (by decide) rfl
theorem s216_319 (h : a < N) (h1 : sm_lay a = .inl 11) : sm_at C X 216 319 ls [.ref a, v0] N I L P = sm_af C X 216 322 ls [v0] (C 157 [.ref a] N I L P) := st_virt b216 dL_law_319 (n := 1) (rest := [v0]) rfl rfl rfl rfl rfl rfl rfl h h1
theorem s216_322 : sm_at C X 216 322 ls (.int x0 :: .int x1 :: st) N I L P = if x1 = x0 then sm_at C X 216 1109 ls st N I L P else sm_at C X 216 325 ls st N I L P := st_br b216 dL_law_322 (by decide) rfl
theorem s216_325 : sm_at C X 216 325 ls st N I L P = sm_at C X 216 326 ls (.int (nI 0) :: st) N I L P := st_go b216 dL_law_325 (by decide) rfl
theorem s216_326 (h : x0 = 0 ∨ x0 = 1) : sm_at C X 216 326 ls [.int x0] N I L P = some (some (.int x0), N, I, L, P) := st_zret b216 dL_law_326 rfl h
theorem s216_327 : sm_at C X 216 327 [l0, some (.ref a), l2, l3] st N I L P = sm_at C X 216 328 [l0, some (.ref a), l2, l3] (.ref a :: st) N I L P := st_go b216 dL_law_327 (by decide) rfl
theorem s216_327n : sm_at C X 216 327 [l0, some .null, l2, l3] st N I L P = sm_at C X 216 328 [l0, some .null, l2, l3] (.null :: st) N I L P := st_go b216 dL_law_327 (by decide) rfl
theorem s216_328 (h : a < N) (h1 : sm_lay a = .inl 10) : sm_at C X 216 328 ls [.ref a] N I L P = sm_af C X 216 331 ls [] (C 99 [.ref a] N I L P) := st_virt b216 dL_law_328 (n := 1) (rest := []) rfl rfl rfl rfl rfl rfl rfl h h1
theorem s216_331 : sm_at C X 216 331 [l0, l1, some (.ref a), l3] st N I L P = sm_at C X 216 332 [l0, l1, some (.ref a), l3] (.ref a :: st) N I L P := st_go b216 dL_law_331 (by decide) rfl
theorem s216_331n : sm_at C X 216 331 [l0, l1, some .null, l3] st N I L P = sm_at C X 216 332 [l0, l1, some .null, l3] (.null :: st) N I L P := st_go b216 dL_law_331 (by decide) rfl
theorem s216_332 (h : a < N) (h1 : sm_lay a = .inl 11) : sm_at C X 216 332 ls [.ref a, v0] N I L P = sm_af C X 216 335 ls [v0] (C 158 [.ref a] N I L P) := st_virt b216 dL_law_332 (n := 1) (rest := [v0]) rfl rfl rfl rfl rfl rfl rfl h h1
theorem s216_335 : sm_at C X 216 335 ls (.int x0 :: .int x1 :: st) N I L P = if x1 = x0 then sm_at C X 216 1109 ls st N I L P else sm_at C X 216 338 ls st N I L P := st_br b216 dL_law_335 (by decide) rfl
theorem s216_338 : sm_at C X 216 338 ls st N I L P = sm_at C X 216 339 ls (.int (nI 0) :: st) N I L P := st_go b216 dL_law_338 (by decide) rfl
theorem s216_339 (h : x0 = 0 ∨ x0 = 1) : sm_at C X 216 339 ls [.int x0] N I L P = some (some (.int x0), N, I, L, P) := st_zret b216 dL_law_339 rfl h
theorem s216_340 : sm_at C X 216 340 [l0, some (.ref a), l2, l3] st N I L P = sm_at C X 216 341 [l0, some (.ref a), l2, l3] (.ref a :: st) N I L P := st_go b216 dL_law_340 (by decide) rfl
theorem s216_340n : sm_at C X 216 340 [l0, some .null, l2, l3] st N I L P = sm_at C X 216 341 [l0, some .null, l2, l3] (.null :: st) N I L P := st_go b216 dL_law_340 (by decide) rfl
theorem s216_341 : sm_at C X 216 341 [some (.ref a), l1, l2, l3] st N I L P = sm_at C X 216 342 [some (.ref a), l1, l2, l3] (.ref a :: st) N I L P := st_go b216 dL_law_341 (by decide) rfl
theorem s216_342 : sm_at C X 216 342 [l0, l1, l2, some (.int x0)] st N I L P = sm_at C X 216 343 [l0, l1, l2, some (.int x0)] (.int x0 :: st) N I L P := st_go b216 dL_law_342 (by decide) rfl
theorem s216_343 : sm_at C X 216 343 ls st N I L P = sm_at C X 216 344 ls (.int (nI 1) :: st) N I L P := st_go b216 dL_law_343 (by decide) rfl
theorem s216_344 : sm_at C X 216 344 ls (.int x0 :: .int x1 :: st) N I L P = sm_at C X 216 345 ls (.int (x1 + x0) :: st) N I L P := st_go b216 dL_law_344 (by decide) rfl
theorem s216_345 (h : a < N) (h1 : k < sm_al a) : sm_at C X 216 345 ls (.int (nI k) :: .ref a :: st) N I L P = sm_at C X 216 346 ls (.int (I a k) :: st) N I L P := st_iald b216 dL_law_345 h h1
theorem s216_345x (h : N ≤ 1000) (h1 : k < n) (h2 : n < 1000) : sm_at C (some (n, f)) 216 345 ls (.int (nI k) :: .ref 1048578 :: st) N I L P = sm_at C (some (n, f)) 216 346 ls (.int (f k) :: st) N I L P := st_ialx b216 dL_law_345 h h1 h2
theorem s216_346 : sm_at C X 216 346 [some (.ref a), l1, l2, l3] st N I L P = sm_at C X 216 347 [some (.ref a), l1, l2, l3] (.ref a :: st) N I L P := st_go b216 dL_law_346 (by decide) rfl
theorem s216_347 : sm_at C X 216 347 [l0, l1, l2, some (.int x0)] st N I L P = sm_at C X 216 348 [l0, l1, l2, some (.int x0)] (.int x0 :: st) N I L P := st_go b216 dL_law_347 (by decide) rfl
theorem s216_348 : sm_at C X 216 348 ls st N I L P = sm_at C X 216 349 ls (.int (nI 2) :: st) N I L P := st_go b216 dL_law_348 (by decide) rfl
theorem s216_349 : sm_at C X 216 349 ls (.int x0 :: .int x1 :: st) N I L P = sm_at C X 216 350 ls (.int (x1 + x0) :: st) N I L P := st_go b216 dL_law_349 (by decide) rfl
theorem s216_350 (h : a < N) (h1 : k < sm_al a) : sm_at C X 216 350 ls (.int (nI k) :: .ref a :: st) N I L P = sm_at C X 216 351 ls (.int (I a k) :: st) N I L P := st_iald b216 dL_law_350 h h1
theorem s216_350x (h : N ≤ 1000) (h1 : k < n) (h2 : n < 1000) : sm_at C (some (n, f)) 216 350 ls (.int (nI k) :: .ref 1048578 :: st) N I L P = sm_at C (some (n, f)) 216 351 ls (.int (f k) :: st) N I L P := st_ialx b216 dL_law_350 h h1 h2
theorem s216_351 (h : a < N) (h1 : sm_lay a = .inl 10) : sm_at C X 216 351 ls [w2, w1, .ref a] N I L P = sm_af C X 216 354 ls [] (C 100 [.ref a, w1, w2] N I L P) := st_virt b216 dL_law_351 (n := 3) (rest := []) rfl rfl rfl rfl rfl rfl rfl h h1
theorem s216_354 : sm_at C X 216 354 [l0, l1, some (.ref a), l3] st N I L P = sm_at C X 216 355 [l0, l1, some (.ref a), l3] (.ref a :: st) N I L P := st_go b216 dL_law_354 (by decide) rfl
theorem s216_354n : sm_at C X 216 354 [l0, l1, some .null, l3] st N I L P = sm_at C X 216 355 [l0, l1, some .null, l3] (.null :: st) N I L P := st_go b216 dL_law_354 (by decide) rfl
theorem s216_355 : sm_at C X 216 355 [some (.ref a), l1, l2, l3] st N I L P = sm_at C X 216 356 [some (.ref a), l1, l2, l3] (.ref a :: st) N I L P := st_go b216 dL_law_355 (by decide) rfl
theorem s216_356 : sm_at C X 216 356 [l0, l1, l2, some (.int x0)] st N I L P = sm_at C X 216 357 [l0, l1, l2, some (.int x0)] (.int x0 :: st) N I L P := st_go b216 dL_law_356 (by decide) rfl
theorem s216_357 : sm_at C X 216 357 ls st N I L P = sm_at C X 216 358 ls (.int (nI 1) :: st) N I L P := st_go b216 dL_law_357 (by decide) rfl
theorem s216_358 : sm_at C X 216 358 ls (.int x0 :: .int x1 :: st) N I L P = sm_at C X 216 359 ls (.int (x1 + x0) :: st) N I L P := st_go b216 dL_law_358 (by decide) rfl
theorem s216_359 (h : a < N) (h1 : k < sm_al a) : sm_at C X 216 359 ls (.int (nI k) :: .ref a :: st) N I L P = sm_at C X 216 360 ls (.int (I a k) :: st) N I L P := st_iald b216 dL_law_359 h h1
theorem s216_359x (h : N ≤ 1000) (h1 : k < n) (h2 : n < 1000) : sm_at C (some (n, f)) 216 359 ls (.int (nI k) :: .ref 1048578 :: st) N I L P = sm_at C (some (n, f)) 216 360 ls (.int (f k) :: st) N I L P := st_ialx b216 dL_law_359 h h1 h2
theorem s216_360 : sm_at C X 216 360 [some (.ref a), l1, l2, l3] st N I L P = sm_at C X 216 361 [some (.ref a), l1, l2, l3] (.ref a :: st) N I L P := st_go b216 dL_law_360 (by decide) rfl
theorem s216_361 : sm_at C X 216 361 [l0, l1, l2, some (.int x0)] st N I L P = sm_at C X 216 362 [l0, l1, l2, some (.int x0)] (.int x0 :: st) N I L P := st_go b216 dL_law_361 (by decide) rfl
theorem s216_362 : sm_at C X 216 362 ls st N I L P = sm_at C X 216 363 ls (.int (nI 2) :: st) N I L P := st_go b216 dL_law_362 (by decide) rfl
theorem s216_363 : sm_at C X 216 363 ls (.int x0 :: .int x1 :: st) N I L P = sm_at C X 216 364 ls (.int (x1 + x0) :: st) N I L P := st_go b216 dL_law_363 (by decide) rfl
theorem s216_364 (h : a < N) (h1 : k < sm_al a) : sm_at C X 216 364 ls (.int (nI k) :: .ref a :: st) N I L P = sm_at C X 216 365 ls (.int (I a k) :: st) N I L P := st_iald b216 dL_law_364 h h1
theorem s216_364x (h : N ≤ 1000) (h1 : k < n) (h2 : n < 1000) : sm_at C (some (n, f)) 216 364 ls (.int (nI k) :: .ref 1048578 :: st) N I L P = sm_at C (some (n, f)) 216 365 ls (.int (f k) :: st) N I L P := st_ialx b216 dL_law_364 h h1 h2
theorem s216_365 (h : a < N) (h1 : sm_lay a = .inl 11) : sm_at C X 216 365 ls [w2, w1, .ref a, v0] N I L P = sm_af C X 216 368 ls [v0] (C 159 [.ref a, w1, w2] N I L P) := st_virt b216 dL_law_365 (n := 3) (rest := [v0]) rfl rfl rfl rfl rfl rfl rfl h h1
theorem s216_368 : sm_at C X 216 368 ls (.int x0 :: .int x1 :: st) N I L P = if x1 = x0 then sm_at C X 216 1109 ls st N I L P else sm_at C X 216 371 ls st N I L P := st_br b216 dL_law_368 (by decide) rfl
theorem s216_371 : sm_at C X 216 371 ls st N I L P = sm_at C X 216 372 ls (.int (nI 0) :: st) N I L P := st_go b216 dL_law_371 (by decide) rfl
theorem s216_372 (h : x0 = 0 ∨ x0 = 1) : sm_at C X 216 372 ls [.int x0] N I L P = some (some (.int x0), N, I, L, P) := st_zret b216 dL_law_372 rfl h
theorem s216_373 : sm_at C X 216 373 [l0, some (.ref a), l2, l3] st N I L P = sm_at C X 216 374 [l0, some (.ref a), l2, l3] (.ref a :: st) N I L P := st_go b216 dL_law_373 (by decide) rfl
theorem s216_373n : sm_at C X 216 373 [l0, some .null, l2, l3] st N I L P = sm_at C X 216 374 [l0, some .null, l2, l3] (.null :: st) N I L P := st_go b216 dL_law_373 (by decide) rfl
theorem s216_374 : sm_at C X 216 374 [some (.ref a), l1, l2, l3] st N I L P = sm_at C X 216 375 [some (.ref a), l1, l2, l3] (.ref a :: st) N I L P := st_go b216 dL_law_374 (by decide) rfl
theorem s216_375 : sm_at C X 216 375 [l0, l1, l2, some (.int x0)] st N I L P = sm_at C X 216 376 [l0, l1, l2, some (.int x0)] (.int x0 :: st) N I L P := st_go b216 dL_law_375 (by decide) rfl
theorem s216_376 : sm_at C X 216 376 ls st N I L P = sm_at C X 216 377 ls (.int (nI 1) :: st) N I L P := st_go b216 dL_law_376 (by decide) rfl
theorem s216_377 : sm_at C X 216 377 ls (.int x0 :: .int x1 :: st) N I L P = sm_at C X 216 378 ls (.int (x1 + x0) :: st) N I L P := st_go b216 dL_law_377 (by decide) rfl
theorem s216_378 (h : a < N) (h1 : k < sm_al a) : sm_at C X 216 378 ls (.int (nI k) :: .ref a :: st) N I L P = sm_at C X 216 379 ls (.int (I a k) :: st) N I L P := st_iald b216 dL_law_378 h h1
theorem s216_378x (h : N ≤ 1000) (h1 : k < n) (h2 : n < 1000) : sm_at C (some (n, f)) 216 378 ls (.int (nI k) :: .ref 1048578 :: st) N I L P = sm_at C (some (n, f)) 216 379 ls (.int (f k) :: st) N I L P := st_ialx b216 dL_law_378 h h1 h2
theorem s216_379 : sm_at C X 216 379 [some (.ref a), l1, l2, l3] st N I L P = sm_at C X 216 380 [some (.ref a), l1, l2, l3] (.ref a :: st) N I L P := st_go b216 dL_law_379 (by decide) rfl
theorem s216_380 : sm_at C X 216 380 [l0, l1, l2, some (.int x0)] st N I L P = sm_at C X 216 381 [l0, l1, l2, some (.int x0)] (.int x0 :: st) N I L P := st_go b216 dL_law_380 (by decide) rfl
theorem s216_381 : sm_at C X 216 381 ls st N I L P = sm_at C X 216 382 ls (.int (nI 2) :: st) N I L P := st_go b216 dL_law_381 (by decide) rfl
theorem s216_382 : sm_at C X 216 382 ls (.int x0 :: .int x1 :: st) N I L P = sm_at C X 216 383 ls (.int (x1 + x0) :: st) N I L P := st_go b216 dL_law_382 (by decide) rfl
theorem s216_383 (h : a < N) (h1 : k < sm_al a) : sm_at C X 216 383 ls (.int (nI k) :: .ref a :: st) N I L P = sm_at C X 216 384 ls (.int (I a k) :: st) N I L P := st_iald b216 dL_law_383 h h1
theorem s216_383x (h : N ≤ 1000) (h1 : k < n) (h2 : n < 1000) : sm_at C (some (n, f)) 216 383 ls (.int (nI k) :: .ref 1048578 :: st) N I L P = sm_at C (some (n, f)) 216 384 ls (.int (f k) :: st) N I L P := st_ialx b216 dL_law_383 h h1 h2
theorem s216_384 (h : a < N) (h1 : sm_lay a = .inl 10) : sm_at C X 216 384 ls [w2, w1, .ref a] N I L P = sm_af C X 216 387 ls [] (C 101 [.ref a, w1, w2] N I L P) := st_virt b216 dL_law_384 (n := 3) (rest := []) rfl rfl rfl rfl rfl rfl rfl h h1
theorem s216_387 : sm_at C X 216 387 [l0, l1, some (.ref a), l3] st N I L P = sm_at C X 216 388 [l0, l1, some (.ref a), l3] (.ref a :: st) N I L P := st_go b216 dL_law_387 (by decide) rfl
theorem s216_387n : sm_at C X 216 387 [l0, l1, some .null, l3] st N I L P = sm_at C X 216 388 [l0, l1, some .null, l3] (.null :: st) N I L P := st_go b216 dL_law_387 (by decide) rfl
theorem s216_388 : sm_at C X 216 388 [some (.ref a), l1, l2, l3] st N I L P = sm_at C X 216 389 [some (.ref a), l1, l2, l3] (.ref a :: st) N I L P := st_go b216 dL_law_388 (by decide) rfl
theorem s216_389 : sm_at C X 216 389 [l0, l1, l2, some (.int x0)] st N I L P = sm_at C X 216 390 [l0, l1, l2, some (.int x0)] (.int x0 :: st) N I L P := st_go b216 dL_law_389 (by decide) rfl
theorem s216_390 : sm_at C X 216 390 ls st N I L P = sm_at C X 216 391 ls (.int (nI 1) :: st) N I L P := st_go b216 dL_law_390 (by decide) rfl
theorem s216_391 : sm_at C X 216 391 ls (.int x0 :: .int x1 :: st) N I L P = sm_at C X 216 392 ls (.int (x1 + x0) :: st) N I L P := st_go b216 dL_law_391 (by decide) rfl
theorem s216_392 (h : a < N) (h1 : k < sm_al a) : sm_at C X 216 392 ls (.int (nI k) :: .ref a :: st) N I L P = sm_at C X 216 393 ls (.int (I a k) :: st) N I L P := st_iald b216 dL_law_392 h h1
theorem s216_392x (h : N ≤ 1000) (h1 : k < n) (h2 : n < 1000) : sm_at C (some (n, f)) 216 392 ls (.int (nI k) :: .ref 1048578 :: st) N I L P = sm_at C (some (n, f)) 216 393 ls (.int (f k) :: st) N I L P := st_ialx b216 dL_law_392 h h1 h2
theorem s216_393 : sm_at C X 216 393 [some (.ref a), l1, l2, l3] st N I L P = sm_at C X 216 394 [some (.ref a), l1, l2, l3] (.ref a :: st) N I L P := st_go b216 dL_law_393 (by decide) rfl
theorem s216_394 : sm_at C X 216 394 [l0, l1, l2, some (.int x0)] st N I L P = sm_at C X 216 395 [l0, l1, l2, some (.int x0)] (.int x0 :: st) N I L P := st_go b216 dL_law_394 (by decide) rfl
theorem s216_395 : sm_at C X 216 395 ls st N I L P = sm_at C X 216 396 ls (.int (nI 2) :: st) N I L P := st_go b216 dL_law_395 (by decide) rfl
theorem s216_396 : sm_at C X 216 396 ls (.int x0 :: .int x1 :: st) N I L P = sm_at C X 216 397 ls (.int (x1 + x0) :: st) N I L P := st_go b216 dL_law_396 (by decide) rfl
theorem s216_397 (h : a < N) (h1 : k < sm_al a) : sm_at C X 216 397 ls (.int (nI k) :: .ref a :: st) N I L P = sm_at C X 216 398 ls (.int (I a k) :: st) N I L P := st_iald b216 dL_law_397 h h1
theorem s216_397x (h : N ≤ 1000) (h1 : k < n) (h2 : n < 1000) : sm_at C (some (n, f)) 216 397 ls (.int (nI k) :: .ref 1048578 :: st) N I L P = sm_at C (some (n, f)) 216 398 ls (.int (f k) :: st) N I L P := st_ialx b216 dL_law_397 h h1 h2
theorem s216_398 (h : a < N) (h1 : sm_lay a = .inl 11) : sm_at C X 216 398 ls [w2, w1, .ref a, v0] N I L P = sm_af C X 216 401 ls [v0] (C 160 [.ref a, w1, w2] N I L P) := st_virt b216 dL_law_398 (n := 3) (rest := [v0]) rfl rfl rfl rfl rfl rfl rfl h h1
theorem s216_401 : sm_at C X 216 401 ls (.int x0 :: .int x1 :: st) N I L P = if x1 = x0 then sm_at C X 216 1109 ls st N I L P else sm_at C X 216 404 ls st N I L P := st_br b216 dL_law_401 (by decide) rfl
theorem s216_404 : sm_at C X 216 404 ls st N I L P = sm_at C X 216 405 ls (.int (nI 0) :: st) N I L P := st_go b216 dL_law_404 (by decide) rfl
theorem s216_405 (h : x0 = 0 ∨ x0 = 1) : sm_at C X 216 405 ls [.int x0] N I L P = some (some (.int x0), N, I, L, P) := st_zret b216 dL_law_405 rfl h
theorem s216_406 : sm_at C X 216 406 [l0, some (.ref a), l2, l3] st N I L P = sm_at C X 216 407 [l0, some (.ref a), l2, l3] (.ref a :: st) N I L P := st_go b216 dL_law_406 (by decide) rfl
theorem s216_406n : sm_at C X 216 406 [l0, some .null, l2, l3] st N I L P = sm_at C X 216 407 [l0, some .null, l2, l3] (.null :: st) N I L P := st_go b216 dL_law_406 (by decide) rfl
theorem s216_407 : sm_at C X 216 407 [some (.ref a), l1, l2, l3] st N I L P = sm_at C X 216 408 [some (.ref a), l1, l2, l3] (.ref a :: st) N I L P := st_go b216 dL_law_407 (by decide) rfl
theorem s216_408 : sm_at C X 216 408 [l0, l1, l2, some (.int x0)] st N I L P = sm_at C X 216 409 [l0, l1, l2, some (.int x0)] (.int x0 :: st) N I L P := st_go b216 dL_law_408 (by decide) rfl
theorem s216_409 : sm_at C X 216 409 ls st N I L P = sm_at C X 216 410 ls (.int (nI 1) :: st) N I L P := st_go b216 dL_law_409 (by decide) rfl
theorem s216_410 : sm_at C X 216 410 ls (.int x0 :: .int x1 :: st) N I L P = sm_at C X 216 411 ls (.int (x1 + x0) :: st) N I L P := st_go b216 dL_law_410 (by decide) rfl
theorem s216_411 (h : a < N) (h1 : k < sm_al a) : sm_at C X 216 411 ls (.int (nI k) :: .ref a :: st) N I L P = sm_at C X 216 412 ls (.int (I a k) :: st) N I L P := st_iald b216 dL_law_411 h h1
theorem s216_411x (h : N ≤ 1000) (h1 : k < n) (h2 : n < 1000) : sm_at C (some (n, f)) 216 411 ls (.int (nI k) :: .ref 1048578 :: st) N I L P = sm_at C (some (n, f)) 216 412 ls (.int (f k) :: st) N I L P := st_ialx b216 dL_law_411 h h1 h2
theorem s216_412 : sm_at C X 216 412 [some (.ref a), l1, l2, l3] st N I L P = sm_at C X 216 413 [some (.ref a), l1, l2, l3] (.ref a :: st) N I L P := st_go b216 dL_law_412 (by decide) rfl
theorem s216_413 : sm_at C X 216 413 [l0, l1, l2, some (.int x0)] st N I L P = sm_at C X 216 414 [l0, l1, l2, some (.int x0)] (.int x0 :: st) N I L P := st_go b216 dL_law_413 (by decide) rfl
theorem s216_414 : sm_at C X 216 414 ls st N I L P = sm_at C X 216 415 ls (.int (nI 2) :: st) N I L P := st_go b216 dL_law_414 (by decide) rfl
theorem s216_415 : sm_at C X 216 415 ls (.int x0 :: .int x1 :: st) N I L P = sm_at C X 216 416 ls (.int (x1 + x0) :: st) N I L P := st_go b216 dL_law_415 (by decide) rfl
theorem s216_416 (h : a < N) (h1 : k < sm_al a) : sm_at C X 216 416 ls (.int (nI k) :: .ref a :: st) N I L P = sm_at C X 216 417 ls (.int (I a k) :: st) N I L P := st_iald b216 dL_law_416 h h1
theorem s216_416x (h : N ≤ 1000) (h1 : k < n) (h2 : n < 1000) : sm_at C (some (n, f)) 216 416 ls (.int (nI k) :: .ref 1048578 :: st) N I L P = sm_at C (some (n, f)) 216 417 ls (.int (f k) :: st) N I L P := st_ialx b216 dL_law_416 h h1 h2
theorem s216_417 (h : a < N) (h1 : sm_lay a = .inl 10) : sm_at C X 216 417 ls [w2, w1, .ref a] N I L P = sm_af C X 216 420 ls [] (C 102 [.ref a, w1, w2] N I L P) := st_virt b216 dL_law_417 (n := 3) (rest := []) rfl rfl rfl rfl rfl rfl rfl h h1
theorem s216_420 : sm_at C X 216 420 [l0, l1, some (.ref a), l3] st N I L P = sm_at C X 216 421 [l0, l1, some (.ref a), l3] (.ref a :: st) N I L P := st_go b216 dL_law_420 (by decide) rfl
theorem s216_420n : sm_at C X 216 420 [l0, l1, some .null, l3] st N I L P = sm_at C X 216 421 [l0, l1, some .null, l3] (.null :: st) N I L P := st_go b216 dL_law_420 (by decide) rfl
theorem s216_421 : sm_at C X 216 421 [some (.ref a), l1, l2, l3] st N I L P = sm_at C X 216 422 [some (.ref a), l1, l2, l3] (.ref a :: st) N I L P := st_go b216 dL_law_421 (by decide) rfl
theorem s216_422 : sm_at C X 216 422 [l0, l1, l2, some (.int x0)] st N I L P = sm_at C X 216 423 [l0, l1, l2, some (.int x0)] (.int x0 :: st) N I L P := st_go b216 dL_law_422 (by decide) rfl
theorem s216_423 : sm_at C X 216 423 ls st N I L P = sm_at C X 216 424 ls (.int (nI 1) :: st) N I L P := st_go b216 dL_law_423 (by decide) rfl
theorem s216_424 : sm_at C X 216 424 ls (.int x0 :: .int x1 :: st) N I L P = sm_at C X 216 425 ls (.int (x1 + x0) :: st) N I L P := st_go b216 dL_law_424 (by decide) rfl
theorem s216_425 (h : a < N) (h1 : k < sm_al a) : sm_at C X 216 425 ls (.int (nI k) :: .ref a :: st) N I L P = sm_at C X 216 426 ls (.int (I a k) :: st) N I L P := st_iald b216 dL_law_425 h h1
theorem s216_425x (h : N ≤ 1000) (h1 : k < n) (h2 : n < 1000) : sm_at C (some (n, f)) 216 425 ls (.int (nI k) :: .ref 1048578 :: st) N I L P = sm_at C (some (n, f)) 216 426 ls (.int (f k) :: st) N I L P := st_ialx b216 dL_law_425 h h1 h2
theorem s216_426 : sm_at C X 216 426 [some (.ref a), l1, l2, l3] st N I L P = sm_at C X 216 427 [some (.ref a), l1, l2, l3] (.ref a :: st) N I L P := st_go b216 dL_law_426 (by decide) rfl
theorem s216_427 : sm_at C X 216 427 [l0, l1, l2, some (.int x0)] st N I L P = sm_at C X 216 428 [l0, l1, l2, some (.int x0)] (.int x0 :: st) N I L P := st_go b216 dL_law_427 (by decide) rfl
theorem s216_428 : sm_at C X 216 428 ls st N I L P = sm_at C X 216 429 ls (.int (nI 2) :: st) N I L P := st_go b216 dL_law_428 (by decide) rfl
theorem s216_429 : sm_at C X 216 429 ls (.int x0 :: .int x1 :: st) N I L P = sm_at C X 216 430 ls (.int (x1 + x0) :: st) N I L P := st_go b216 dL_law_429 (by decide) rfl
theorem s216_430 (h : a < N) (h1 : k < sm_al a) : sm_at C X 216 430 ls (.int (nI k) :: .ref a :: st) N I L P = sm_at C X 216 431 ls (.int (I a k) :: st) N I L P := st_iald b216 dL_law_430 h h1
theorem s216_430x (h : N ≤ 1000) (h1 : k < n) (h2 : n < 1000) : sm_at C (some (n, f)) 216 430 ls (.int (nI k) :: .ref 1048578 :: st) N I L P = sm_at C (some (n, f)) 216 431 ls (.int (f k) :: st) N I L P := st_ialx b216 dL_law_430 h h1 h2
theorem s216_431 (h : a < N) (h1 : sm_lay a = .inl 11) : sm_at C X 216 431 ls [w2, w1, .ref a, v0] N I L P = sm_af C X 216 434 ls [v0] (C 163 [.ref a, w1, w2] N I L P) := st_virt b216 dL_law_431 (n := 3) (rest := [v0]) rfl rfl rfl rfl rfl rfl rfl h h1
theorem s216_434 : sm_at C X 216 434 ls (.int x0 :: .int x1 :: st) N I L P = if x1 = x0 then sm_at C X 216 1109 ls st N I L P else sm_at C X 216 437 ls st N I L P := st_br b216 dL_law_434 (by decide) rfl
theorem s216_437 : sm_at C X 216 437 ls st N I L P = sm_at C X 216 438 ls (.int (nI 0) :: st) N I L P := st_go b216 dL_law_437 (by decide) rfl
theorem s216_438 (h : x0 = 0 ∨ x0 = 1) : sm_at C X 216 438 ls [.int x0] N I L P = some (some (.int x0), N, I, L, P) := st_zret b216 dL_law_438 rfl h
theorem s216_439 : sm_at C X 216 439 [l0, some (.ref a), l2, l3] st N I L P = sm_at C X 216 440 [l0, some (.ref a), l2, l3] (.ref a :: st) N I L P := st_go b216 dL_law_439 (by decide) rfl
theorem s216_439n : sm_at C X 216 439 [l0, some .null, l2, l3] st N I L P = sm_at C X 216 440 [l0, some .null, l2, l3] (.null :: st) N I L P := st_go b216 dL_law_439 (by decide) rfl
theorem s216_440 : sm_at C X 216 440 [some (.ref a), l1, l2, l3] st N I L P = sm_at C X 216 441 [some (.ref a), l1, l2, l3] (.ref a :: st) N I L P := st_go b216 dL_law_440 (by decide) rfl
theorem s216_441 : sm_at C X 216 441 [l0, l1, l2, some (.int x0)] st N I L P = sm_at C X 216 442 [l0, l1, l2, some (.int x0)] (.int x0 :: st) N I L P := st_go b216 dL_law_441 (by decide) rfl
theorem s216_442 : sm_at C X 216 442 ls st N I L P = sm_at C X 216 443 ls (.int (nI 1) :: st) N I L P := st_go b216 dL_law_442 (by decide) rfl
theorem s216_443 : sm_at C X 216 443 ls (.int x0 :: .int x1 :: st) N I L P = sm_at C X 216 444 ls (.int (x1 + x0) :: st) N I L P := st_go b216 dL_law_443 (by decide) rfl
theorem s216_444 (h : a < N) (h1 : k < sm_al a) : sm_at C X 216 444 ls (.int (nI k) :: .ref a :: st) N I L P = sm_at C X 216 445 ls (.int (I a k) :: st) N I L P := st_iald b216 dL_law_444 h h1
theorem s216_444x (h : N ≤ 1000) (h1 : k < n) (h2 : n < 1000) : sm_at C (some (n, f)) 216 444 ls (.int (nI k) :: .ref 1048578 :: st) N I L P = sm_at C (some (n, f)) 216 445 ls (.int (f k) :: st) N I L P := st_ialx b216 dL_law_444 h h1 h2
theorem s216_445 : sm_at C X 216 445 [some (.ref a), l1, l2, l3] st N I L P = sm_at C X 216 446 [some (.ref a), l1, l2, l3] (.ref a :: st) N I L P := st_go b216 dL_law_445 (by decide) rfl
theorem s216_446 : sm_at C X 216 446 [l0, l1, l2, some (.int x0)] st N I L P = sm_at C X 216 447 [l0, l1, l2, some (.int x0)] (.int x0 :: st) N I L P := st_go b216 dL_law_446 (by decide) rfl
theorem s216_447 : sm_at C X 216 447 ls st N I L P = sm_at C X 216 448 ls (.int (nI 2) :: st) N I L P := st_go b216 dL_law_447 (by decide) rfl
theorem s216_448 : sm_at C X 216 448 ls (.int x0 :: .int x1 :: st) N I L P = sm_at C X 216 449 ls (.int (x1 + x0) :: st) N I L P := st_go b216 dL_law_448 (by decide) rfl
theorem s216_449 (h : a < N) (h1 : k < sm_al a) : sm_at C X 216 449 ls (.int (nI k) :: .ref a :: st) N I L P = sm_at C X 216 450 ls (.int (I a k) :: st) N I L P := st_iald b216 dL_law_449 h h1
theorem s216_449x (h : N ≤ 1000) (h1 : k < n) (h2 : n < 1000) : sm_at C (some (n, f)) 216 449 ls (.int (nI k) :: .ref 1048578 :: st) N I L P = sm_at C (some (n, f)) 216 450 ls (.int (f k) :: st) N I L P := st_ialx b216 dL_law_449 h h1 h2
theorem s216_450 (h : a < N) (h1 : sm_lay a = .inl 10) : sm_at C X 216 450 ls [w2, w1, .ref a] N I L P = sm_af C X 216 453 ls [] (C 103 [.ref a, w1, w2] N I L P) := st_virt b216 dL_law_450 (n := 3) (rest := []) rfl rfl rfl rfl rfl rfl rfl h h1
theorem s216_453 : sm_at C X 216 453 [l0, l1, some (.ref a), l3] st N I L P = sm_at C X 216 454 [l0, l1, some (.ref a), l3] (.ref a :: st) N I L P := st_go b216 dL_law_453 (by decide) rfl
theorem s216_453n : sm_at C X 216 453 [l0, l1, some .null, l3] st N I L P = sm_at C X 216 454 [l0, l1, some .null, l3] (.null :: st) N I L P := st_go b216 dL_law_453 (by decide) rfl
theorem s216_454 : sm_at C X 216 454 [some (.ref a), l1, l2, l3] st N I L P = sm_at C X 216 455 [some (.ref a), l1, l2, l3] (.ref a :: st) N I L P := st_go b216 dL_law_454 (by decide) rfl
theorem s216_455 : sm_at C X 216 455 [l0, l1, l2, some (.int x0)] st N I L P = sm_at C X 216 456 [l0, l1, l2, some (.int x0)] (.int x0 :: st) N I L P := st_go b216 dL_law_455 (by decide) rfl
theorem s216_456 : sm_at C X 216 456 ls st N I L P = sm_at C X 216 457 ls (.int (nI 1) :: st) N I L P := st_go b216 dL_law_456 (by decide) rfl
theorem s216_457 : sm_at C X 216 457 ls (.int x0 :: .int x1 :: st) N I L P = sm_at C X 216 458 ls (.int (x1 + x0) :: st) N I L P := st_go b216 dL_law_457 (by decide) rfl
theorem s216_458 (h : a < N) (h1 : k < sm_al a) : sm_at C X 216 458 ls (.int (nI k) :: .ref a :: st) N I L P = sm_at C X 216 459 ls (.int (I a k) :: st) N I L P := st_iald b216 dL_law_458 h h1
theorem s216_458x (h : N ≤ 1000) (h1 : k < n) (h2 : n < 1000) : sm_at C (some (n, f)) 216 458 ls (.int (nI k) :: .ref 1048578 :: st) N I L P = sm_at C (some (n, f)) 216 459 ls (.int (f k) :: st) N I L P := st_ialx b216 dL_law_458 h h1 h2
theorem s216_459 : sm_at C X 216 459 [some (.ref a), l1, l2, l3] st N I L P = sm_at C X 216 460 [some (.ref a), l1, l2, l3] (.ref a :: st) N I L P := st_go b216 dL_law_459 (by decide) rfl
theorem s216_460 : sm_at C X 216 460 [l0, l1, l2, some (.int x0)] st N I L P = sm_at C X 216 461 [l0, l1, l2, some (.int x0)] (.int x0 :: st) N I L P := st_go b216 dL_law_460 (by decide) rfl
theorem s216_461 : sm_at C X 216 461 ls st N I L P = sm_at C X 216 462 ls (.int (nI 2) :: st) N I L P := st_go b216 dL_law_461 (by decide) rfl
theorem s216_462 : sm_at C X 216 462 ls (.int x0 :: .int x1 :: st) N I L P = sm_at C X 216 463 ls (.int (x1 + x0) :: st) N I L P := st_go b216 dL_law_462 (by decide) rfl
theorem s216_463 (h : a < N) (h1 : k < sm_al a) : sm_at C X 216 463 ls (.int (nI k) :: .ref a :: st) N I L P = sm_at C X 216 464 ls (.int (I a k) :: st) N I L P := st_iald b216 dL_law_463 h h1
theorem s216_463x (h : N ≤ 1000) (h1 : k < n) (h2 : n < 1000) : sm_at C (some (n, f)) 216 463 ls (.int (nI k) :: .ref 1048578 :: st) N I L P = sm_at C (some (n, f)) 216 464 ls (.int (f k) :: st) N I L P := st_ialx b216 dL_law_463 h h1 h2
theorem s216_464 (h : a < N) (h1 : sm_lay a = .inl 11) : sm_at C X 216 464 ls [w2, w1, .ref a, v0] N I L P = sm_af C X 216 467 ls [v0] (C 164 [.ref a, w1, w2] N I L P) := st_virt b216 dL_law_464 (n := 3) (rest := [v0]) rfl rfl rfl rfl rfl rfl rfl h h1
theorem s216_467 : sm_at C X 216 467 ls (.int x0 :: .int x1 :: st) N I L P = if x1 = x0 then sm_at C X 216 1109 ls st N I L P else sm_at C X 216 470 ls st N I L P := st_br b216 dL_law_467 (by decide) rfl
theorem s216_470 : sm_at C X 216 470 ls st N I L P = sm_at C X 216 471 ls (.int (nI 0) :: st) N I L P := st_go b216 dL_law_470 (by decide) rfl
theorem s216_471 (h : x0 = 0 ∨ x0 = 1) : sm_at C X 216 471 ls [.int x0] N I L P = some (some (.int x0), N, I, L, P) := st_zret b216 dL_law_471 rfl h
theorem s216_472 : sm_at C X 216 472 [l0, some (.ref a), l2, l3] st N I L P = sm_at C X 216 473 [l0, some (.ref a), l2, l3] (.ref a :: st) N I L P := st_go b216 dL_law_472 (by decide) rfl
theorem s216_472n : sm_at C X 216 472 [l0, some .null, l2, l3] st N I L P = sm_at C X 216 473 [l0, some .null, l2, l3] (.null :: st) N I L P := st_go b216 dL_law_472 (by decide) rfl
theorem s216_473 (h : a < N) (h1 : sm_lay a = .inl 10) : sm_at C X 216 473 ls [.ref a] N I L P = sm_af C X 216 476 ls [] (C 104 [.ref a] N I L P) := st_virt b216 dL_law_473 (n := 1) (rest := []) rfl rfl rfl rfl rfl rfl rfl h h1
theorem s216_476 : sm_at C X 216 476 [l0, l1, some (.ref a), l3] st N I L P = sm_at C X 216 477 [l0, l1, some (.ref a), l3] (.ref a :: st) N I L P := st_go b216 dL_law_476 (by decide) rfl
theorem s216_476n : sm_at C X 216 476 [l0, l1, some .null, l3] st N I L P = sm_at C X 216 477 [l0, l1, some .null, l3] (.null :: st) N I L P := st_go b216 dL_law_476 (by decide) rfl
theorem s216_477 (h : a < N) (h1 : sm_lay a = .inl 11) : sm_at C X 216 477 ls [.ref a, v0] N I L P = sm_af C X 216 480 ls [v0] (C 165 [.ref a] N I L P) := st_virt b216 dL_law_477 (n := 1) (rest := [v0]) rfl rfl rfl rfl rfl rfl rfl h h1
theorem s216_480 : sm_at C X 216 480 ls (.int x0 :: .int x1 :: st) N I L P = if x1 = x0 then sm_at C X 216 1109 ls st N I L P else sm_at C X 216 483 ls st N I L P := st_br b216 dL_law_480 (by decide) rfl
theorem s216_483 : sm_at C X 216 483 ls st N I L P = sm_at C X 216 484 ls (.int (nI 0) :: st) N I L P := st_go b216 dL_law_483 (by decide) rfl
theorem s216_484 (h : x0 = 0 ∨ x0 = 1) : sm_at C X 216 484 ls [.int x0] N I L P = some (some (.int x0), N, I, L, P) := st_zret b216 dL_law_484 rfl h
theorem s216_485 : sm_at C X 216 485 [l0, some (.ref a), l2, l3] st N I L P = sm_at C X 216 486 [l0, some (.ref a), l2, l3] (.ref a :: st) N I L P := st_go b216 dL_law_485 (by decide) rfl
theorem s216_485n : sm_at C X 216 485 [l0, some .null, l2, l3] st N I L P = sm_at C X 216 486 [l0, some .null, l2, l3] (.null :: st) N I L P := st_go b216 dL_law_485 (by decide) rfl
theorem s216_486 : sm_at C X 216 486 [some (.ref a), l1, l2, l3] st N I L P = sm_at C X 216 487 [some (.ref a), l1, l2, l3] (.ref a :: st) N I L P := st_go b216 dL_law_486 (by decide) rfl
theorem s216_487 : sm_at C X 216 487 [l0, l1, l2, some (.int x0)] st N I L P = sm_at C X 216 488 [l0, l1, l2, some (.int x0)] (.int x0 :: st) N I L P := st_go b216 dL_law_487 (by decide) rfl
theorem s216_488 : sm_at C X 216 488 ls st N I L P = sm_at C X 216 489 ls (.int (nI 1) :: st) N I L P := st_go b216 dL_law_488 (by decide) rfl
theorem s216_489 : sm_at C X 216 489 ls (.int x0 :: .int x1 :: st) N I L P = sm_at C X 216 490 ls (.int (x1 + x0) :: st) N I L P := st_go b216 dL_law_489 (by decide) rfl
theorem s216_490 (h : a < N) (h1 : k < sm_al a) : sm_at C X 216 490 ls (.int (nI k) :: .ref a :: st) N I L P = sm_at C X 216 491 ls (.int (I a k) :: st) N I L P := st_iald b216 dL_law_490 h h1
theorem s216_490x (h : N ≤ 1000) (h1 : k < n) (h2 : n < 1000) : sm_at C (some (n, f)) 216 490 ls (.int (nI k) :: .ref 1048578 :: st) N I L P = sm_at C (some (n, f)) 216 491 ls (.int (f k) :: st) N I L P := st_ialx b216 dL_law_490 h h1 h2
theorem s216_491 : sm_at C X 216 491 [some (.ref a), l1, l2, l3] st N I L P = sm_at C X 216 492 [some (.ref a), l1, l2, l3] (.ref a :: st) N I L P := st_go b216 dL_law_491 (by decide) rfl
theorem s216_492 : sm_at C X 216 492 [l0, l1, l2, some (.int x0)] st N I L P = sm_at C X 216 493 [l0, l1, l2, some (.int x0)] (.int x0 :: st) N I L P := st_go b216 dL_law_492 (by decide) rfl
theorem s216_493 : sm_at C X 216 493 ls st N I L P = sm_at C X 216 494 ls (.int (nI 2) :: st) N I L P := st_go b216 dL_law_493 (by decide) rfl
theorem s216_494 : sm_at C X 216 494 ls (.int x0 :: .int x1 :: st) N I L P = sm_at C X 216 495 ls (.int (x1 + x0) :: st) N I L P := st_go b216 dL_law_494 (by decide) rfl
theorem s216_495 (h : a < N) (h1 : k < sm_al a) : sm_at C X 216 495 ls (.int (nI k) :: .ref a :: st) N I L P = sm_at C X 216 496 ls (.int (I a k) :: st) N I L P := st_iald b216 dL_law_495 h h1
theorem s216_495x (h : N ≤ 1000) (h1 : k < n) (h2 : n < 1000) : sm_at C (some (n, f)) 216 495 ls (.int (nI k) :: .ref 1048578 :: st) N I L P = sm_at C (some (n, f)) 216 496 ls (.int (f k) :: st) N I L P := st_ialx b216 dL_law_495 h h1 h2
theorem s216_496 : sm_at C X 216 496 [some (.ref a), l1, l2, l3] st N I L P = sm_at C X 216 497 [some (.ref a), l1, l2, l3] (.ref a :: st) N I L P := st_go b216 dL_law_496 (by decide) rfl
theorem s216_497 : sm_at C X 216 497 [l0, l1, l2, some (.int x0)] st N I L P = sm_at C X 216 498 [l0, l1, l2, some (.int x0)] (.int x0 :: st) N I L P := st_go b216 dL_law_497 (by decide) rfl
theorem s216_498 : sm_at C X 216 498 ls st N I L P = sm_at C X 216 499 ls (.int (nI 3) :: st) N I L P := st_go b216 dL_law_498 (by decide) rfl
theorem s216_499 : sm_at C X 216 499 ls (.int x0 :: .int x1 :: st) N I L P = sm_at C X 216 500 ls (.int (x1 + x0) :: st) N I L P := st_go b216 dL_law_499 (by decide) rfl
theorem s216_500 (h : a < N) (h1 : k < sm_al a) : sm_at C X 216 500 ls (.int (nI k) :: .ref a :: st) N I L P = sm_at C X 216 501 ls (.int (I a k) :: st) N I L P := st_iald b216 dL_law_500 h h1
theorem s216_500x (h : N ≤ 1000) (h1 : k < n) (h2 : n < 1000) : sm_at C (some (n, f)) 216 500 ls (.int (nI k) :: .ref 1048578 :: st) N I L P = sm_at C (some (n, f)) 216 501 ls (.int (f k) :: st) N I L P := st_ialx b216 dL_law_500 h h1 h2
theorem s216_501 (h : a < N) (h1 : sm_lay a = .inl 10) : sm_at C X 216 501 ls [w3, w2, w1, .ref a] N I L P = sm_af C X 216 504 ls [] (C 105 [.ref a, w1, w2, w3] N I L P) := st_virt b216 dL_law_501 (n := 4) (rest := []) rfl rfl rfl rfl rfl rfl rfl h h1
theorem s216_504 : sm_at C X 216 504 [l0, l1, some (.ref a), l3] st N I L P = sm_at C X 216 505 [l0, l1, some (.ref a), l3] (.ref a :: st) N I L P := st_go b216 dL_law_504 (by decide) rfl
theorem s216_504n : sm_at C X 216 504 [l0, l1, some .null, l3] st N I L P = sm_at C X 216 505 [l0, l1, some .null, l3] (.null :: st) N I L P := st_go b216 dL_law_504 (by decide) rfl
theorem s216_505 : sm_at C X 216 505 [some (.ref a), l1, l2, l3] st N I L P = sm_at C X 216 506 [some (.ref a), l1, l2, l3] (.ref a :: st) N I L P := st_go b216 dL_law_505 (by decide) rfl
theorem s216_506 : sm_at C X 216 506 [l0, l1, l2, some (.int x0)] st N I L P = sm_at C X 216 507 [l0, l1, l2, some (.int x0)] (.int x0 :: st) N I L P := st_go b216 dL_law_506 (by decide) rfl
theorem s216_507 : sm_at C X 216 507 ls st N I L P = sm_at C X 216 508 ls (.int (nI 1) :: st) N I L P := st_go b216 dL_law_507 (by decide) rfl
theorem s216_508 : sm_at C X 216 508 ls (.int x0 :: .int x1 :: st) N I L P = sm_at C X 216 509 ls (.int (x1 + x0) :: st) N I L P := st_go b216 dL_law_508 (by decide) rfl
theorem s216_509 (h : a < N) (h1 : k < sm_al a) : sm_at C X 216 509 ls (.int (nI k) :: .ref a :: st) N I L P = sm_at C X 216 510 ls (.int (I a k) :: st) N I L P := st_iald b216 dL_law_509 h h1
theorem s216_509x (h : N ≤ 1000) (h1 : k < n) (h2 : n < 1000) : sm_at C (some (n, f)) 216 509 ls (.int (nI k) :: .ref 1048578 :: st) N I L P = sm_at C (some (n, f)) 216 510 ls (.int (f k) :: st) N I L P := st_ialx b216 dL_law_509 h h1 h2
theorem s216_510 : sm_at C X 216 510 [some (.ref a), l1, l2, l3] st N I L P = sm_at C X 216 511 [some (.ref a), l1, l2, l3] (.ref a :: st) N I L P := st_go b216 dL_law_510 (by decide) rfl
theorem s216_511 : sm_at C X 216 511 [l0, l1, l2, some (.int x0)] st N I L P = sm_at C X 216 512 [l0, l1, l2, some (.int x0)] (.int x0 :: st) N I L P := st_go b216 dL_law_511 (by decide) rfl
theorem s216_512 : sm_at C X 216 512 ls st N I L P = sm_at C X 216 513 ls (.int (nI 2) :: st) N I L P := st_go b216 dL_law_512 (by decide) rfl
theorem s216_513 : sm_at C X 216 513 ls (.int x0 :: .int x1 :: st) N I L P = sm_at C X 216 514 ls (.int (x1 + x0) :: st) N I L P := st_go b216 dL_law_513 (by decide) rfl
theorem s216_514 (h : a < N) (h1 : k < sm_al a) : sm_at C X 216 514 ls (.int (nI k) :: .ref a :: st) N I L P = sm_at C X 216 515 ls (.int (I a k) :: st) N I L P := st_iald b216 dL_law_514 h h1
theorem s216_514x (h : N ≤ 1000) (h1 : k < n) (h2 : n < 1000) : sm_at C (some (n, f)) 216 514 ls (.int (nI k) :: .ref 1048578 :: st) N I L P = sm_at C (some (n, f)) 216 515 ls (.int (f k) :: st) N I L P := st_ialx b216 dL_law_514 h h1 h2
theorem s216_515 : sm_at C X 216 515 [some (.ref a), l1, l2, l3] st N I L P = sm_at C X 216 516 [some (.ref a), l1, l2, l3] (.ref a :: st) N I L P := st_go b216 dL_law_515 (by decide) rfl
theorem s216_516 : sm_at C X 216 516 [l0, l1, l2, some (.int x0)] st N I L P = sm_at C X 216 517 [l0, l1, l2, some (.int x0)] (.int x0 :: st) N I L P := st_go b216 dL_law_516 (by decide) rfl
theorem s216_517 : sm_at C X 216 517 ls st N I L P = sm_at C X 216 518 ls (.int (nI 3) :: st) N I L P := st_go b216 dL_law_517 (by decide) rfl
theorem s216_518 : sm_at C X 216 518 ls (.int x0 :: .int x1 :: st) N I L P = sm_at C X 216 519 ls (.int (x1 + x0) :: st) N I L P := st_go b216 dL_law_518 (by decide) rfl
theorem s216_519 (h : a < N) (h1 : k < sm_al a) : sm_at C X 216 519 ls (.int (nI k) :: .ref a :: st) N I L P = sm_at C X 216 520 ls (.int (I a k) :: st) N I L P := st_iald b216 dL_law_519 h h1
theorem s216_519x (h : N ≤ 1000) (h1 : k < n) (h2 : n < 1000) : sm_at C (some (n, f)) 216 519 ls (.int (nI k) :: .ref 1048578 :: st) N I L P = sm_at C (some (n, f)) 216 520 ls (.int (f k) :: st) N I L P := st_ialx b216 dL_law_519 h h1 h2
theorem s216_520 (h : a < N) (h1 : sm_lay a = .inl 11) : sm_at C X 216 520 ls [w3, w2, w1, .ref a, v0] N I L P = sm_af C X 216 523 ls [v0] (C 170 [.ref a, w1, w2, w3] N I L P) := st_virt b216 dL_law_520 (n := 4) (rest := [v0]) rfl rfl rfl rfl rfl rfl rfl h h1
theorem s216_523 : sm_at C X 216 523 ls (.int x0 :: .int x1 :: st) N I L P = if x1 = x0 then sm_at C X 216 1109 ls st N I L P else sm_at C X 216 526 ls st N I L P := st_br b216 dL_law_523 (by decide) rfl
theorem s216_526 : sm_at C X 216 526 ls st N I L P = sm_at C X 216 527 ls (.int (nI 0) :: st) N I L P := st_go b216 dL_law_526 (by decide) rfl
theorem s216_527 (h : x0 = 0 ∨ x0 = 1) : sm_at C X 216 527 ls [.int x0] N I L P = some (some (.int x0), N, I, L, P) := st_zret b216 dL_law_527 rfl h
theorem s216_528 : sm_at C X 216 528 [l0, some (.ref a), l2, l3] st N I L P = sm_at C X 216 529 [l0, some (.ref a), l2, l3] (.ref a :: st) N I L P := st_go b216 dL_law_528 (by decide) rfl
theorem s216_528n : sm_at C X 216 528 [l0, some .null, l2, l3] st N I L P = sm_at C X 216 529 [l0, some .null, l2, l3] (.null :: st) N I L P := st_go b216 dL_law_528 (by decide) rfl
theorem s216_529 : sm_at C X 216 529 [some (.ref a), l1, l2, l3] st N I L P = sm_at C X 216 530 [some (.ref a), l1, l2, l3] (.ref a :: st) N I L P := st_go b216 dL_law_529 (by decide) rfl
theorem s216_530 : sm_at C X 216 530 [l0, l1, l2, some (.int x0)] st N I L P = sm_at C X 216 531 [l0, l1, l2, some (.int x0)] (.int x0 :: st) N I L P := st_go b216 dL_law_530 (by decide) rfl
theorem s216_531 : sm_at C X 216 531 ls st N I L P = sm_at C X 216 532 ls (.int (nI 1) :: st) N I L P := st_go b216 dL_law_531 (by decide) rfl
theorem s216_532 : sm_at C X 216 532 ls (.int x0 :: .int x1 :: st) N I L P = sm_at C X 216 533 ls (.int (x1 + x0) :: st) N I L P := st_go b216 dL_law_532 (by decide) rfl
theorem s216_533 (h : a < N) (h1 : k < sm_al a) : sm_at C X 216 533 ls (.int (nI k) :: .ref a :: st) N I L P = sm_at C X 216 534 ls (.int (I a k) :: st) N I L P := st_iald b216 dL_law_533 h h1
theorem s216_533x (h : N ≤ 1000) (h1 : k < n) (h2 : n < 1000) : sm_at C (some (n, f)) 216 533 ls (.int (nI k) :: .ref 1048578 :: st) N I L P = sm_at C (some (n, f)) 216 534 ls (.int (f k) :: st) N I L P := st_ialx b216 dL_law_533 h h1 h2
theorem s216_534 : sm_at C X 216 534 [some (.ref a), l1, l2, l3] st N I L P = sm_at C X 216 535 [some (.ref a), l1, l2, l3] (.ref a :: st) N I L P := st_go b216 dL_law_534 (by decide) rfl
theorem s216_535 : sm_at C X 216 535 [l0, l1, l2, some (.int x0)] st N I L P = sm_at C X 216 536 [l0, l1, l2, some (.int x0)] (.int x0 :: st) N I L P := st_go b216 dL_law_535 (by decide) rfl
theorem s216_536 : sm_at C X 216 536 ls st N I L P = sm_at C X 216 537 ls (.int (nI 2) :: st) N I L P := st_go b216 dL_law_536 (by decide) rfl
theorem s216_537 : sm_at C X 216 537 ls (.int x0 :: .int x1 :: st) N I L P = sm_at C X 216 538 ls (.int (x1 + x0) :: st) N I L P := st_go b216 dL_law_537 (by decide) rfl
theorem s216_538 (h : a < N) (h1 : k < sm_al a) : sm_at C X 216 538 ls (.int (nI k) :: .ref a :: st) N I L P = sm_at C X 216 539 ls (.int (I a k) :: st) N I L P := st_iald b216 dL_law_538 h h1
theorem s216_538x (h : N ≤ 1000) (h1 : k < n) (h2 : n < 1000) : sm_at C (some (n, f)) 216 538 ls (.int (nI k) :: .ref 1048578 :: st) N I L P = sm_at C (some (n, f)) 216 539 ls (.int (f k) :: st) N I L P := st_ialx b216 dL_law_538 h h1 h2
theorem s216_539 : sm_at C X 216 539 [some (.ref a), l1, l2, l3] st N I L P = sm_at C X 216 540 [some (.ref a), l1, l2, l3] (.ref a :: st) N I L P := st_go b216 dL_law_539 (by decide) rfl
theorem s216_540 : sm_at C X 216 540 [l0, l1, l2, some (.int x0)] st N I L P = sm_at C X 216 541 [l0, l1, l2, some (.int x0)] (.int x0 :: st) N I L P := st_go b216 dL_law_540 (by decide) rfl
theorem s216_541 : sm_at C X 216 541 ls st N I L P = sm_at C X 216 542 ls (.int (nI 3) :: st) N I L P := st_go b216 dL_law_541 (by decide) rfl
theorem s216_542 : sm_at C X 216 542 ls (.int x0 :: .int x1 :: st) N I L P = sm_at C X 216 543 ls (.int (x1 + x0) :: st) N I L P := st_go b216 dL_law_542 (by decide) rfl
theorem s216_543 (h : a < N) (h1 : k < sm_al a) : sm_at C X 216 543 ls (.int (nI k) :: .ref a :: st) N I L P = sm_at C X 216 544 ls (.int (I a k) :: st) N I L P := st_iald b216 dL_law_543 h h1
theorem s216_543x (h : N ≤ 1000) (h1 : k < n) (h2 : n < 1000) : sm_at C (some (n, f)) 216 543 ls (.int (nI k) :: .ref 1048578 :: st) N I L P = sm_at C (some (n, f)) 216 544 ls (.int (f k) :: st) N I L P := st_ialx b216 dL_law_543 h h1 h2
theorem s216_544 : sm_at C X 216 544 [some (.ref a), l1, l2, l3] st N I L P = sm_at C X 216 545 [some (.ref a), l1, l2, l3] (.ref a :: st) N I L P := st_go b216 dL_law_544 (by decide) rfl
theorem s216_545 : sm_at C X 216 545 [l0, l1, l2, some (.int x0)] st N I L P = sm_at C X 216 546 [l0, l1, l2, some (.int x0)] (.int x0 :: st) N I L P := st_go b216 dL_law_545 (by decide) rfl
theorem s216_546 : sm_at C X 216 546 ls st N I L P = sm_at C X 216 547 ls (.int (nI 4) :: st) N I L P := st_go b216 dL_law_546 (by decide) rfl
theorem s216_547 : sm_at C X 216 547 ls (.int x0 :: .int x1 :: st) N I L P = sm_at C X 216 548 ls (.int (x1 + x0) :: st) N I L P := st_go b216 dL_law_547 (by decide) rfl
theorem s216_548 (h : a < N) (h1 : k < sm_al a) : sm_at C X 216 548 ls (.int (nI k) :: .ref a :: st) N I L P = sm_at C X 216 549 ls (.int (I a k) :: st) N I L P := st_iald b216 dL_law_548 h h1
theorem s216_548x (h : N ≤ 1000) (h1 : k < n) (h2 : n < 1000) : sm_at C (some (n, f)) 216 548 ls (.int (nI k) :: .ref 1048578 :: st) N I L P = sm_at C (some (n, f)) 216 549 ls (.int (f k) :: st) N I L P := st_ialx b216 dL_law_548 h h1 h2
theorem s216_549 (h : a < N) (h1 : sm_lay a = .inl 10) : sm_at C X 216 549 ls [w4, w3, w2, w1, .ref a] N I L P = sm_af C X 216 552 ls [] (C 106 [.ref a, w1, w2, w3, w4] N I L P) := st_virt b216 dL_law_549 (n := 5) (rest := []) rfl rfl rfl rfl rfl rfl rfl h h1
theorem s216_552 : sm_at C X 216 552 [l0, l1, some (.ref a), l3] st N I L P = sm_at C X 216 553 [l0, l1, some (.ref a), l3] (.ref a :: st) N I L P := st_go b216 dL_law_552 (by decide) rfl
theorem s216_552n : sm_at C X 216 552 [l0, l1, some .null, l3] st N I L P = sm_at C X 216 553 [l0, l1, some .null, l3] (.null :: st) N I L P := st_go b216 dL_law_552 (by decide) rfl
theorem s216_553 : sm_at C X 216 553 [some (.ref a), l1, l2, l3] st N I L P = sm_at C X 216 554 [some (.ref a), l1, l2, l3] (.ref a :: st) N I L P := st_go b216 dL_law_553 (by decide) rfl
theorem s216_554 : sm_at C X 216 554 [l0, l1, l2, some (.int x0)] st N I L P = sm_at C X 216 555 [l0, l1, l2, some (.int x0)] (.int x0 :: st) N I L P := st_go b216 dL_law_554 (by decide) rfl
theorem s216_555 : sm_at C X 216 555 ls st N I L P = sm_at C X 216 556 ls (.int (nI 1) :: st) N I L P := st_go b216 dL_law_555 (by decide) rfl
theorem s216_556 : sm_at C X 216 556 ls (.int x0 :: .int x1 :: st) N I L P = sm_at C X 216 557 ls (.int (x1 + x0) :: st) N I L P := st_go b216 dL_law_556 (by decide) rfl
theorem s216_557 (h : a < N) (h1 : k < sm_al a) : sm_at C X 216 557 ls (.int (nI k) :: .ref a :: st) N I L P = sm_at C X 216 558 ls (.int (I a k) :: st) N I L P := st_iald b216 dL_law_557 h h1
theorem s216_557x (h : N ≤ 1000) (h1 : k < n) (h2 : n < 1000) : sm_at C (some (n, f)) 216 557 ls (.int (nI k) :: .ref 1048578 :: st) N I L P = sm_at C (some (n, f)) 216 558 ls (.int (f k) :: st) N I L P := st_ialx b216 dL_law_557 h h1 h2
theorem s216_558 : sm_at C X 216 558 [some (.ref a), l1, l2, l3] st N I L P = sm_at C X 216 559 [some (.ref a), l1, l2, l3] (.ref a :: st) N I L P := st_go b216 dL_law_558 (by decide) rfl
theorem s216_559 : sm_at C X 216 559 [l0, l1, l2, some (.int x0)] st N I L P = sm_at C X 216 560 [l0, l1, l2, some (.int x0)] (.int x0 :: st) N I L P := st_go b216 dL_law_559 (by decide) rfl
theorem s216_560 : sm_at C X 216 560 ls st N I L P = sm_at C X 216 561 ls (.int (nI 2) :: st) N I L P := st_go b216 dL_law_560 (by decide) rfl
theorem s216_561 : sm_at C X 216 561 ls (.int x0 :: .int x1 :: st) N I L P = sm_at C X 216 562 ls (.int (x1 + x0) :: st) N I L P := st_go b216 dL_law_561 (by decide) rfl
theorem s216_562 (h : a < N) (h1 : k < sm_al a) : sm_at C X 216 562 ls (.int (nI k) :: .ref a :: st) N I L P = sm_at C X 216 563 ls (.int (I a k) :: st) N I L P := st_iald b216 dL_law_562 h h1
theorem s216_562x (h : N ≤ 1000) (h1 : k < n) (h2 : n < 1000) : sm_at C (some (n, f)) 216 562 ls (.int (nI k) :: .ref 1048578 :: st) N I L P = sm_at C (some (n, f)) 216 563 ls (.int (f k) :: st) N I L P := st_ialx b216 dL_law_562 h h1 h2
theorem s216_563 : sm_at C X 216 563 [some (.ref a), l1, l2, l3] st N I L P = sm_at C X 216 564 [some (.ref a), l1, l2, l3] (.ref a :: st) N I L P := st_go b216 dL_law_563 (by decide) rfl
theorem s216_564 : sm_at C X 216 564 [l0, l1, l2, some (.int x0)] st N I L P = sm_at C X 216 565 [l0, l1, l2, some (.int x0)] (.int x0 :: st) N I L P := st_go b216 dL_law_564 (by decide) rfl
theorem s216_565 : sm_at C X 216 565 ls st N I L P = sm_at C X 216 566 ls (.int (nI 3) :: st) N I L P := st_go b216 dL_law_565 (by decide) rfl
theorem s216_566 : sm_at C X 216 566 ls (.int x0 :: .int x1 :: st) N I L P = sm_at C X 216 567 ls (.int (x1 + x0) :: st) N I L P := st_go b216 dL_law_566 (by decide) rfl
theorem s216_567 (h : a < N) (h1 : k < sm_al a) : sm_at C X 216 567 ls (.int (nI k) :: .ref a :: st) N I L P = sm_at C X 216 568 ls (.int (I a k) :: st) N I L P := st_iald b216 dL_law_567 h h1
theorem s216_567x (h : N ≤ 1000) (h1 : k < n) (h2 : n < 1000) : sm_at C (some (n, f)) 216 567 ls (.int (nI k) :: .ref 1048578 :: st) N I L P = sm_at C (some (n, f)) 216 568 ls (.int (f k) :: st) N I L P := st_ialx b216 dL_law_567 h h1 h2
theorem s216_568 : sm_at C X 216 568 [some (.ref a), l1, l2, l3] st N I L P = sm_at C X 216 569 [some (.ref a), l1, l2, l3] (.ref a :: st) N I L P := st_go b216 dL_law_568 (by decide) rfl
theorem s216_569 : sm_at C X 216 569 [l0, l1, l2, some (.int x0)] st N I L P = sm_at C X 216 570 [l0, l1, l2, some (.int x0)] (.int x0 :: st) N I L P := st_go b216 dL_law_569 (by decide) rfl
theorem s216_570 : sm_at C X 216 570 ls st N I L P = sm_at C X 216 571 ls (.int (nI 4) :: st) N I L P := st_go b216 dL_law_570 (by decide) rfl
theorem s216_571 : sm_at C X 216 571 ls (.int x0 :: .int x1 :: st) N I L P = sm_at C X 216 572 ls (.int (x1 + x0) :: st) N I L P := st_go b216 dL_law_571 (by decide) rfl
theorem s216_572 (h : a < N) (h1 : k < sm_al a) : sm_at C X 216 572 ls (.int (nI k) :: .ref a :: st) N I L P = sm_at C X 216 573 ls (.int (I a k) :: st) N I L P := st_iald b216 dL_law_572 h h1
theorem s216_572x (h : N ≤ 1000) (h1 : k < n) (h2 : n < 1000) : sm_at C (some (n, f)) 216 572 ls (.int (nI k) :: .ref 1048578 :: st) N I L P = sm_at C (some (n, f)) 216 573 ls (.int (f k) :: st) N I L P := st_ialx b216 dL_law_572 h h1 h2
theorem s216_573 (h : a < N) (h1 : sm_lay a = .inl 11) : sm_at C X 216 573 ls [w4, w3, w2, w1, .ref a, v0] N I L P = sm_af C X 216 576 ls [v0] (C 173 [.ref a, w1, w2, w3, w4] N I L P) := st_virt b216 dL_law_573 (n := 5) (rest := [v0]) rfl rfl rfl rfl rfl rfl rfl h h1
theorem s216_576 : sm_at C X 216 576 ls (.long z0 :: .long z1 :: st) N I L P = sm_at C X 216 577 ls (.int (lg_cmp z1 z0) :: st) N I L P := st_go b216 dL_law_576 (by decide) rfl
theorem s216_577 : sm_at C X 216 577 ls (.int x0 :: st) N I L P = if x0 = 0 then sm_at C X 216 1109 ls st N I L P else sm_at C X 216 580 ls st N I L P := st_br b216 dL_law_577 (by decide) rfl
theorem s216_580 : sm_at C X 216 580 ls st N I L P = sm_at C X 216 581 ls (.int (nI 0) :: st) N I L P := st_go b216 dL_law_580 (by decide) rfl
theorem s216_581 (h : x0 = 0 ∨ x0 = 1) : sm_at C X 216 581 ls [.int x0] N I L P = some (some (.int x0), N, I, L, P) := st_zret b216 dL_law_581 rfl h
theorem s216_582 : sm_at C X 216 582 [l0, some (.ref a), l2, l3] st N I L P = sm_at C X 216 583 [l0, some (.ref a), l2, l3] (.ref a :: st) N I L P := st_go b216 dL_law_582 (by decide) rfl
theorem s216_582n : sm_at C X 216 582 [l0, some .null, l2, l3] st N I L P = sm_at C X 216 583 [l0, some .null, l2, l3] (.null :: st) N I L P := st_go b216 dL_law_582 (by decide) rfl
theorem s216_583 (h : a < N) (h1 : sm_lay a = .inl 10) : sm_at C X 216 583 ls [.ref a] N I L P = sm_af C X 216 586 ls [] (C 107 [.ref a] N I L P) := st_virt b216 dL_law_583 (n := 1) (rest := []) rfl rfl rfl rfl rfl rfl rfl h h1
theorem s216_586 : sm_at C X 216 586 [l0, l1, some (.ref a), l3] st N I L P = sm_at C X 216 587 [l0, l1, some (.ref a), l3] (.ref a :: st) N I L P := st_go b216 dL_law_586 (by decide) rfl
theorem s216_586n : sm_at C X 216 586 [l0, l1, some .null, l3] st N I L P = sm_at C X 216 587 [l0, l1, some .null, l3] (.null :: st) N I L P := st_go b216 dL_law_586 (by decide) rfl
theorem s216_587 (h : a < N) (h1 : sm_lay a = .inl 11) : sm_at C X 216 587 ls [.ref a, v0] N I L P = sm_af C X 216 590 ls [v0] (C 176 [.ref a] N I L P) := st_virt b216 dL_law_587 (n := 1) (rest := [v0]) rfl rfl rfl rfl rfl rfl rfl h h1
theorem s216_590 : sm_at C X 216 590 ls (.int x0 :: .int x1 :: st) N I L P = if x1 = x0 then sm_at C X 216 1109 ls st N I L P else sm_at C X 216 593 ls st N I L P := st_br b216 dL_law_590 (by decide) rfl
theorem s216_593 : sm_at C X 216 593 ls st N I L P = sm_at C X 216 594 ls (.int (nI 0) :: st) N I L P := st_go b216 dL_law_593 (by decide) rfl
theorem s216_594 (h : x0 = 0 ∨ x0 = 1) : sm_at C X 216 594 ls [.int x0] N I L P = some (some (.int x0), N, I, L, P) := st_zret b216 dL_law_594 rfl h
theorem s216_595 : sm_at C X 216 595 [l0, some (.ref a), l2, l3] st N I L P = sm_at C X 216 596 [l0, some (.ref a), l2, l3] (.ref a :: st) N I L P := st_go b216 dL_law_595 (by decide) rfl
theorem s216_595n : sm_at C X 216 595 [l0, some .null, l2, l3] st N I L P = sm_at C X 216 596 [l0, some .null, l2, l3] (.null :: st) N I L P := st_go b216 dL_law_595 (by decide) rfl
theorem s216_596 : sm_at C X 216 596 [some (.ref a), l1, l2, l3] st N I L P = sm_at C X 216 597 [some (.ref a), l1, l2, l3] (.ref a :: st) N I L P := st_go b216 dL_law_596 (by decide) rfl
theorem s216_597 : sm_at C X 216 597 [l0, l1, l2, some (.int x0)] st N I L P = sm_at C X 216 598 [l0, l1, l2, some (.int x0)] (.int x0 :: st) N I L P := st_go b216 dL_law_597 (by decide) rfl
theorem s216_598 : sm_at C X 216 598 ls st N I L P = sm_at C X 216 599 ls (.int (nI 1) :: st) N I L P := st_go b216 dL_law_598 (by decide) rfl
theorem s216_599 : sm_at C X 216 599 ls (.int x0 :: .int x1 :: st) N I L P = sm_at C X 216 600 ls (.int (x1 + x0) :: st) N I L P := st_go b216 dL_law_599 (by decide) rfl
theorem s216_600 (h : a < N) (h1 : k < sm_al a) : sm_at C X 216 600 ls (.int (nI k) :: .ref a :: st) N I L P = sm_at C X 216 601 ls (.int (I a k) :: st) N I L P := st_iald b216 dL_law_600 h h1
theorem s216_600x (h : N ≤ 1000) (h1 : k < n) (h2 : n < 1000) : sm_at C (some (n, f)) 216 600 ls (.int (nI k) :: .ref 1048578 :: st) N I L P = sm_at C (some (n, f)) 216 601 ls (.int (f k) :: st) N I L P := st_ialx b216 dL_law_600 h h1 h2
theorem s216_601 : sm_at C X 216 601 [some (.ref a), l1, l2, l3] st N I L P = sm_at C X 216 602 [some (.ref a), l1, l2, l3] (.ref a :: st) N I L P := st_go b216 dL_law_601 (by decide) rfl
theorem s216_602 : sm_at C X 216 602 [l0, l1, l2, some (.int x0)] st N I L P = sm_at C X 216 603 [l0, l1, l2, some (.int x0)] (.int x0 :: st) N I L P := st_go b216 dL_law_602 (by decide) rfl
theorem s216_603 : sm_at C X 216 603 ls st N I L P = sm_at C X 216 604 ls (.int (nI 2) :: st) N I L P := st_go b216 dL_law_603 (by decide) rfl
theorem s216_604 : sm_at C X 216 604 ls (.int x0 :: .int x1 :: st) N I L P = sm_at C X 216 605 ls (.int (x1 + x0) :: st) N I L P := st_go b216 dL_law_604 (by decide) rfl
theorem s216_605 (h : a < N) (h1 : k < sm_al a) : sm_at C X 216 605 ls (.int (nI k) :: .ref a :: st) N I L P = sm_at C X 216 606 ls (.int (I a k) :: st) N I L P := st_iald b216 dL_law_605 h h1
theorem s216_605x (h : N ≤ 1000) (h1 : k < n) (h2 : n < 1000) : sm_at C (some (n, f)) 216 605 ls (.int (nI k) :: .ref 1048578 :: st) N I L P = sm_at C (some (n, f)) 216 606 ls (.int (f k) :: st) N I L P := st_ialx b216 dL_law_605 h h1 h2
theorem s216_606 (h : a < N) (h1 : sm_lay a = .inl 10) : sm_at C X 216 606 ls [w2, w1, .ref a] N I L P = sm_af C X 216 609 ls [] (C 108 [.ref a, w1, w2] N I L P) := st_virt b216 dL_law_606 (n := 3) (rest := []) rfl rfl rfl rfl rfl rfl rfl h h1
theorem s216_609 : sm_at C X 216 609 [l0, l1, some (.ref a), l3] st N I L P = sm_at C X 216 610 [l0, l1, some (.ref a), l3] (.ref a :: st) N I L P := st_go b216 dL_law_609 (by decide) rfl
theorem s216_609n : sm_at C X 216 609 [l0, l1, some .null, l3] st N I L P = sm_at C X 216 610 [l0, l1, some .null, l3] (.null :: st) N I L P := st_go b216 dL_law_609 (by decide) rfl
theorem s216_610 : sm_at C X 216 610 [some (.ref a), l1, l2, l3] st N I L P = sm_at C X 216 611 [some (.ref a), l1, l2, l3] (.ref a :: st) N I L P := st_go b216 dL_law_610 (by decide) rfl
theorem s216_611 : sm_at C X 216 611 [l0, l1, l2, some (.int x0)] st N I L P = sm_at C X 216 612 [l0, l1, l2, some (.int x0)] (.int x0 :: st) N I L P := st_go b216 dL_law_611 (by decide) rfl
theorem s216_612 : sm_at C X 216 612 ls st N I L P = sm_at C X 216 613 ls (.int (nI 1) :: st) N I L P := st_go b216 dL_law_612 (by decide) rfl
theorem s216_613 : sm_at C X 216 613 ls (.int x0 :: .int x1 :: st) N I L P = sm_at C X 216 614 ls (.int (x1 + x0) :: st) N I L P := st_go b216 dL_law_613 (by decide) rfl
theorem s216_614 (h : a < N) (h1 : k < sm_al a) : sm_at C X 216 614 ls (.int (nI k) :: .ref a :: st) N I L P = sm_at C X 216 615 ls (.int (I a k) :: st) N I L P := st_iald b216 dL_law_614 h h1
theorem s216_614x (h : N ≤ 1000) (h1 : k < n) (h2 : n < 1000) : sm_at C (some (n, f)) 216 614 ls (.int (nI k) :: .ref 1048578 :: st) N I L P = sm_at C (some (n, f)) 216 615 ls (.int (f k) :: st) N I L P := st_ialx b216 dL_law_614 h h1 h2
theorem s216_615 : sm_at C X 216 615 [some (.ref a), l1, l2, l3] st N I L P = sm_at C X 216 616 [some (.ref a), l1, l2, l3] (.ref a :: st) N I L P := st_go b216 dL_law_615 (by decide) rfl
theorem s216_616 : sm_at C X 216 616 [l0, l1, l2, some (.int x0)] st N I L P = sm_at C X 216 617 [l0, l1, l2, some (.int x0)] (.int x0 :: st) N I L P := st_go b216 dL_law_616 (by decide) rfl
theorem s216_617 : sm_at C X 216 617 ls st N I L P = sm_at C X 216 618 ls (.int (nI 2) :: st) N I L P := st_go b216 dL_law_617 (by decide) rfl
theorem s216_618 : sm_at C X 216 618 ls (.int x0 :: .int x1 :: st) N I L P = sm_at C X 216 619 ls (.int (x1 + x0) :: st) N I L P := st_go b216 dL_law_618 (by decide) rfl
theorem s216_619 (h : a < N) (h1 : k < sm_al a) : sm_at C X 216 619 ls (.int (nI k) :: .ref a :: st) N I L P = sm_at C X 216 620 ls (.int (I a k) :: st) N I L P := st_iald b216 dL_law_619 h h1
theorem s216_619x (h : N ≤ 1000) (h1 : k < n) (h2 : n < 1000) : sm_at C (some (n, f)) 216 619 ls (.int (nI k) :: .ref 1048578 :: st) N I L P = sm_at C (some (n, f)) 216 620 ls (.int (f k) :: st) N I L P := st_ialx b216 dL_law_619 h h1 h2
theorem s216_620 (h : a < N) (h1 : sm_lay a = .inl 11) : sm_at C X 216 620 ls [w2, w1, .ref a, v0] N I L P = sm_af C X 216 623 ls [v0] (C 182 [.ref a, w1, w2] N I L P) := st_virt b216 dL_law_620 (n := 3) (rest := [v0]) rfl rfl rfl rfl rfl rfl rfl h h1
theorem s216_623 : sm_at C X 216 623 ls (.int x0 :: .int x1 :: st) N I L P = if x1 = x0 then sm_at C X 216 1109 ls st N I L P else sm_at C X 216 626 ls st N I L P := st_br b216 dL_law_623 (by decide) rfl
theorem s216_626 : sm_at C X 216 626 ls st N I L P = sm_at C X 216 627 ls (.int (nI 0) :: st) N I L P := st_go b216 dL_law_626 (by decide) rfl
theorem s216_627 (h : x0 = 0 ∨ x0 = 1) : sm_at C X 216 627 ls [.int x0] N I L P = some (some (.int x0), N, I, L, P) := st_zret b216 dL_law_627 rfl h
theorem s216_628 : sm_at C X 216 628 [l0, some (.ref a), l2, l3] st N I L P = sm_at C X 216 629 [l0, some (.ref a), l2, l3] (.ref a :: st) N I L P := st_go b216 dL_law_628 (by decide) rfl
theorem s216_628n : sm_at C X 216 628 [l0, some .null, l2, l3] st N I L P = sm_at C X 216 629 [l0, some .null, l2, l3] (.null :: st) N I L P := st_go b216 dL_law_628 (by decide) rfl
theorem s216_629 : sm_at C X 216 629 [some (.ref a), l1, l2, l3] st N I L P = sm_at C X 216 630 [some (.ref a), l1, l2, l3] (.ref a :: st) N I L P := st_go b216 dL_law_629 (by decide) rfl
theorem s216_630 : sm_at C X 216 630 [l0, l1, l2, some (.int x0)] st N I L P = sm_at C X 216 631 [l0, l1, l2, some (.int x0)] (.int x0 :: st) N I L P := st_go b216 dL_law_630 (by decide) rfl
theorem s216_631 : sm_at C X 216 631 ls st N I L P = sm_at C X 216 632 ls (.int (nI 1) :: st) N I L P := st_go b216 dL_law_631 (by decide) rfl
theorem s216_632 : sm_at C X 216 632 ls (.int x0 :: .int x1 :: st) N I L P = sm_at C X 216 633 ls (.int (x1 + x0) :: st) N I L P := st_go b216 dL_law_632 (by decide) rfl
theorem s216_633 (h : a < N) (h1 : k < sm_al a) : sm_at C X 216 633 ls (.int (nI k) :: .ref a :: st) N I L P = sm_at C X 216 634 ls (.int (I a k) :: st) N I L P := st_iald b216 dL_law_633 h h1
theorem s216_633x (h : N ≤ 1000) (h1 : k < n) (h2 : n < 1000) : sm_at C (some (n, f)) 216 633 ls (.int (nI k) :: .ref 1048578 :: st) N I L P = sm_at C (some (n, f)) 216 634 ls (.int (f k) :: st) N I L P := st_ialx b216 dL_law_633 h h1 h2
theorem s216_634 : sm_at C X 216 634 [some (.ref a), l1, l2, l3] st N I L P = sm_at C X 216 635 [some (.ref a), l1, l2, l3] (.ref a :: st) N I L P := st_go b216 dL_law_634 (by decide) rfl
theorem s216_635 : sm_at C X 216 635 [l0, l1, l2, some (.int x0)] st N I L P = sm_at C X 216 636 [l0, l1, l2, some (.int x0)] (.int x0 :: st) N I L P := st_go b216 dL_law_635 (by decide) rfl
theorem s216_636 : sm_at C X 216 636 ls st N I L P = sm_at C X 216 637 ls (.int (nI 2) :: st) N I L P := st_go b216 dL_law_636 (by decide) rfl
theorem s216_637 : sm_at C X 216 637 ls (.int x0 :: .int x1 :: st) N I L P = sm_at C X 216 638 ls (.int (x1 + x0) :: st) N I L P := st_go b216 dL_law_637 (by decide) rfl
theorem s216_638 (h : a < N) (h1 : k < sm_al a) : sm_at C X 216 638 ls (.int (nI k) :: .ref a :: st) N I L P = sm_at C X 216 639 ls (.int (I a k) :: st) N I L P := st_iald b216 dL_law_638 h h1
theorem s216_638x (h : N ≤ 1000) (h1 : k < n) (h2 : n < 1000) : sm_at C (some (n, f)) 216 638 ls (.int (nI k) :: .ref 1048578 :: st) N I L P = sm_at C (some (n, f)) 216 639 ls (.int (f k) :: st) N I L P := st_ialx b216 dL_law_638 h h1 h2
theorem s216_639 : sm_at C X 216 639 [some (.ref a), l1, l2, l3] st N I L P = sm_at C X 216 640 [some (.ref a), l1, l2, l3] (.ref a :: st) N I L P := st_go b216 dL_law_639 (by decide) rfl
theorem s216_640 : sm_at C X 216 640 [l0, l1, l2, some (.int x0)] st N I L P = sm_at C X 216 641 [l0, l1, l2, some (.int x0)] (.int x0 :: st) N I L P := st_go b216 dL_law_640 (by decide) rfl
theorem s216_641 : sm_at C X 216 641 ls st N I L P = sm_at C X 216 642 ls (.int (nI 3) :: st) N I L P := st_go b216 dL_law_641 (by decide) rfl
theorem s216_642 : sm_at C X 216 642 ls (.int x0 :: .int x1 :: st) N I L P = sm_at C X 216 643 ls (.int (x1 + x0) :: st) N I L P := st_go b216 dL_law_642 (by decide) rfl
theorem s216_643 (h : a < N) (h1 : k < sm_al a) : sm_at C X 216 643 ls (.int (nI k) :: .ref a :: st) N I L P = sm_at C X 216 644 ls (.int (I a k) :: st) N I L P := st_iald b216 dL_law_643 h h1
theorem s216_643x (h : N ≤ 1000) (h1 : k < n) (h2 : n < 1000) : sm_at C (some (n, f)) 216 643 ls (.int (nI k) :: .ref 1048578 :: st) N I L P = sm_at C (some (n, f)) 216 644 ls (.int (f k) :: st) N I L P := st_ialx b216 dL_law_643 h h1 h2
theorem s216_644 (h : a < N) (h1 : sm_lay a = .inl 10) : sm_at C X 216 644 ls [w3, w2, w1, .ref a] N I L P = sm_af C X 216 647 ls [] (C 109 [.ref a, w1, w2, w3] N I L P) := st_virt b216 dL_law_644 (n := 4) (rest := []) rfl rfl rfl rfl rfl rfl rfl h h1
theorem s216_647 : sm_at C X 216 647 [l0, l1, some (.ref a), l3] st N I L P = sm_at C X 216 648 [l0, l1, some (.ref a), l3] (.ref a :: st) N I L P := st_go b216 dL_law_647 (by decide) rfl
theorem s216_647n : sm_at C X 216 647 [l0, l1, some .null, l3] st N I L P = sm_at C X 216 648 [l0, l1, some .null, l3] (.null :: st) N I L P := st_go b216 dL_law_647 (by decide) rfl
theorem s216_648 : sm_at C X 216 648 [some (.ref a), l1, l2, l3] st N I L P = sm_at C X 216 649 [some (.ref a), l1, l2, l3] (.ref a :: st) N I L P := st_go b216 dL_law_648 (by decide) rfl
theorem s216_649 : sm_at C X 216 649 [l0, l1, l2, some (.int x0)] st N I L P = sm_at C X 216 650 [l0, l1, l2, some (.int x0)] (.int x0 :: st) N I L P := st_go b216 dL_law_649 (by decide) rfl
theorem s216_650 : sm_at C X 216 650 ls st N I L P = sm_at C X 216 651 ls (.int (nI 1) :: st) N I L P := st_go b216 dL_law_650 (by decide) rfl
theorem s216_651 : sm_at C X 216 651 ls (.int x0 :: .int x1 :: st) N I L P = sm_at C X 216 652 ls (.int (x1 + x0) :: st) N I L P := st_go b216 dL_law_651 (by decide) rfl
theorem s216_652 (h : a < N) (h1 : k < sm_al a) : sm_at C X 216 652 ls (.int (nI k) :: .ref a :: st) N I L P = sm_at C X 216 653 ls (.int (I a k) :: st) N I L P := st_iald b216 dL_law_652 h h1
theorem s216_652x (h : N ≤ 1000) (h1 : k < n) (h2 : n < 1000) : sm_at C (some (n, f)) 216 652 ls (.int (nI k) :: .ref 1048578 :: st) N I L P = sm_at C (some (n, f)) 216 653 ls (.int (f k) :: st) N I L P := st_ialx b216 dL_law_652 h h1 h2
theorem s216_653 : sm_at C X 216 653 [some (.ref a), l1, l2, l3] st N I L P = sm_at C X 216 654 [some (.ref a), l1, l2, l3] (.ref a :: st) N I L P := st_go b216 dL_law_653 (by decide) rfl
theorem s216_654 : sm_at C X 216 654 [l0, l1, l2, some (.int x0)] st N I L P = sm_at C X 216 655 [l0, l1, l2, some (.int x0)] (.int x0 :: st) N I L P := st_go b216 dL_law_654 (by decide) rfl
theorem s216_655 : sm_at C X 216 655 ls st N I L P = sm_at C X 216 656 ls (.int (nI 2) :: st) N I L P := st_go b216 dL_law_655 (by decide) rfl
theorem s216_656 : sm_at C X 216 656 ls (.int x0 :: .int x1 :: st) N I L P = sm_at C X 216 657 ls (.int (x1 + x0) :: st) N I L P := st_go b216 dL_law_656 (by decide) rfl
theorem s216_657 (h : a < N) (h1 : k < sm_al a) : sm_at C X 216 657 ls (.int (nI k) :: .ref a :: st) N I L P = sm_at C X 216 658 ls (.int (I a k) :: st) N I L P := st_iald b216 dL_law_657 h h1
theorem s216_657x (h : N ≤ 1000) (h1 : k < n) (h2 : n < 1000) : sm_at C (some (n, f)) 216 657 ls (.int (nI k) :: .ref 1048578 :: st) N I L P = sm_at C (some (n, f)) 216 658 ls (.int (f k) :: st) N I L P := st_ialx b216 dL_law_657 h h1 h2
theorem s216_658 : sm_at C X 216 658 [some (.ref a), l1, l2, l3] st N I L P = sm_at C X 216 659 [some (.ref a), l1, l2, l3] (.ref a :: st) N I L P := st_go b216 dL_law_658 (by decide) rfl
theorem s216_659 : sm_at C X 216 659 [l0, l1, l2, some (.int x0)] st N I L P = sm_at C X 216 660 [l0, l1, l2, some (.int x0)] (.int x0 :: st) N I L P := st_go b216 dL_law_659 (by decide) rfl
theorem s216_660 : sm_at C X 216 660 ls st N I L P = sm_at C X 216 661 ls (.int (nI 3) :: st) N I L P := st_go b216 dL_law_660 (by decide) rfl
theorem s216_661 : sm_at C X 216 661 ls (.int x0 :: .int x1 :: st) N I L P = sm_at C X 216 662 ls (.int (x1 + x0) :: st) N I L P := st_go b216 dL_law_661 (by decide) rfl
theorem s216_662 (h : a < N) (h1 : k < sm_al a) : sm_at C X 216 662 ls (.int (nI k) :: .ref a :: st) N I L P = sm_at C X 216 663 ls (.int (I a k) :: st) N I L P := st_iald b216 dL_law_662 h h1
theorem s216_662x (h : N ≤ 1000) (h1 : k < n) (h2 : n < 1000) : sm_at C (some (n, f)) 216 662 ls (.int (nI k) :: .ref 1048578 :: st) N I L P = sm_at C (some (n, f)) 216 663 ls (.int (f k) :: st) N I L P := st_ialx b216 dL_law_662 h h1 h2
theorem s216_663 (h : a < N) (h1 : sm_lay a = .inl 11) : sm_at C X 216 663 ls [w3, w2, w1, .ref a, v0] N I L P = sm_af C X 216 666 ls [v0] (C 183 [.ref a, w1, w2, w3] N I L P) := st_virt b216 dL_law_663 (n := 4) (rest := [v0]) rfl rfl rfl rfl rfl rfl rfl h h1
theorem s216_666 : sm_at C X 216 666 ls (.int x0 :: .int x1 :: st) N I L P = if x1 = x0 then sm_at C X 216 1109 ls st N I L P else sm_at C X 216 669 ls st N I L P := st_br b216 dL_law_666 (by decide) rfl
theorem s216_669 : sm_at C X 216 669 ls st N I L P = sm_at C X 216 670 ls (.int (nI 0) :: st) N I L P := st_go b216 dL_law_669 (by decide) rfl
theorem s216_670 (h : x0 = 0 ∨ x0 = 1) : sm_at C X 216 670 ls [.int x0] N I L P = some (some (.int x0), N, I, L, P) := st_zret b216 dL_law_670 rfl h
theorem s216_671 : sm_at C X 216 671 [l0, some (.ref a), l2, l3] st N I L P = sm_at C X 216 672 [l0, some (.ref a), l2, l3] (.ref a :: st) N I L P := st_go b216 dL_law_671 (by decide) rfl
theorem s216_671n : sm_at C X 216 671 [l0, some .null, l2, l3] st N I L P = sm_at C X 216 672 [l0, some .null, l2, l3] (.null :: st) N I L P := st_go b216 dL_law_671 (by decide) rfl
theorem s216_672 : sm_at C X 216 672 [some (.ref a), l1, l2, l3] st N I L P = sm_at C X 216 673 [some (.ref a), l1, l2, l3] (.ref a :: st) N I L P := st_go b216 dL_law_672 (by decide) rfl
theorem s216_673 : sm_at C X 216 673 [l0, l1, l2, some (.int x0)] st N I L P = sm_at C X 216 674 [l0, l1, l2, some (.int x0)] (.int x0 :: st) N I L P := st_go b216 dL_law_673 (by decide) rfl
theorem s216_674 : sm_at C X 216 674 ls st N I L P = sm_at C X 216 675 ls (.int (nI 1) :: st) N I L P := st_go b216 dL_law_674 (by decide) rfl
theorem s216_675 : sm_at C X 216 675 ls (.int x0 :: .int x1 :: st) N I L P = sm_at C X 216 676 ls (.int (x1 + x0) :: st) N I L P := st_go b216 dL_law_675 (by decide) rfl
theorem s216_676 (h : a < N) (h1 : k < sm_al a) : sm_at C X 216 676 ls (.int (nI k) :: .ref a :: st) N I L P = sm_at C X 216 677 ls (.int (I a k) :: st) N I L P := st_iald b216 dL_law_676 h h1
theorem s216_676x (h : N ≤ 1000) (h1 : k < n) (h2 : n < 1000) : sm_at C (some (n, f)) 216 676 ls (.int (nI k) :: .ref 1048578 :: st) N I L P = sm_at C (some (n, f)) 216 677 ls (.int (f k) :: st) N I L P := st_ialx b216 dL_law_676 h h1 h2
theorem s216_677 : sm_at C X 216 677 [some (.ref a), l1, l2, l3] st N I L P = sm_at C X 216 678 [some (.ref a), l1, l2, l3] (.ref a :: st) N I L P := st_go b216 dL_law_677 (by decide) rfl
theorem s216_678 : sm_at C X 216 678 [l0, l1, l2, some (.int x0)] st N I L P = sm_at C X 216 679 [l0, l1, l2, some (.int x0)] (.int x0 :: st) N I L P := st_go b216 dL_law_678 (by decide) rfl
theorem s216_679 : sm_at C X 216 679 ls st N I L P = sm_at C X 216 680 ls (.int (nI 2) :: st) N I L P := st_go b216 dL_law_679 (by decide) rfl
theorem s216_680 : sm_at C X 216 680 ls (.int x0 :: .int x1 :: st) N I L P = sm_at C X 216 681 ls (.int (x1 + x0) :: st) N I L P := st_go b216 dL_law_680 (by decide) rfl
theorem s216_681 (h : a < N) (h1 : k < sm_al a) : sm_at C X 216 681 ls (.int (nI k) :: .ref a :: st) N I L P = sm_at C X 216 682 ls (.int (I a k) :: st) N I L P := st_iald b216 dL_law_681 h h1
theorem s216_681x (h : N ≤ 1000) (h1 : k < n) (h2 : n < 1000) : sm_at C (some (n, f)) 216 681 ls (.int (nI k) :: .ref 1048578 :: st) N I L P = sm_at C (some (n, f)) 216 682 ls (.int (f k) :: st) N I L P := st_ialx b216 dL_law_681 h h1 h2
theorem s216_682 (h : a < N) (h1 : sm_lay a = .inl 10) : sm_at C X 216 682 ls [w2, w1, .ref a] N I L P = sm_af C X 216 685 ls [] (C 110 [.ref a, w1, w2] N I L P) := st_virt b216 dL_law_682 (n := 3) (rest := []) rfl rfl rfl rfl rfl rfl rfl h h1
theorem s216_685 : sm_at C X 216 685 [l0, l1, some (.ref a), l3] st N I L P = sm_at C X 216 686 [l0, l1, some (.ref a), l3] (.ref a :: st) N I L P := st_go b216 dL_law_685 (by decide) rfl
theorem s216_685n : sm_at C X 216 685 [l0, l1, some .null, l3] st N I L P = sm_at C X 216 686 [l0, l1, some .null, l3] (.null :: st) N I L P := st_go b216 dL_law_685 (by decide) rfl
theorem s216_686 : sm_at C X 216 686 [some (.ref a), l1, l2, l3] st N I L P = sm_at C X 216 687 [some (.ref a), l1, l2, l3] (.ref a :: st) N I L P := st_go b216 dL_law_686 (by decide) rfl
theorem s216_687 : sm_at C X 216 687 [l0, l1, l2, some (.int x0)] st N I L P = sm_at C X 216 688 [l0, l1, l2, some (.int x0)] (.int x0 :: st) N I L P := st_go b216 dL_law_687 (by decide) rfl
theorem s216_688 : sm_at C X 216 688 ls st N I L P = sm_at C X 216 689 ls (.int (nI 1) :: st) N I L P := st_go b216 dL_law_688 (by decide) rfl
theorem s216_689 : sm_at C X 216 689 ls (.int x0 :: .int x1 :: st) N I L P = sm_at C X 216 690 ls (.int (x1 + x0) :: st) N I L P := st_go b216 dL_law_689 (by decide) rfl
theorem s216_690 (h : a < N) (h1 : k < sm_al a) : sm_at C X 216 690 ls (.int (nI k) :: .ref a :: st) N I L P = sm_at C X 216 691 ls (.int (I a k) :: st) N I L P := st_iald b216 dL_law_690 h h1
theorem s216_690x (h : N ≤ 1000) (h1 : k < n) (h2 : n < 1000) : sm_at C (some (n, f)) 216 690 ls (.int (nI k) :: .ref 1048578 :: st) N I L P = sm_at C (some (n, f)) 216 691 ls (.int (f k) :: st) N I L P := st_ialx b216 dL_law_690 h h1 h2
theorem s216_691 : sm_at C X 216 691 [some (.ref a), l1, l2, l3] st N I L P = sm_at C X 216 692 [some (.ref a), l1, l2, l3] (.ref a :: st) N I L P := st_go b216 dL_law_691 (by decide) rfl
theorem s216_692 : sm_at C X 216 692 [l0, l1, l2, some (.int x0)] st N I L P = sm_at C X 216 693 [l0, l1, l2, some (.int x0)] (.int x0 :: st) N I L P := st_go b216 dL_law_692 (by decide) rfl
theorem s216_693 : sm_at C X 216 693 ls st N I L P = sm_at C X 216 694 ls (.int (nI 2) :: st) N I L P := st_go b216 dL_law_693 (by decide) rfl
theorem s216_694 : sm_at C X 216 694 ls (.int x0 :: .int x1 :: st) N I L P = sm_at C X 216 695 ls (.int (x1 + x0) :: st) N I L P := st_go b216 dL_law_694 (by decide) rfl
theorem s216_695 (h : a < N) (h1 : k < sm_al a) : sm_at C X 216 695 ls (.int (nI k) :: .ref a :: st) N I L P = sm_at C X 216 696 ls (.int (I a k) :: st) N I L P := st_iald b216 dL_law_695 h h1
theorem s216_695x (h : N ≤ 1000) (h1 : k < n) (h2 : n < 1000) : sm_at C (some (n, f)) 216 695 ls (.int (nI k) :: .ref 1048578 :: st) N I L P = sm_at C (some (n, f)) 216 696 ls (.int (f k) :: st) N I L P := st_ialx b216 dL_law_695 h h1 h2
theorem s216_696 (h : a < N) (h1 : sm_lay a = .inl 11) : sm_at C X 216 696 ls [w2, w1, .ref a, v0] N I L P = sm_af C X 216 699 ls [v0] (C 186 [.ref a, w1, w2] N I L P) := st_virt b216 dL_law_696 (n := 3) (rest := [v0]) rfl rfl rfl rfl rfl rfl rfl h h1
theorem s216_699 : sm_at C X 216 699 ls (.int x0 :: .int x1 :: st) N I L P = if x1 = x0 then sm_at C X 216 1109 ls st N I L P else sm_at C X 216 702 ls st N I L P := st_br b216 dL_law_699 (by decide) rfl
theorem s216_702 : sm_at C X 216 702 ls st N I L P = sm_at C X 216 703 ls (.int (nI 0) :: st) N I L P := st_go b216 dL_law_702 (by decide) rfl
theorem s216_703 (h : x0 = 0 ∨ x0 = 1) : sm_at C X 216 703 ls [.int x0] N I L P = some (some (.int x0), N, I, L, P) := st_zret b216 dL_law_703 rfl h
theorem s216_704 : sm_at C X 216 704 [l0, some (.ref a), l2, l3] st N I L P = sm_at C X 216 705 [l0, some (.ref a), l2, l3] (.ref a :: st) N I L P := st_go b216 dL_law_704 (by decide) rfl
theorem s216_704n : sm_at C X 216 704 [l0, some .null, l2, l3] st N I L P = sm_at C X 216 705 [l0, some .null, l2, l3] (.null :: st) N I L P := st_go b216 dL_law_704 (by decide) rfl
theorem s216_705 : sm_at C X 216 705 [some (.ref a), l1, l2, l3] st N I L P = sm_at C X 216 706 [some (.ref a), l1, l2, l3] (.ref a :: st) N I L P := st_go b216 dL_law_705 (by decide) rfl
theorem s216_706 : sm_at C X 216 706 [l0, l1, l2, some (.int x0)] st N I L P = sm_at C X 216 707 [l0, l1, l2, some (.int x0)] (.int x0 :: st) N I L P := st_go b216 dL_law_706 (by decide) rfl
theorem s216_707 : sm_at C X 216 707 ls st N I L P = sm_at C X 216 708 ls (.int (nI 1) :: st) N I L P := st_go b216 dL_law_707 (by decide) rfl
theorem s216_708 : sm_at C X 216 708 ls (.int x0 :: .int x1 :: st) N I L P = sm_at C X 216 709 ls (.int (x1 + x0) :: st) N I L P := st_go b216 dL_law_708 (by decide) rfl
theorem s216_709 (h : a < N) (h1 : k < sm_al a) : sm_at C X 216 709 ls (.int (nI k) :: .ref a :: st) N I L P = sm_at C X 216 710 ls (.int (I a k) :: st) N I L P := st_iald b216 dL_law_709 h h1
theorem s216_709x (h : N ≤ 1000) (h1 : k < n) (h2 : n < 1000) : sm_at C (some (n, f)) 216 709 ls (.int (nI k) :: .ref 1048578 :: st) N I L P = sm_at C (some (n, f)) 216 710 ls (.int (f k) :: st) N I L P := st_ialx b216 dL_law_709 h h1 h2
theorem s216_710 : sm_at C X 216 710 [some (.ref a), l1, l2, l3] st N I L P = sm_at C X 216 711 [some (.ref a), l1, l2, l3] (.ref a :: st) N I L P := st_go b216 dL_law_710 (by decide) rfl
theorem s216_711 : sm_at C X 216 711 [l0, l1, l2, some (.int x0)] st N I L P = sm_at C X 216 712 [l0, l1, l2, some (.int x0)] (.int x0 :: st) N I L P := st_go b216 dL_law_711 (by decide) rfl
theorem s216_712 : sm_at C X 216 712 ls st N I L P = sm_at C X 216 713 ls (.int (nI 2) :: st) N I L P := st_go b216 dL_law_712 (by decide) rfl
theorem s216_713 : sm_at C X 216 713 ls (.int x0 :: .int x1 :: st) N I L P = sm_at C X 216 714 ls (.int (x1 + x0) :: st) N I L P := st_go b216 dL_law_713 (by decide) rfl
theorem s216_714 (h : a < N) (h1 : k < sm_al a) : sm_at C X 216 714 ls (.int (nI k) :: .ref a :: st) N I L P = sm_at C X 216 715 ls (.int (I a k) :: st) N I L P := st_iald b216 dL_law_714 h h1
theorem s216_714x (h : N ≤ 1000) (h1 : k < n) (h2 : n < 1000) : sm_at C (some (n, f)) 216 714 ls (.int (nI k) :: .ref 1048578 :: st) N I L P = sm_at C (some (n, f)) 216 715 ls (.int (f k) :: st) N I L P := st_ialx b216 dL_law_714 h h1 h2
theorem s216_715 : sm_at C X 216 715 [some (.ref a), l1, l2, l3] st N I L P = sm_at C X 216 716 [some (.ref a), l1, l2, l3] (.ref a :: st) N I L P := st_go b216 dL_law_715 (by decide) rfl
theorem s216_716 : sm_at C X 216 716 [l0, l1, l2, some (.int x0)] st N I L P = sm_at C X 216 717 [l0, l1, l2, some (.int x0)] (.int x0 :: st) N I L P := st_go b216 dL_law_716 (by decide) rfl
theorem s216_717 : sm_at C X 216 717 ls st N I L P = sm_at C X 216 718 ls (.int (nI 3) :: st) N I L P := st_go b216 dL_law_717 (by decide) rfl
theorem s216_718 : sm_at C X 216 718 ls (.int x0 :: .int x1 :: st) N I L P = sm_at C X 216 719 ls (.int (x1 + x0) :: st) N I L P := st_go b216 dL_law_718 (by decide) rfl
theorem s216_719 (h : a < N) (h1 : k < sm_al a) : sm_at C X 216 719 ls (.int (nI k) :: .ref a :: st) N I L P = sm_at C X 216 720 ls (.int (I a k) :: st) N I L P := st_iald b216 dL_law_719 h h1
theorem s216_719x (h : N ≤ 1000) (h1 : k < n) (h2 : n < 1000) : sm_at C (some (n, f)) 216 719 ls (.int (nI k) :: .ref 1048578 :: st) N I L P = sm_at C (some (n, f)) 216 720 ls (.int (f k) :: st) N I L P := st_ialx b216 dL_law_719 h h1 h2
theorem s216_720 (h : a < N) (h1 : sm_lay a = .inl 10) : sm_at C X 216 720 ls [w3, w2, w1, .ref a] N I L P = sm_af C X 216 723 ls [] (C 111 [.ref a, w1, w2, w3] N I L P) := st_virt b216 dL_law_720 (n := 4) (rest := []) rfl rfl rfl rfl rfl rfl rfl h h1
theorem s216_723 : sm_at C X 216 723 [l0, l1, some (.ref a), l3] st N I L P = sm_at C X 216 724 [l0, l1, some (.ref a), l3] (.ref a :: st) N I L P := st_go b216 dL_law_723 (by decide) rfl
theorem s216_723n : sm_at C X 216 723 [l0, l1, some .null, l3] st N I L P = sm_at C X 216 724 [l0, l1, some .null, l3] (.null :: st) N I L P := st_go b216 dL_law_723 (by decide) rfl
theorem s216_724 : sm_at C X 216 724 [some (.ref a), l1, l2, l3] st N I L P = sm_at C X 216 725 [some (.ref a), l1, l2, l3] (.ref a :: st) N I L P := st_go b216 dL_law_724 (by decide) rfl
theorem s216_725 : sm_at C X 216 725 [l0, l1, l2, some (.int x0)] st N I L P = sm_at C X 216 726 [l0, l1, l2, some (.int x0)] (.int x0 :: st) N I L P := st_go b216 dL_law_725 (by decide) rfl
theorem s216_726 : sm_at C X 216 726 ls st N I L P = sm_at C X 216 727 ls (.int (nI 1) :: st) N I L P := st_go b216 dL_law_726 (by decide) rfl
theorem s216_727 : sm_at C X 216 727 ls (.int x0 :: .int x1 :: st) N I L P = sm_at C X 216 728 ls (.int (x1 + x0) :: st) N I L P := st_go b216 dL_law_727 (by decide) rfl
theorem s216_728 (h : a < N) (h1 : k < sm_al a) : sm_at C X 216 728 ls (.int (nI k) :: .ref a :: st) N I L P = sm_at C X 216 729 ls (.int (I a k) :: st) N I L P := st_iald b216 dL_law_728 h h1
theorem s216_728x (h : N ≤ 1000) (h1 : k < n) (h2 : n < 1000) : sm_at C (some (n, f)) 216 728 ls (.int (nI k) :: .ref 1048578 :: st) N I L P = sm_at C (some (n, f)) 216 729 ls (.int (f k) :: st) N I L P := st_ialx b216 dL_law_728 h h1 h2
theorem s216_729 : sm_at C X 216 729 [some (.ref a), l1, l2, l3] st N I L P = sm_at C X 216 730 [some (.ref a), l1, l2, l3] (.ref a :: st) N I L P := st_go b216 dL_law_729 (by decide) rfl
theorem s216_730 : sm_at C X 216 730 [l0, l1, l2, some (.int x0)] st N I L P = sm_at C X 216 731 [l0, l1, l2, some (.int x0)] (.int x0 :: st) N I L P := st_go b216 dL_law_730 (by decide) rfl
theorem s216_731 : sm_at C X 216 731 ls st N I L P = sm_at C X 216 732 ls (.int (nI 2) :: st) N I L P := st_go b216 dL_law_731 (by decide) rfl
theorem s216_732 : sm_at C X 216 732 ls (.int x0 :: .int x1 :: st) N I L P = sm_at C X 216 733 ls (.int (x1 + x0) :: st) N I L P := st_go b216 dL_law_732 (by decide) rfl
theorem s216_733 (h : a < N) (h1 : k < sm_al a) : sm_at C X 216 733 ls (.int (nI k) :: .ref a :: st) N I L P = sm_at C X 216 734 ls (.int (I a k) :: st) N I L P := st_iald b216 dL_law_733 h h1
theorem s216_733x (h : N ≤ 1000) (h1 : k < n) (h2 : n < 1000) : sm_at C (some (n, f)) 216 733 ls (.int (nI k) :: .ref 1048578 :: st) N I L P = sm_at C (some (n, f)) 216 734 ls (.int (f k) :: st) N I L P := st_ialx b216 dL_law_733 h h1 h2
theorem s216_734 : sm_at C X 216 734 [some (.ref a), l1, l2, l3] st N I L P = sm_at C X 216 735 [some (.ref a), l1, l2, l3] (.ref a :: st) N I L P := st_go b216 dL_law_734 (by decide) rfl
theorem s216_735 : sm_at C X 216 735 [l0, l1, l2, some (.int x0)] st N I L P = sm_at C X 216 736 [l0, l1, l2, some (.int x0)] (.int x0 :: st) N I L P := st_go b216 dL_law_735 (by decide) rfl
theorem s216_736 : sm_at C X 216 736 ls st N I L P = sm_at C X 216 737 ls (.int (nI 3) :: st) N I L P := st_go b216 dL_law_736 (by decide) rfl
theorem s216_737 : sm_at C X 216 737 ls (.int x0 :: .int x1 :: st) N I L P = sm_at C X 216 738 ls (.int (x1 + x0) :: st) N I L P := st_go b216 dL_law_737 (by decide) rfl
theorem s216_738 (h : a < N) (h1 : k < sm_al a) : sm_at C X 216 738 ls (.int (nI k) :: .ref a :: st) N I L P = sm_at C X 216 739 ls (.int (I a k) :: st) N I L P := st_iald b216 dL_law_738 h h1
theorem s216_738x (h : N ≤ 1000) (h1 : k < n) (h2 : n < 1000) : sm_at C (some (n, f)) 216 738 ls (.int (nI k) :: .ref 1048578 :: st) N I L P = sm_at C (some (n, f)) 216 739 ls (.int (f k) :: st) N I L P := st_ialx b216 dL_law_738 h h1 h2
theorem s216_739 (h : a < N) (h1 : sm_lay a = .inl 11) : sm_at C X 216 739 ls [w3, w2, w1, .ref a, v0] N I L P = sm_af C X 216 742 ls [v0] (C 190 [.ref a, w1, w2, w3] N I L P) := st_virt b216 dL_law_739 (n := 4) (rest := [v0]) rfl rfl rfl rfl rfl rfl rfl h h1
theorem s216_742 : sm_at C X 216 742 ls (.int x0 :: .int x1 :: st) N I L P = if x1 = x0 then sm_at C X 216 1109 ls st N I L P else sm_at C X 216 745 ls st N I L P := st_br b216 dL_law_742 (by decide) rfl
theorem s216_745 : sm_at C X 216 745 ls st N I L P = sm_at C X 216 746 ls (.int (nI 0) :: st) N I L P := st_go b216 dL_law_745 (by decide) rfl
theorem s216_746 (h : x0 = 0 ∨ x0 = 1) : sm_at C X 216 746 ls [.int x0] N I L P = some (some (.int x0), N, I, L, P) := st_zret b216 dL_law_746 rfl h
theorem s216_747 : sm_at C X 216 747 [l0, some (.ref a), l2, l3] st N I L P = sm_at C X 216 748 [l0, some (.ref a), l2, l3] (.ref a :: st) N I L P := st_go b216 dL_law_747 (by decide) rfl
theorem s216_747n : sm_at C X 216 747 [l0, some .null, l2, l3] st N I L P = sm_at C X 216 748 [l0, some .null, l2, l3] (.null :: st) N I L P := st_go b216 dL_law_747 (by decide) rfl
theorem s216_748 : sm_at C X 216 748 [some (.ref a), l1, l2, l3] st N I L P = sm_at C X 216 749 [some (.ref a), l1, l2, l3] (.ref a :: st) N I L P := st_go b216 dL_law_748 (by decide) rfl
theorem s216_749 : sm_at C X 216 749 [l0, l1, l2, some (.int x0)] st N I L P = sm_at C X 216 750 [l0, l1, l2, some (.int x0)] (.int x0 :: st) N I L P := st_go b216 dL_law_749 (by decide) rfl
theorem s216_750 : sm_at C X 216 750 ls st N I L P = sm_at C X 216 751 ls (.int (nI 1) :: st) N I L P := st_go b216 dL_law_750 (by decide) rfl
theorem s216_751 : sm_at C X 216 751 ls (.int x0 :: .int x1 :: st) N I L P = sm_at C X 216 752 ls (.int (x1 + x0) :: st) N I L P := st_go b216 dL_law_751 (by decide) rfl
theorem s216_752 (h : a < N) (h1 : k < sm_al a) : sm_at C X 216 752 ls (.int (nI k) :: .ref a :: st) N I L P = sm_at C X 216 753 ls (.int (I a k) :: st) N I L P := st_iald b216 dL_law_752 h h1
theorem s216_752x (h : N ≤ 1000) (h1 : k < n) (h2 : n < 1000) : sm_at C (some (n, f)) 216 752 ls (.int (nI k) :: .ref 1048578 :: st) N I L P = sm_at C (some (n, f)) 216 753 ls (.int (f k) :: st) N I L P := st_ialx b216 dL_law_752 h h1 h2
theorem s216_753 : sm_at C X 216 753 [some (.ref a), l1, l2, l3] st N I L P = sm_at C X 216 754 [some (.ref a), l1, l2, l3] (.ref a :: st) N I L P := st_go b216 dL_law_753 (by decide) rfl
theorem s216_754 : sm_at C X 216 754 [l0, l1, l2, some (.int x0)] st N I L P = sm_at C X 216 755 [l0, l1, l2, some (.int x0)] (.int x0 :: st) N I L P := st_go b216 dL_law_754 (by decide) rfl
theorem s216_755 : sm_at C X 216 755 ls st N I L P = sm_at C X 216 756 ls (.int (nI 2) :: st) N I L P := st_go b216 dL_law_755 (by decide) rfl
theorem s216_756 : sm_at C X 216 756 ls (.int x0 :: .int x1 :: st) N I L P = sm_at C X 216 757 ls (.int (x1 + x0) :: st) N I L P := st_go b216 dL_law_756 (by decide) rfl
theorem s216_757 (h : a < N) (h1 : k < sm_al a) : sm_at C X 216 757 ls (.int (nI k) :: .ref a :: st) N I L P = sm_at C X 216 758 ls (.int (I a k) :: st) N I L P := st_iald b216 dL_law_757 h h1
theorem s216_757x (h : N ≤ 1000) (h1 : k < n) (h2 : n < 1000) : sm_at C (some (n, f)) 216 757 ls (.int (nI k) :: .ref 1048578 :: st) N I L P = sm_at C (some (n, f)) 216 758 ls (.int (f k) :: st) N I L P := st_ialx b216 dL_law_757 h h1 h2
theorem s216_758 : sm_at C X 216 758 [some (.ref a), l1, l2, l3] st N I L P = sm_at C X 216 759 [some (.ref a), l1, l2, l3] (.ref a :: st) N I L P := st_go b216 dL_law_758 (by decide) rfl
theorem s216_759 : sm_at C X 216 759 [l0, l1, l2, some (.int x0)] st N I L P = sm_at C X 216 760 [l0, l1, l2, some (.int x0)] (.int x0 :: st) N I L P := st_go b216 dL_law_759 (by decide) rfl
theorem s216_760 : sm_at C X 216 760 ls st N I L P = sm_at C X 216 761 ls (.int (nI 3) :: st) N I L P := st_go b216 dL_law_760 (by decide) rfl
theorem s216_761 : sm_at C X 216 761 ls (.int x0 :: .int x1 :: st) N I L P = sm_at C X 216 762 ls (.int (x1 + x0) :: st) N I L P := st_go b216 dL_law_761 (by decide) rfl
theorem s216_762 (h : a < N) (h1 : k < sm_al a) : sm_at C X 216 762 ls (.int (nI k) :: .ref a :: st) N I L P = sm_at C X 216 763 ls (.int (I a k) :: st) N I L P := st_iald b216 dL_law_762 h h1
theorem s216_762x (h : N ≤ 1000) (h1 : k < n) (h2 : n < 1000) : sm_at C (some (n, f)) 216 762 ls (.int (nI k) :: .ref 1048578 :: st) N I L P = sm_at C (some (n, f)) 216 763 ls (.int (f k) :: st) N I L P := st_ialx b216 dL_law_762 h h1 h2
theorem s216_763 (h : a < N) (h1 : sm_lay a = .inl 10) : sm_at C X 216 763 ls [w3, w2, w1, .ref a] N I L P = sm_af C X 216 766 ls [] (C 112 [.ref a, w1, w2, w3] N I L P) := st_virt b216 dL_law_763 (n := 4) (rest := []) rfl rfl rfl rfl rfl rfl rfl h h1
theorem s216_766 : sm_at C X 216 766 [l0, l1, some (.ref a), l3] st N I L P = sm_at C X 216 767 [l0, l1, some (.ref a), l3] (.ref a :: st) N I L P := st_go b216 dL_law_766 (by decide) rfl
theorem s216_766n : sm_at C X 216 766 [l0, l1, some .null, l3] st N I L P = sm_at C X 216 767 [l0, l1, some .null, l3] (.null :: st) N I L P := st_go b216 dL_law_766 (by decide) rfl
theorem s216_767 : sm_at C X 216 767 [some (.ref a), l1, l2, l3] st N I L P = sm_at C X 216 768 [some (.ref a), l1, l2, l3] (.ref a :: st) N I L P := st_go b216 dL_law_767 (by decide) rfl
theorem s216_768 : sm_at C X 216 768 [l0, l1, l2, some (.int x0)] st N I L P = sm_at C X 216 769 [l0, l1, l2, some (.int x0)] (.int x0 :: st) N I L P := st_go b216 dL_law_768 (by decide) rfl
theorem s216_769 : sm_at C X 216 769 ls st N I L P = sm_at C X 216 770 ls (.int (nI 1) :: st) N I L P := st_go b216 dL_law_769 (by decide) rfl
theorem s216_770 : sm_at C X 216 770 ls (.int x0 :: .int x1 :: st) N I L P = sm_at C X 216 771 ls (.int (x1 + x0) :: st) N I L P := st_go b216 dL_law_770 (by decide) rfl
theorem s216_771 (h : a < N) (h1 : k < sm_al a) : sm_at C X 216 771 ls (.int (nI k) :: .ref a :: st) N I L P = sm_at C X 216 772 ls (.int (I a k) :: st) N I L P := st_iald b216 dL_law_771 h h1
theorem s216_771x (h : N ≤ 1000) (h1 : k < n) (h2 : n < 1000) : sm_at C (some (n, f)) 216 771 ls (.int (nI k) :: .ref 1048578 :: st) N I L P = sm_at C (some (n, f)) 216 772 ls (.int (f k) :: st) N I L P := st_ialx b216 dL_law_771 h h1 h2
theorem s216_772 : sm_at C X 216 772 [some (.ref a), l1, l2, l3] st N I L P = sm_at C X 216 773 [some (.ref a), l1, l2, l3] (.ref a :: st) N I L P := st_go b216 dL_law_772 (by decide) rfl
theorem s216_773 : sm_at C X 216 773 [l0, l1, l2, some (.int x0)] st N I L P = sm_at C X 216 774 [l0, l1, l2, some (.int x0)] (.int x0 :: st) N I L P := st_go b216 dL_law_773 (by decide) rfl
theorem s216_774 : sm_at C X 216 774 ls st N I L P = sm_at C X 216 775 ls (.int (nI 2) :: st) N I L P := st_go b216 dL_law_774 (by decide) rfl
theorem s216_775 : sm_at C X 216 775 ls (.int x0 :: .int x1 :: st) N I L P = sm_at C X 216 776 ls (.int (x1 + x0) :: st) N I L P := st_go b216 dL_law_775 (by decide) rfl
theorem s216_776 (h : a < N) (h1 : k < sm_al a) : sm_at C X 216 776 ls (.int (nI k) :: .ref a :: st) N I L P = sm_at C X 216 777 ls (.int (I a k) :: st) N I L P := st_iald b216 dL_law_776 h h1
theorem s216_776x (h : N ≤ 1000) (h1 : k < n) (h2 : n < 1000) : sm_at C (some (n, f)) 216 776 ls (.int (nI k) :: .ref 1048578 :: st) N I L P = sm_at C (some (n, f)) 216 777 ls (.int (f k) :: st) N I L P := st_ialx b216 dL_law_776 h h1 h2
theorem s216_777 : sm_at C X 216 777 [some (.ref a), l1, l2, l3] st N I L P = sm_at C X 216 778 [some (.ref a), l1, l2, l3] (.ref a :: st) N I L P := st_go b216 dL_law_777 (by decide) rfl
theorem s216_778 : sm_at C X 216 778 [l0, l1, l2, some (.int x0)] st N I L P = sm_at C X 216 779 [l0, l1, l2, some (.int x0)] (.int x0 :: st) N I L P := st_go b216 dL_law_778 (by decide) rfl
theorem s216_779 : sm_at C X 216 779 ls st N I L P = sm_at C X 216 780 ls (.int (nI 3) :: st) N I L P := st_go b216 dL_law_779 (by decide) rfl
theorem s216_780 : sm_at C X 216 780 ls (.int x0 :: .int x1 :: st) N I L P = sm_at C X 216 781 ls (.int (x1 + x0) :: st) N I L P := st_go b216 dL_law_780 (by decide) rfl
theorem s216_781 (h : a < N) (h1 : k < sm_al a) : sm_at C X 216 781 ls (.int (nI k) :: .ref a :: st) N I L P = sm_at C X 216 782 ls (.int (I a k) :: st) N I L P := st_iald b216 dL_law_781 h h1
theorem s216_781x (h : N ≤ 1000) (h1 : k < n) (h2 : n < 1000) : sm_at C (some (n, f)) 216 781 ls (.int (nI k) :: .ref 1048578 :: st) N I L P = sm_at C (some (n, f)) 216 782 ls (.int (f k) :: st) N I L P := st_ialx b216 dL_law_781 h h1 h2
theorem s216_782 (h : a < N) (h1 : sm_lay a = .inl 11) : sm_at C X 216 782 ls [w3, w2, w1, .ref a, v0] N I L P = sm_af C X 216 785 ls [v0] (C 191 [.ref a, w1, w2, w3] N I L P) := st_virt b216 dL_law_782 (n := 4) (rest := [v0]) rfl rfl rfl rfl rfl rfl rfl h h1
theorem s216_785 : sm_at C X 216 785 ls (.int x0 :: .int x1 :: st) N I L P = if x1 = x0 then sm_at C X 216 1109 ls st N I L P else sm_at C X 216 788 ls st N I L P := st_br b216 dL_law_785 (by decide) rfl
theorem s216_788 : sm_at C X 216 788 ls st N I L P = sm_at C X 216 789 ls (.int (nI 0) :: st) N I L P := st_go b216 dL_law_788 (by decide) rfl
theorem s216_789 (h : x0 = 0 ∨ x0 = 1) : sm_at C X 216 789 ls [.int x0] N I L P = some (some (.int x0), N, I, L, P) := st_zret b216 dL_law_789 rfl h
theorem s216_790 : sm_at C X 216 790 [l0, some (.ref a), l2, l3] st N I L P = sm_at C X 216 791 [l0, some (.ref a), l2, l3] (.ref a :: st) N I L P := st_go b216 dL_law_790 (by decide) rfl
theorem s216_790n : sm_at C X 216 790 [l0, some .null, l2, l3] st N I L P = sm_at C X 216 791 [l0, some .null, l2, l3] (.null :: st) N I L P := st_go b216 dL_law_790 (by decide) rfl
theorem s216_791 : sm_at C X 216 791 [some (.ref a), l1, l2, l3] st N I L P = sm_at C X 216 792 [some (.ref a), l1, l2, l3] (.ref a :: st) N I L P := st_go b216 dL_law_791 (by decide) rfl
theorem s216_792 : sm_at C X 216 792 [l0, l1, l2, some (.int x0)] st N I L P = sm_at C X 216 793 [l0, l1, l2, some (.int x0)] (.int x0 :: st) N I L P := st_go b216 dL_law_792 (by decide) rfl
theorem s216_793 : sm_at C X 216 793 ls st N I L P = sm_at C X 216 794 ls (.int (nI 1) :: st) N I L P := st_go b216 dL_law_793 (by decide) rfl
theorem s216_794 : sm_at C X 216 794 ls (.int x0 :: .int x1 :: st) N I L P = sm_at C X 216 795 ls (.int (x1 + x0) :: st) N I L P := st_go b216 dL_law_794 (by decide) rfl
theorem s216_795 (h : a < N) (h1 : k < sm_al a) : sm_at C X 216 795 ls (.int (nI k) :: .ref a :: st) N I L P = sm_at C X 216 796 ls (.int (I a k) :: st) N I L P := st_iald b216 dL_law_795 h h1
theorem s216_795x (h : N ≤ 1000) (h1 : k < n) (h2 : n < 1000) : sm_at C (some (n, f)) 216 795 ls (.int (nI k) :: .ref 1048578 :: st) N I L P = sm_at C (some (n, f)) 216 796 ls (.int (f k) :: st) N I L P := st_ialx b216 dL_law_795 h h1 h2
theorem s216_796 : sm_at C X 216 796 [some (.ref a), l1, l2, l3] st N I L P = sm_at C X 216 797 [some (.ref a), l1, l2, l3] (.ref a :: st) N I L P := st_go b216 dL_law_796 (by decide) rfl
theorem s216_797 : sm_at C X 216 797 [l0, l1, l2, some (.int x0)] st N I L P = sm_at C X 216 798 [l0, l1, l2, some (.int x0)] (.int x0 :: st) N I L P := st_go b216 dL_law_797 (by decide) rfl
theorem s216_798 : sm_at C X 216 798 ls st N I L P = sm_at C X 216 799 ls (.int (nI 2) :: st) N I L P := st_go b216 dL_law_798 (by decide) rfl
theorem s216_799 : sm_at C X 216 799 ls (.int x0 :: .int x1 :: st) N I L P = sm_at C X 216 800 ls (.int (x1 + x0) :: st) N I L P := st_go b216 dL_law_799 (by decide) rfl
theorem s216_800 (h : a < N) (h1 : k < sm_al a) : sm_at C X 216 800 ls (.int (nI k) :: .ref a :: st) N I L P = sm_at C X 216 801 ls (.int (I a k) :: st) N I L P := st_iald b216 dL_law_800 h h1
theorem s216_800x (h : N ≤ 1000) (h1 : k < n) (h2 : n < 1000) : sm_at C (some (n, f)) 216 800 ls (.int (nI k) :: .ref 1048578 :: st) N I L P = sm_at C (some (n, f)) 216 801 ls (.int (f k) :: st) N I L P := st_ialx b216 dL_law_800 h h1 h2
theorem s216_801 : sm_at C X 216 801 [some (.ref a), l1, l2, l3] st N I L P = sm_at C X 216 802 [some (.ref a), l1, l2, l3] (.ref a :: st) N I L P := st_go b216 dL_law_801 (by decide) rfl
theorem s216_802 : sm_at C X 216 802 [l0, l1, l2, some (.int x0)] st N I L P = sm_at C X 216 803 [l0, l1, l2, some (.int x0)] (.int x0 :: st) N I L P := st_go b216 dL_law_802 (by decide) rfl
theorem s216_803 : sm_at C X 216 803 ls st N I L P = sm_at C X 216 804 ls (.int (nI 3) :: st) N I L P := st_go b216 dL_law_803 (by decide) rfl
theorem s216_804 : sm_at C X 216 804 ls (.int x0 :: .int x1 :: st) N I L P = sm_at C X 216 805 ls (.int (x1 + x0) :: st) N I L P := st_go b216 dL_law_804 (by decide) rfl
theorem s216_805 (h : a < N) (h1 : k < sm_al a) : sm_at C X 216 805 ls (.int (nI k) :: .ref a :: st) N I L P = sm_at C X 216 806 ls (.int (I a k) :: st) N I L P := st_iald b216 dL_law_805 h h1
theorem s216_805x (h : N ≤ 1000) (h1 : k < n) (h2 : n < 1000) : sm_at C (some (n, f)) 216 805 ls (.int (nI k) :: .ref 1048578 :: st) N I L P = sm_at C (some (n, f)) 216 806 ls (.int (f k) :: st) N I L P := st_ialx b216 dL_law_805 h h1 h2
theorem s216_806 (h : a < N) (h1 : sm_lay a = .inl 10) : sm_at C X 216 806 ls [w3, w2, w1, .ref a] N I L P = sm_af C X 216 809 ls [] (C 113 [.ref a, w1, w2, w3] N I L P) := st_virt b216 dL_law_806 (n := 4) (rest := []) rfl rfl rfl rfl rfl rfl rfl h h1
theorem s216_809 : sm_at C X 216 809 [l0, l1, some (.ref a), l3] st N I L P = sm_at C X 216 810 [l0, l1, some (.ref a), l3] (.ref a :: st) N I L P := st_go b216 dL_law_809 (by decide) rfl
theorem s216_809n : sm_at C X 216 809 [l0, l1, some .null, l3] st N I L P = sm_at C X 216 810 [l0, l1, some .null, l3] (.null :: st) N I L P := st_go b216 dL_law_809 (by decide) rfl
theorem s216_810 : sm_at C X 216 810 [some (.ref a), l1, l2, l3] st N I L P = sm_at C X 216 811 [some (.ref a), l1, l2, l3] (.ref a :: st) N I L P := st_go b216 dL_law_810 (by decide) rfl
theorem s216_811 : sm_at C X 216 811 [l0, l1, l2, some (.int x0)] st N I L P = sm_at C X 216 812 [l0, l1, l2, some (.int x0)] (.int x0 :: st) N I L P := st_go b216 dL_law_811 (by decide) rfl
theorem s216_812 : sm_at C X 216 812 ls st N I L P = sm_at C X 216 813 ls (.int (nI 1) :: st) N I L P := st_go b216 dL_law_812 (by decide) rfl
theorem s216_813 : sm_at C X 216 813 ls (.int x0 :: .int x1 :: st) N I L P = sm_at C X 216 814 ls (.int (x1 + x0) :: st) N I L P := st_go b216 dL_law_813 (by decide) rfl
theorem s216_814 (h : a < N) (h1 : k < sm_al a) : sm_at C X 216 814 ls (.int (nI k) :: .ref a :: st) N I L P = sm_at C X 216 815 ls (.int (I a k) :: st) N I L P := st_iald b216 dL_law_814 h h1
theorem s216_814x (h : N ≤ 1000) (h1 : k < n) (h2 : n < 1000) : sm_at C (some (n, f)) 216 814 ls (.int (nI k) :: .ref 1048578 :: st) N I L P = sm_at C (some (n, f)) 216 815 ls (.int (f k) :: st) N I L P := st_ialx b216 dL_law_814 h h1 h2
theorem s216_815 : sm_at C X 216 815 [some (.ref a), l1, l2, l3] st N I L P = sm_at C X 216 816 [some (.ref a), l1, l2, l3] (.ref a :: st) N I L P := st_go b216 dL_law_815 (by decide) rfl
theorem s216_816 : sm_at C X 216 816 [l0, l1, l2, some (.int x0)] st N I L P = sm_at C X 216 817 [l0, l1, l2, some (.int x0)] (.int x0 :: st) N I L P := st_go b216 dL_law_816 (by decide) rfl
theorem s216_817 : sm_at C X 216 817 ls st N I L P = sm_at C X 216 818 ls (.int (nI 2) :: st) N I L P := st_go b216 dL_law_817 (by decide) rfl
theorem s216_818 : sm_at C X 216 818 ls (.int x0 :: .int x1 :: st) N I L P = sm_at C X 216 819 ls (.int (x1 + x0) :: st) N I L P := st_go b216 dL_law_818 (by decide) rfl
theorem s216_819 (h : a < N) (h1 : k < sm_al a) : sm_at C X 216 819 ls (.int (nI k) :: .ref a :: st) N I L P = sm_at C X 216 820 ls (.int (I a k) :: st) N I L P := st_iald b216 dL_law_819 h h1
theorem s216_819x (h : N ≤ 1000) (h1 : k < n) (h2 : n < 1000) : sm_at C (some (n, f)) 216 819 ls (.int (nI k) :: .ref 1048578 :: st) N I L P = sm_at C (some (n, f)) 216 820 ls (.int (f k) :: st) N I L P := st_ialx b216 dL_law_819 h h1 h2
theorem s216_820 : sm_at C X 216 820 [some (.ref a), l1, l2, l3] st N I L P = sm_at C X 216 821 [some (.ref a), l1, l2, l3] (.ref a :: st) N I L P := st_go b216 dL_law_820 (by decide) rfl
theorem s216_821 : sm_at C X 216 821 [l0, l1, l2, some (.int x0)] st N I L P = sm_at C X 216 822 [l0, l1, l2, some (.int x0)] (.int x0 :: st) N I L P := st_go b216 dL_law_821 (by decide) rfl
theorem s216_822 : sm_at C X 216 822 ls st N I L P = sm_at C X 216 823 ls (.int (nI 3) :: st) N I L P := st_go b216 dL_law_822 (by decide) rfl
theorem s216_823 : sm_at C X 216 823 ls (.int x0 :: .int x1 :: st) N I L P = sm_at C X 216 824 ls (.int (x1 + x0) :: st) N I L P := st_go b216 dL_law_823 (by decide) rfl
theorem s216_824 (h : a < N) (h1 : k < sm_al a) : sm_at C X 216 824 ls (.int (nI k) :: .ref a :: st) N I L P = sm_at C X 216 825 ls (.int (I a k) :: st) N I L P := st_iald b216 dL_law_824 h h1
theorem s216_824x (h : N ≤ 1000) (h1 : k < n) (h2 : n < 1000) : sm_at C (some (n, f)) 216 824 ls (.int (nI k) :: .ref 1048578 :: st) N I L P = sm_at C (some (n, f)) 216 825 ls (.int (f k) :: st) N I L P := st_ialx b216 dL_law_824 h h1 h2
theorem s216_825 (h : a < N) (h1 : sm_lay a = .inl 11) : sm_at C X 216 825 ls [w3, w2, w1, .ref a, v0] N I L P = sm_af C X 216 828 ls [v0] (C 192 [.ref a, w1, w2, w3] N I L P) := st_virt b216 dL_law_825 (n := 4) (rest := [v0]) rfl rfl rfl rfl rfl rfl rfl h h1
theorem s216_828 : sm_at C X 216 828 ls (.int x0 :: .int x1 :: st) N I L P = if x1 = x0 then sm_at C X 216 1109 ls st N I L P else sm_at C X 216 831 ls st N I L P := st_br b216 dL_law_828 (by decide) rfl
theorem s216_831 : sm_at C X 216 831 ls st N I L P = sm_at C X 216 832 ls (.int (nI 0) :: st) N I L P := st_go b216 dL_law_831 (by decide) rfl
theorem s216_832 (h : x0 = 0 ∨ x0 = 1) : sm_at C X 216 832 ls [.int x0] N I L P = some (some (.int x0), N, I, L, P) := st_zret b216 dL_law_832 rfl h
theorem s216_833 : sm_at C X 216 833 [l0, some (.ref a), l2, l3] st N I L P = sm_at C X 216 834 [l0, some (.ref a), l2, l3] (.ref a :: st) N I L P := st_go b216 dL_law_833 (by decide) rfl
theorem s216_833n : sm_at C X 216 833 [l0, some .null, l2, l3] st N I L P = sm_at C X 216 834 [l0, some .null, l2, l3] (.null :: st) N I L P := st_go b216 dL_law_833 (by decide) rfl
theorem s216_834 : sm_at C X 216 834 [some (.ref a), l1, l2, l3] st N I L P = sm_at C X 216 835 [some (.ref a), l1, l2, l3] (.ref a :: st) N I L P := st_go b216 dL_law_834 (by decide) rfl
theorem s216_835 : sm_at C X 216 835 [l0, l1, l2, some (.int x0)] st N I L P = sm_at C X 216 836 [l0, l1, l2, some (.int x0)] (.int x0 :: st) N I L P := st_go b216 dL_law_835 (by decide) rfl
theorem s216_836 : sm_at C X 216 836 ls st N I L P = sm_at C X 216 837 ls (.int (nI 1) :: st) N I L P := st_go b216 dL_law_836 (by decide) rfl
theorem s216_837 : sm_at C X 216 837 ls (.int x0 :: .int x1 :: st) N I L P = sm_at C X 216 838 ls (.int (x1 + x0) :: st) N I L P := st_go b216 dL_law_837 (by decide) rfl
theorem s216_838 (h : a < N) (h1 : k < sm_al a) : sm_at C X 216 838 ls (.int (nI k) :: .ref a :: st) N I L P = sm_at C X 216 839 ls (.int (I a k) :: st) N I L P := st_iald b216 dL_law_838 h h1
theorem s216_838x (h : N ≤ 1000) (h1 : k < n) (h2 : n < 1000) : sm_at C (some (n, f)) 216 838 ls (.int (nI k) :: .ref 1048578 :: st) N I L P = sm_at C (some (n, f)) 216 839 ls (.int (f k) :: st) N I L P := st_ialx b216 dL_law_838 h h1 h2
theorem s216_839 (h : a < N) (h1 : sm_lay a = .inl 10) : sm_at C X 216 839 ls [w1, .ref a] N I L P = sm_af C X 216 842 ls [] (C 114 [.ref a, w1] N I L P) := st_virt b216 dL_law_839 (n := 2) (rest := []) rfl rfl rfl rfl rfl rfl rfl h h1
theorem s216_842 : sm_at C X 216 842 [l0, l1, some (.ref a), l3] st N I L P = sm_at C X 216 843 [l0, l1, some (.ref a), l3] (.ref a :: st) N I L P := st_go b216 dL_law_842 (by decide) rfl
theorem s216_842n : sm_at C X 216 842 [l0, l1, some .null, l3] st N I L P = sm_at C X 216 843 [l0, l1, some .null, l3] (.null :: st) N I L P := st_go b216 dL_law_842 (by decide) rfl
theorem s216_843 : sm_at C X 216 843 [some (.ref a), l1, l2, l3] st N I L P = sm_at C X 216 844 [some (.ref a), l1, l2, l3] (.ref a :: st) N I L P := st_go b216 dL_law_843 (by decide) rfl
theorem s216_844 : sm_at C X 216 844 [l0, l1, l2, some (.int x0)] st N I L P = sm_at C X 216 845 [l0, l1, l2, some (.int x0)] (.int x0 :: st) N I L P := st_go b216 dL_law_844 (by decide) rfl
theorem s216_845 : sm_at C X 216 845 ls st N I L P = sm_at C X 216 846 ls (.int (nI 1) :: st) N I L P := st_go b216 dL_law_845 (by decide) rfl
theorem s216_846 : sm_at C X 216 846 ls (.int x0 :: .int x1 :: st) N I L P = sm_at C X 216 847 ls (.int (x1 + x0) :: st) N I L P := st_go b216 dL_law_846 (by decide) rfl
theorem s216_847 (h : a < N) (h1 : k < sm_al a) : sm_at C X 216 847 ls (.int (nI k) :: .ref a :: st) N I L P = sm_at C X 216 848 ls (.int (I a k) :: st) N I L P := st_iald b216 dL_law_847 h h1
theorem s216_847x (h : N ≤ 1000) (h1 : k < n) (h2 : n < 1000) : sm_at C (some (n, f)) 216 847 ls (.int (nI k) :: .ref 1048578 :: st) N I L P = sm_at C (some (n, f)) 216 848 ls (.int (f k) :: st) N I L P := st_ialx b216 dL_law_847 h h1 h2
theorem s216_848 (h : a < N) (h1 : sm_lay a = .inl 11) : sm_at C X 216 848 ls [w1, .ref a, v0] N I L P = sm_af C X 216 851 ls [v0] (C 193 [.ref a, w1] N I L P) := st_virt b216 dL_law_848 (n := 2) (rest := [v0]) rfl rfl rfl rfl rfl rfl rfl h h1
theorem s216_851 : sm_at C X 216 851 ls (.int x0 :: .int x1 :: st) N I L P = if x1 = x0 then sm_at C X 216 1109 ls st N I L P else sm_at C X 216 854 ls st N I L P := st_br b216 dL_law_851 (by decide) rfl
theorem s216_854 : sm_at C X 216 854 ls st N I L P = sm_at C X 216 855 ls (.int (nI 0) :: st) N I L P := st_go b216 dL_law_854 (by decide) rfl
theorem s216_855 (h : x0 = 0 ∨ x0 = 1) : sm_at C X 216 855 ls [.int x0] N I L P = some (some (.int x0), N, I, L, P) := st_zret b216 dL_law_855 rfl h
theorem s216_856 : sm_at C X 216 856 [l0, some (.ref a), l2, l3] st N I L P = sm_at C X 216 857 [l0, some (.ref a), l2, l3] (.ref a :: st) N I L P := st_go b216 dL_law_856 (by decide) rfl
theorem s216_856n : sm_at C X 216 856 [l0, some .null, l2, l3] st N I L P = sm_at C X 216 857 [l0, some .null, l2, l3] (.null :: st) N I L P := st_go b216 dL_law_856 (by decide) rfl
theorem s216_857 : sm_at C X 216 857 [some (.ref a), l1, l2, l3] st N I L P = sm_at C X 216 858 [some (.ref a), l1, l2, l3] (.ref a :: st) N I L P := st_go b216 dL_law_857 (by decide) rfl
theorem s216_858 : sm_at C X 216 858 [l0, l1, l2, some (.int x0)] st N I L P = sm_at C X 216 859 [l0, l1, l2, some (.int x0)] (.int x0 :: st) N I L P := st_go b216 dL_law_858 (by decide) rfl
theorem s216_859 : sm_at C X 216 859 ls st N I L P = sm_at C X 216 860 ls (.int (nI 1) :: st) N I L P := st_go b216 dL_law_859 (by decide) rfl
theorem s216_860 : sm_at C X 216 860 ls (.int x0 :: .int x1 :: st) N I L P = sm_at C X 216 861 ls (.int (x1 + x0) :: st) N I L P := st_go b216 dL_law_860 (by decide) rfl
theorem s216_861 (h : a < N) (h1 : k < sm_al a) : sm_at C X 216 861 ls (.int (nI k) :: .ref a :: st) N I L P = sm_at C X 216 862 ls (.int (I a k) :: st) N I L P := st_iald b216 dL_law_861 h h1
theorem s216_861x (h : N ≤ 1000) (h1 : k < n) (h2 : n < 1000) : sm_at C (some (n, f)) 216 861 ls (.int (nI k) :: .ref 1048578 :: st) N I L P = sm_at C (some (n, f)) 216 862 ls (.int (f k) :: st) N I L P := st_ialx b216 dL_law_861 h h1 h2
theorem s216_862 : sm_at C X 216 862 [some (.ref a), l1, l2, l3] st N I L P = sm_at C X 216 863 [some (.ref a), l1, l2, l3] (.ref a :: st) N I L P := st_go b216 dL_law_862 (by decide) rfl
theorem s216_863 : sm_at C X 216 863 [l0, l1, l2, some (.int x0)] st N I L P = sm_at C X 216 864 [l0, l1, l2, some (.int x0)] (.int x0 :: st) N I L P := st_go b216 dL_law_863 (by decide) rfl
theorem s216_864 : sm_at C X 216 864 ls st N I L P = sm_at C X 216 865 ls (.int (nI 2) :: st) N I L P := st_go b216 dL_law_864 (by decide) rfl
theorem s216_865 : sm_at C X 216 865 ls (.int x0 :: .int x1 :: st) N I L P = sm_at C X 216 866 ls (.int (x1 + x0) :: st) N I L P := st_go b216 dL_law_865 (by decide) rfl
theorem s216_866 (h : a < N) (h1 : k < sm_al a) : sm_at C X 216 866 ls (.int (nI k) :: .ref a :: st) N I L P = sm_at C X 216 867 ls (.int (I a k) :: st) N I L P := st_iald b216 dL_law_866 h h1
theorem s216_866x (h : N ≤ 1000) (h1 : k < n) (h2 : n < 1000) : sm_at C (some (n, f)) 216 866 ls (.int (nI k) :: .ref 1048578 :: st) N I L P = sm_at C (some (n, f)) 216 867 ls (.int (f k) :: st) N I L P := st_ialx b216 dL_law_866 h h1 h2
theorem s216_867 : sm_at C X 216 867 [some (.ref a), l1, l2, l3] st N I L P = sm_at C X 216 868 [some (.ref a), l1, l2, l3] (.ref a :: st) N I L P := st_go b216 dL_law_867 (by decide) rfl
theorem s216_868 : sm_at C X 216 868 [l0, l1, l2, some (.int x0)] st N I L P = sm_at C X 216 869 [l0, l1, l2, some (.int x0)] (.int x0 :: st) N I L P := st_go b216 dL_law_868 (by decide) rfl
theorem s216_869 : sm_at C X 216 869 ls st N I L P = sm_at C X 216 870 ls (.int (nI 3) :: st) N I L P := st_go b216 dL_law_869 (by decide) rfl
theorem s216_870 : sm_at C X 216 870 ls (.int x0 :: .int x1 :: st) N I L P = sm_at C X 216 871 ls (.int (x1 + x0) :: st) N I L P := st_go b216 dL_law_870 (by decide) rfl
theorem s216_871 (h : a < N) (h1 : k < sm_al a) : sm_at C X 216 871 ls (.int (nI k) :: .ref a :: st) N I L P = sm_at C X 216 872 ls (.int (I a k) :: st) N I L P := st_iald b216 dL_law_871 h h1
theorem s216_871x (h : N ≤ 1000) (h1 : k < n) (h2 : n < 1000) : sm_at C (some (n, f)) 216 871 ls (.int (nI k) :: .ref 1048578 :: st) N I L P = sm_at C (some (n, f)) 216 872 ls (.int (f k) :: st) N I L P := st_ialx b216 dL_law_871 h h1 h2
theorem s216_872 : sm_at C X 216 872 [some (.ref a), l1, l2, l3] st N I L P = sm_at C X 216 873 [some (.ref a), l1, l2, l3] (.ref a :: st) N I L P := st_go b216 dL_law_872 (by decide) rfl
theorem s216_873 : sm_at C X 216 873 [l0, l1, l2, some (.int x0)] st N I L P = sm_at C X 216 874 [l0, l1, l2, some (.int x0)] (.int x0 :: st) N I L P := st_go b216 dL_law_873 (by decide) rfl
theorem s216_874 : sm_at C X 216 874 ls st N I L P = sm_at C X 216 875 ls (.int (nI 4) :: st) N I L P := st_go b216 dL_law_874 (by decide) rfl
theorem s216_875 : sm_at C X 216 875 ls (.int x0 :: .int x1 :: st) N I L P = sm_at C X 216 876 ls (.int (x1 + x0) :: st) N I L P := st_go b216 dL_law_875 (by decide) rfl
theorem s216_876 (h : a < N) (h1 : k < sm_al a) : sm_at C X 216 876 ls (.int (nI k) :: .ref a :: st) N I L P = sm_at C X 216 877 ls (.int (I a k) :: st) N I L P := st_iald b216 dL_law_876 h h1
theorem s216_876x (h : N ≤ 1000) (h1 : k < n) (h2 : n < 1000) : sm_at C (some (n, f)) 216 876 ls (.int (nI k) :: .ref 1048578 :: st) N I L P = sm_at C (some (n, f)) 216 877 ls (.int (f k) :: st) N I L P := st_ialx b216 dL_law_876 h h1 h2
theorem s216_877 (h : a < N) (h1 : sm_lay a = .inl 10) : sm_at C X 216 877 ls [w4, w3, w2, w1, .ref a] N I L P = sm_af C X 216 880 ls [] (C 115 [.ref a, w1, w2, w3, w4] N I L P) := st_virt b216 dL_law_877 (n := 5) (rest := []) rfl rfl rfl rfl rfl rfl rfl h h1
theorem s216_880 : sm_at C X 216 880 [l0, l1, some (.ref a), l3] st N I L P = sm_at C X 216 881 [l0, l1, some (.ref a), l3] (.ref a :: st) N I L P := st_go b216 dL_law_880 (by decide) rfl
theorem s216_880n : sm_at C X 216 880 [l0, l1, some .null, l3] st N I L P = sm_at C X 216 881 [l0, l1, some .null, l3] (.null :: st) N I L P := st_go b216 dL_law_880 (by decide) rfl
theorem s216_881 : sm_at C X 216 881 [some (.ref a), l1, l2, l3] st N I L P = sm_at C X 216 882 [some (.ref a), l1, l2, l3] (.ref a :: st) N I L P := st_go b216 dL_law_881 (by decide) rfl
theorem s216_882 : sm_at C X 216 882 [l0, l1, l2, some (.int x0)] st N I L P = sm_at C X 216 883 [l0, l1, l2, some (.int x0)] (.int x0 :: st) N I L P := st_go b216 dL_law_882 (by decide) rfl
theorem s216_883 : sm_at C X 216 883 ls st N I L P = sm_at C X 216 884 ls (.int (nI 1) :: st) N I L P := st_go b216 dL_law_883 (by decide) rfl
theorem s216_884 : sm_at C X 216 884 ls (.int x0 :: .int x1 :: st) N I L P = sm_at C X 216 885 ls (.int (x1 + x0) :: st) N I L P := st_go b216 dL_law_884 (by decide) rfl
theorem s216_885 (h : a < N) (h1 : k < sm_al a) : sm_at C X 216 885 ls (.int (nI k) :: .ref a :: st) N I L P = sm_at C X 216 886 ls (.int (I a k) :: st) N I L P := st_iald b216 dL_law_885 h h1
theorem s216_885x (h : N ≤ 1000) (h1 : k < n) (h2 : n < 1000) : sm_at C (some (n, f)) 216 885 ls (.int (nI k) :: .ref 1048578 :: st) N I L P = sm_at C (some (n, f)) 216 886 ls (.int (f k) :: st) N I L P := st_ialx b216 dL_law_885 h h1 h2
theorem s216_886 : sm_at C X 216 886 [some (.ref a), l1, l2, l3] st N I L P = sm_at C X 216 887 [some (.ref a), l1, l2, l3] (.ref a :: st) N I L P := st_go b216 dL_law_886 (by decide) rfl
theorem s216_887 : sm_at C X 216 887 [l0, l1, l2, some (.int x0)] st N I L P = sm_at C X 216 888 [l0, l1, l2, some (.int x0)] (.int x0 :: st) N I L P := st_go b216 dL_law_887 (by decide) rfl
theorem s216_888 : sm_at C X 216 888 ls st N I L P = sm_at C X 216 889 ls (.int (nI 2) :: st) N I L P := st_go b216 dL_law_888 (by decide) rfl
theorem s216_889 : sm_at C X 216 889 ls (.int x0 :: .int x1 :: st) N I L P = sm_at C X 216 890 ls (.int (x1 + x0) :: st) N I L P := st_go b216 dL_law_889 (by decide) rfl
theorem s216_890 (h : a < N) (h1 : k < sm_al a) : sm_at C X 216 890 ls (.int (nI k) :: .ref a :: st) N I L P = sm_at C X 216 891 ls (.int (I a k) :: st) N I L P := st_iald b216 dL_law_890 h h1
theorem s216_890x (h : N ≤ 1000) (h1 : k < n) (h2 : n < 1000) : sm_at C (some (n, f)) 216 890 ls (.int (nI k) :: .ref 1048578 :: st) N I L P = sm_at C (some (n, f)) 216 891 ls (.int (f k) :: st) N I L P := st_ialx b216 dL_law_890 h h1 h2
theorem s216_891 : sm_at C X 216 891 [some (.ref a), l1, l2, l3] st N I L P = sm_at C X 216 892 [some (.ref a), l1, l2, l3] (.ref a :: st) N I L P := st_go b216 dL_law_891 (by decide) rfl
theorem s216_892 : sm_at C X 216 892 [l0, l1, l2, some (.int x0)] st N I L P = sm_at C X 216 893 [l0, l1, l2, some (.int x0)] (.int x0 :: st) N I L P := st_go b216 dL_law_892 (by decide) rfl
theorem s216_893 : sm_at C X 216 893 ls st N I L P = sm_at C X 216 894 ls (.int (nI 3) :: st) N I L P := st_go b216 dL_law_893 (by decide) rfl
theorem s216_894 : sm_at C X 216 894 ls (.int x0 :: .int x1 :: st) N I L P = sm_at C X 216 895 ls (.int (x1 + x0) :: st) N I L P := st_go b216 dL_law_894 (by decide) rfl
theorem s216_895 (h : a < N) (h1 : k < sm_al a) : sm_at C X 216 895 ls (.int (nI k) :: .ref a :: st) N I L P = sm_at C X 216 896 ls (.int (I a k) :: st) N I L P := st_iald b216 dL_law_895 h h1
theorem s216_895x (h : N ≤ 1000) (h1 : k < n) (h2 : n < 1000) : sm_at C (some (n, f)) 216 895 ls (.int (nI k) :: .ref 1048578 :: st) N I L P = sm_at C (some (n, f)) 216 896 ls (.int (f k) :: st) N I L P := st_ialx b216 dL_law_895 h h1 h2
theorem s216_896 : sm_at C X 216 896 [some (.ref a), l1, l2, l3] st N I L P = sm_at C X 216 897 [some (.ref a), l1, l2, l3] (.ref a :: st) N I L P := st_go b216 dL_law_896 (by decide) rfl
theorem s216_897 : sm_at C X 216 897 [l0, l1, l2, some (.int x0)] st N I L P = sm_at C X 216 898 [l0, l1, l2, some (.int x0)] (.int x0 :: st) N I L P := st_go b216 dL_law_897 (by decide) rfl
theorem s216_898 : sm_at C X 216 898 ls st N I L P = sm_at C X 216 899 ls (.int (nI 4) :: st) N I L P := st_go b216 dL_law_898 (by decide) rfl
theorem s216_899 : sm_at C X 216 899 ls (.int x0 :: .int x1 :: st) N I L P = sm_at C X 216 900 ls (.int (x1 + x0) :: st) N I L P := st_go b216 dL_law_899 (by decide) rfl
theorem s216_900 (h : a < N) (h1 : k < sm_al a) : sm_at C X 216 900 ls (.int (nI k) :: .ref a :: st) N I L P = sm_at C X 216 901 ls (.int (I a k) :: st) N I L P := st_iald b216 dL_law_900 h h1
theorem s216_900x (h : N ≤ 1000) (h1 : k < n) (h2 : n < 1000) : sm_at C (some (n, f)) 216 900 ls (.int (nI k) :: .ref 1048578 :: st) N I L P = sm_at C (some (n, f)) 216 901 ls (.int (f k) :: st) N I L P := st_ialx b216 dL_law_900 h h1 h2
theorem s216_901 (h : a < N) (h1 : sm_lay a = .inl 11) : sm_at C X 216 901 ls [w4, w3, w2, w1, .ref a, v0] N I L P = sm_af C X 216 904 ls [v0] (C 195 [.ref a, w1, w2, w3, w4] N I L P) := st_virt b216 dL_law_901 (n := 5) (rest := [v0]) rfl rfl rfl rfl rfl rfl rfl h h1
theorem s216_904 : sm_at C X 216 904 ls (.long z0 :: .long z1 :: st) N I L P = sm_at C X 216 905 ls (.int (lg_cmp z1 z0) :: st) N I L P := st_go b216 dL_law_904 (by decide) rfl
theorem s216_905 : sm_at C X 216 905 ls (.int x0 :: st) N I L P = if x0 = 0 then sm_at C X 216 1109 ls st N I L P else sm_at C X 216 908 ls st N I L P := st_br b216 dL_law_905 (by decide) rfl
theorem s216_908 : sm_at C X 216 908 ls st N I L P = sm_at C X 216 909 ls (.int (nI 0) :: st) N I L P := st_go b216 dL_law_908 (by decide) rfl
theorem s216_909 (h : x0 = 0 ∨ x0 = 1) : sm_at C X 216 909 ls [.int x0] N I L P = some (some (.int x0), N, I, L, P) := st_zret b216 dL_law_909 rfl h
theorem s216_910 : sm_at C X 216 910 [l0, some (.ref a), l2, l3] st N I L P = sm_at C X 216 911 [l0, some (.ref a), l2, l3] (.ref a :: st) N I L P := st_go b216 dL_law_910 (by decide) rfl
theorem s216_910n : sm_at C X 216 910 [l0, some .null, l2, l3] st N I L P = sm_at C X 216 911 [l0, some .null, l2, l3] (.null :: st) N I L P := st_go b216 dL_law_910 (by decide) rfl
theorem s216_911 : sm_at C X 216 911 [some (.ref a), l1, l2, l3] st N I L P = sm_at C X 216 912 [some (.ref a), l1, l2, l3] (.ref a :: st) N I L P := st_go b216 dL_law_911 (by decide) rfl
theorem s216_912 : sm_at C X 216 912 [l0, l1, l2, some (.int x0)] st N I L P = sm_at C X 216 913 [l0, l1, l2, some (.int x0)] (.int x0 :: st) N I L P := st_go b216 dL_law_912 (by decide) rfl
theorem s216_913 : sm_at C X 216 913 ls st N I L P = sm_at C X 216 914 ls (.int (nI 1) :: st) N I L P := st_go b216 dL_law_913 (by decide) rfl
theorem s216_914 : sm_at C X 216 914 ls (.int x0 :: .int x1 :: st) N I L P = sm_at C X 216 915 ls (.int (x1 + x0) :: st) N I L P := st_go b216 dL_law_914 (by decide) rfl
theorem s216_915 (h : a < N) (h1 : k < sm_al a) : sm_at C X 216 915 ls (.int (nI k) :: .ref a :: st) N I L P = sm_at C X 216 916 ls (.int (I a k) :: st) N I L P := st_iald b216 dL_law_915 h h1
theorem s216_915x (h : N ≤ 1000) (h1 : k < n) (h2 : n < 1000) : sm_at C (some (n, f)) 216 915 ls (.int (nI k) :: .ref 1048578 :: st) N I L P = sm_at C (some (n, f)) 216 916 ls (.int (f k) :: st) N I L P := st_ialx b216 dL_law_915 h h1 h2
theorem s216_916 (h : a < N) (h1 : sm_lay a = .inl 10) : sm_at C X 216 916 ls [w1, .ref a] N I L P = sm_af C X 216 919 ls [] (C 116 [.ref a, w1] N I L P) := st_virt b216 dL_law_916 (n := 2) (rest := []) rfl rfl rfl rfl rfl rfl rfl h h1
theorem s216_919 : sm_at C X 216 919 [l0, l1, some (.ref a), l3] st N I L P = sm_at C X 216 920 [l0, l1, some (.ref a), l3] (.ref a :: st) N I L P := st_go b216 dL_law_919 (by decide) rfl
theorem s216_919n : sm_at C X 216 919 [l0, l1, some .null, l3] st N I L P = sm_at C X 216 920 [l0, l1, some .null, l3] (.null :: st) N I L P := st_go b216 dL_law_919 (by decide) rfl
theorem s216_920 : sm_at C X 216 920 [some (.ref a), l1, l2, l3] st N I L P = sm_at C X 216 921 [some (.ref a), l1, l2, l3] (.ref a :: st) N I L P := st_go b216 dL_law_920 (by decide) rfl
theorem s216_921 : sm_at C X 216 921 [l0, l1, l2, some (.int x0)] st N I L P = sm_at C X 216 922 [l0, l1, l2, some (.int x0)] (.int x0 :: st) N I L P := st_go b216 dL_law_921 (by decide) rfl
theorem s216_922 : sm_at C X 216 922 ls st N I L P = sm_at C X 216 923 ls (.int (nI 1) :: st) N I L P := st_go b216 dL_law_922 (by decide) rfl
theorem s216_923 : sm_at C X 216 923 ls (.int x0 :: .int x1 :: st) N I L P = sm_at C X 216 924 ls (.int (x1 + x0) :: st) N I L P := st_go b216 dL_law_923 (by decide) rfl
theorem s216_924 (h : a < N) (h1 : k < sm_al a) : sm_at C X 216 924 ls (.int (nI k) :: .ref a :: st) N I L P = sm_at C X 216 925 ls (.int (I a k) :: st) N I L P := st_iald b216 dL_law_924 h h1
theorem s216_924x (h : N ≤ 1000) (h1 : k < n) (h2 : n < 1000) : sm_at C (some (n, f)) 216 924 ls (.int (nI k) :: .ref 1048578 :: st) N I L P = sm_at C (some (n, f)) 216 925 ls (.int (f k) :: st) N I L P := st_ialx b216 dL_law_924 h h1 h2
theorem s216_925 (h : a < N) (h1 : sm_lay a = .inl 11) : sm_at C X 216 925 ls [w1, .ref a, v0] N I L P = sm_af C X 216 928 ls [v0] (C 196 [.ref a, w1] N I L P) := st_virt b216 dL_law_925 (n := 2) (rest := [v0]) rfl rfl rfl rfl rfl rfl rfl h h1
theorem s216_928 : sm_at C X 216 928 ls (.int x0 :: .int x1 :: st) N I L P = if x1 = x0 then sm_at C X 216 1109 ls st N I L P else sm_at C X 216 931 ls st N I L P := st_br b216 dL_law_928 (by decide) rfl
theorem s216_931 : sm_at C X 216 931 ls st N I L P = sm_at C X 216 932 ls (.int (nI 0) :: st) N I L P := st_go b216 dL_law_931 (by decide) rfl
theorem s216_932 (h : x0 = 0 ∨ x0 = 1) : sm_at C X 216 932 ls [.int x0] N I L P = some (some (.int x0), N, I, L, P) := st_zret b216 dL_law_932 rfl h
theorem s216_933 : sm_at C X 216 933 [l0, some (.ref a), l2, l3] st N I L P = sm_at C X 216 934 [l0, some (.ref a), l2, l3] (.ref a :: st) N I L P := st_go b216 dL_law_933 (by decide) rfl
theorem s216_933n : sm_at C X 216 933 [l0, some .null, l2, l3] st N I L P = sm_at C X 216 934 [l0, some .null, l2, l3] (.null :: st) N I L P := st_go b216 dL_law_933 (by decide) rfl
theorem s216_934 : sm_at C X 216 934 [some (.ref a), l1, l2, l3] st N I L P = sm_at C X 216 935 [some (.ref a), l1, l2, l3] (.ref a :: st) N I L P := st_go b216 dL_law_934 (by decide) rfl
theorem s216_935 : sm_at C X 216 935 [l0, l1, l2, some (.int x0)] st N I L P = sm_at C X 216 936 [l0, l1, l2, some (.int x0)] (.int x0 :: st) N I L P := st_go b216 dL_law_935 (by decide) rfl
theorem s216_936 : sm_at C X 216 936 ls st N I L P = sm_at C X 216 937 ls (.int (nI 1) :: st) N I L P := st_go b216 dL_law_936 (by decide) rfl
theorem s216_937 : sm_at C X 216 937 ls (.int x0 :: .int x1 :: st) N I L P = sm_at C X 216 938 ls (.int (x1 + x0) :: st) N I L P := st_go b216 dL_law_937 (by decide) rfl
theorem s216_938 (h : a < N) (h1 : k < sm_al a) : sm_at C X 216 938 ls (.int (nI k) :: .ref a :: st) N I L P = sm_at C X 216 939 ls (.int (I a k) :: st) N I L P := st_iald b216 dL_law_938 h h1
theorem s216_938x (h : N ≤ 1000) (h1 : k < n) (h2 : n < 1000) : sm_at C (some (n, f)) 216 938 ls (.int (nI k) :: .ref 1048578 :: st) N I L P = sm_at C (some (n, f)) 216 939 ls (.int (f k) :: st) N I L P := st_ialx b216 dL_law_938 h h1 h2
theorem s216_939 : sm_at C X 216 939 [some (.ref a), l1, l2, l3] st N I L P = sm_at C X 216 940 [some (.ref a), l1, l2, l3] (.ref a :: st) N I L P := st_go b216 dL_law_939 (by decide) rfl
theorem s216_940 : sm_at C X 216 940 [l0, l1, l2, some (.int x0)] st N I L P = sm_at C X 216 941 [l0, l1, l2, some (.int x0)] (.int x0 :: st) N I L P := st_go b216 dL_law_940 (by decide) rfl
theorem s216_941 : sm_at C X 216 941 ls st N I L P = sm_at C X 216 942 ls (.int (nI 2) :: st) N I L P := st_go b216 dL_law_941 (by decide) rfl
theorem s216_942 : sm_at C X 216 942 ls (.int x0 :: .int x1 :: st) N I L P = sm_at C X 216 943 ls (.int (x1 + x0) :: st) N I L P := st_go b216 dL_law_942 (by decide) rfl
theorem s216_943 (h : a < N) (h1 : k < sm_al a) : sm_at C X 216 943 ls (.int (nI k) :: .ref a :: st) N I L P = sm_at C X 216 944 ls (.int (I a k) :: st) N I L P := st_iald b216 dL_law_943 h h1
theorem s216_943x (h : N ≤ 1000) (h1 : k < n) (h2 : n < 1000) : sm_at C (some (n, f)) 216 943 ls (.int (nI k) :: .ref 1048578 :: st) N I L P = sm_at C (some (n, f)) 216 944 ls (.int (f k) :: st) N I L P := st_ialx b216 dL_law_943 h h1 h2
theorem s216_944 (h : a < N) (h1 : sm_lay a = .inl 10) : sm_at C X 216 944 ls [w2, w1, .ref a] N I L P = sm_af C X 216 947 ls [] (C 117 [.ref a, w1, w2] N I L P) := st_virt b216 dL_law_944 (n := 3) (rest := []) rfl rfl rfl rfl rfl rfl rfl h h1
theorem s216_947 : sm_at C X 216 947 [l0, l1, some (.ref a), l3] st N I L P = sm_at C X 216 948 [l0, l1, some (.ref a), l3] (.ref a :: st) N I L P := st_go b216 dL_law_947 (by decide) rfl
theorem s216_947n : sm_at C X 216 947 [l0, l1, some .null, l3] st N I L P = sm_at C X 216 948 [l0, l1, some .null, l3] (.null :: st) N I L P := st_go b216 dL_law_947 (by decide) rfl
theorem s216_948 : sm_at C X 216 948 [some (.ref a), l1, l2, l3] st N I L P = sm_at C X 216 949 [some (.ref a), l1, l2, l3] (.ref a :: st) N I L P := st_go b216 dL_law_948 (by decide) rfl
theorem s216_949 : sm_at C X 216 949 [l0, l1, l2, some (.int x0)] st N I L P = sm_at C X 216 950 [l0, l1, l2, some (.int x0)] (.int x0 :: st) N I L P := st_go b216 dL_law_949 (by decide) rfl
theorem s216_950 : sm_at C X 216 950 ls st N I L P = sm_at C X 216 951 ls (.int (nI 1) :: st) N I L P := st_go b216 dL_law_950 (by decide) rfl
theorem s216_951 : sm_at C X 216 951 ls (.int x0 :: .int x1 :: st) N I L P = sm_at C X 216 952 ls (.int (x1 + x0) :: st) N I L P := st_go b216 dL_law_951 (by decide) rfl
theorem s216_952 (h : a < N) (h1 : k < sm_al a) : sm_at C X 216 952 ls (.int (nI k) :: .ref a :: st) N I L P = sm_at C X 216 953 ls (.int (I a k) :: st) N I L P := st_iald b216 dL_law_952 h h1
theorem s216_952x (h : N ≤ 1000) (h1 : k < n) (h2 : n < 1000) : sm_at C (some (n, f)) 216 952 ls (.int (nI k) :: .ref 1048578 :: st) N I L P = sm_at C (some (n, f)) 216 953 ls (.int (f k) :: st) N I L P := st_ialx b216 dL_law_952 h h1 h2
theorem s216_953 : sm_at C X 216 953 [some (.ref a), l1, l2, l3] st N I L P = sm_at C X 216 954 [some (.ref a), l1, l2, l3] (.ref a :: st) N I L P := st_go b216 dL_law_953 (by decide) rfl
theorem s216_954 : sm_at C X 216 954 [l0, l1, l2, some (.int x0)] st N I L P = sm_at C X 216 955 [l0, l1, l2, some (.int x0)] (.int x0 :: st) N I L P := st_go b216 dL_law_954 (by decide) rfl
theorem s216_955 : sm_at C X 216 955 ls st N I L P = sm_at C X 216 956 ls (.int (nI 2) :: st) N I L P := st_go b216 dL_law_955 (by decide) rfl
theorem s216_956 : sm_at C X 216 956 ls (.int x0 :: .int x1 :: st) N I L P = sm_at C X 216 957 ls (.int (x1 + x0) :: st) N I L P := st_go b216 dL_law_956 (by decide) rfl
theorem s216_957 (h : a < N) (h1 : k < sm_al a) : sm_at C X 216 957 ls (.int (nI k) :: .ref a :: st) N I L P = sm_at C X 216 958 ls (.int (I a k) :: st) N I L P := st_iald b216 dL_law_957 h h1
theorem s216_957x (h : N ≤ 1000) (h1 : k < n) (h2 : n < 1000) : sm_at C (some (n, f)) 216 957 ls (.int (nI k) :: .ref 1048578 :: st) N I L P = sm_at C (some (n, f)) 216 958 ls (.int (f k) :: st) N I L P := st_ialx b216 dL_law_957 h h1 h2
theorem s216_958 (h : a < N) (h1 : sm_lay a = .inl 11) : sm_at C X 216 958 ls [w2, w1, .ref a, v0] N I L P = sm_af C X 216 961 ls [v0] (C 197 [.ref a, w1, w2] N I L P) := st_virt b216 dL_law_958 (n := 3) (rest := [v0]) rfl rfl rfl rfl rfl rfl rfl h h1
theorem s216_961 : sm_at C X 216 961 ls (.int x0 :: .int x1 :: st) N I L P = if x1 = x0 then sm_at C X 216 1109 ls st N I L P else sm_at C X 216 964 ls st N I L P := st_br b216 dL_law_961 (by decide) rfl
theorem s216_964 : sm_at C X 216 964 ls st N I L P = sm_at C X 216 965 ls (.int (nI 0) :: st) N I L P := st_go b216 dL_law_964 (by decide) rfl
theorem s216_965 (h : x0 = 0 ∨ x0 = 1) : sm_at C X 216 965 ls [.int x0] N I L P = some (some (.int x0), N, I, L, P) := st_zret b216 dL_law_965 rfl h
theorem s216_966 : sm_at C X 216 966 [l0, some (.ref a), l2, l3] st N I L P = sm_at C X 216 967 [l0, some (.ref a), l2, l3] (.ref a :: st) N I L P := st_go b216 dL_law_966 (by decide) rfl
theorem s216_966n : sm_at C X 216 966 [l0, some .null, l2, l3] st N I L P = sm_at C X 216 967 [l0, some .null, l2, l3] (.null :: st) N I L P := st_go b216 dL_law_966 (by decide) rfl
theorem s216_967 (h : a < N) (h1 : sm_lay a = .inl 10) : sm_at C X 216 967 ls [.ref a] N I L P = sm_af C X 216 970 ls [] (C 118 [.ref a] N I L P) := st_virt b216 dL_law_967 (n := 1) (rest := []) rfl rfl rfl rfl rfl rfl rfl h h1
theorem s216_970 : sm_at C X 216 970 [l0, l1, some (.ref a), l3] st N I L P = sm_at C X 216 971 [l0, l1, some (.ref a), l3] (.ref a :: st) N I L P := st_go b216 dL_law_970 (by decide) rfl
theorem s216_970n : sm_at C X 216 970 [l0, l1, some .null, l3] st N I L P = sm_at C X 216 971 [l0, l1, some .null, l3] (.null :: st) N I L P := st_go b216 dL_law_970 (by decide) rfl
theorem s216_971 (h : a < N) (h1 : sm_lay a = .inl 11) : sm_at C X 216 971 ls [.ref a, v0] N I L P = sm_af C X 216 974 ls [v0] (C 201 [.ref a] N I L P) := st_virt b216 dL_law_971 (n := 1) (rest := [v0]) rfl rfl rfl rfl rfl rfl rfl h h1
theorem s216_974 : sm_at C X 216 974 ls (.int x0 :: .int x1 :: st) N I L P = if x1 = x0 then sm_at C X 216 1109 ls st N I L P else sm_at C X 216 977 ls st N I L P := st_br b216 dL_law_974 (by decide) rfl
theorem s216_977 : sm_at C X 216 977 ls st N I L P = sm_at C X 216 978 ls (.int (nI 0) :: st) N I L P := st_go b216 dL_law_977 (by decide) rfl
theorem s216_978 (h : x0 = 0 ∨ x0 = 1) : sm_at C X 216 978 ls [.int x0] N I L P = some (some (.int x0), N, I, L, P) := st_zret b216 dL_law_978 rfl h
theorem s216_979 : sm_at C X 216 979 [l0, some (.ref a), l2, l3] st N I L P = sm_at C X 216 980 [l0, some (.ref a), l2, l3] (.ref a :: st) N I L P := st_go b216 dL_law_979 (by decide) rfl
theorem s216_979n : sm_at C X 216 979 [l0, some .null, l2, l3] st N I L P = sm_at C X 216 980 [l0, some .null, l2, l3] (.null :: st) N I L P := st_go b216 dL_law_979 (by decide) rfl
theorem s216_980 : sm_at C X 216 980 [some (.ref a), l1, l2, l3] st N I L P = sm_at C X 216 981 [some (.ref a), l1, l2, l3] (.ref a :: st) N I L P := st_go b216 dL_law_980 (by decide) rfl
theorem s216_981 : sm_at C X 216 981 [l0, l1, l2, some (.int x0)] st N I L P = sm_at C X 216 982 [l0, l1, l2, some (.int x0)] (.int x0 :: st) N I L P := st_go b216 dL_law_981 (by decide) rfl
theorem s216_982 : sm_at C X 216 982 ls st N I L P = sm_at C X 216 983 ls (.int (nI 1) :: st) N I L P := st_go b216 dL_law_982 (by decide) rfl
theorem s216_983 : sm_at C X 216 983 ls (.int x0 :: .int x1 :: st) N I L P = sm_at C X 216 984 ls (.int (x1 + x0) :: st) N I L P := st_go b216 dL_law_983 (by decide) rfl
theorem s216_984 (h : a < N) (h1 : k < sm_al a) : sm_at C X 216 984 ls (.int (nI k) :: .ref a :: st) N I L P = sm_at C X 216 985 ls (.int (I a k) :: st) N I L P := st_iald b216 dL_law_984 h h1
theorem s216_984x (h : N ≤ 1000) (h1 : k < n) (h2 : n < 1000) : sm_at C (some (n, f)) 216 984 ls (.int (nI k) :: .ref 1048578 :: st) N I L P = sm_at C (some (n, f)) 216 985 ls (.int (f k) :: st) N I L P := st_ialx b216 dL_law_984 h h1 h2
theorem s216_985 (h : a < N) (h1 : sm_lay a = .inl 10) : sm_at C X 216 985 ls [w1, .ref a] N I L P = sm_af C X 216 988 ls [] (C 119 [.ref a, w1] N I L P) := st_virt b216 dL_law_985 (n := 2) (rest := []) rfl rfl rfl rfl rfl rfl rfl h h1
theorem s216_988 : sm_at C X 216 988 [l0, l1, some (.ref a), l3] st N I L P = sm_at C X 216 989 [l0, l1, some (.ref a), l3] (.ref a :: st) N I L P := st_go b216 dL_law_988 (by decide) rfl
theorem s216_988n : sm_at C X 216 988 [l0, l1, some .null, l3] st N I L P = sm_at C X 216 989 [l0, l1, some .null, l3] (.null :: st) N I L P := st_go b216 dL_law_988 (by decide) rfl
theorem s216_989 : sm_at C X 216 989 [some (.ref a), l1, l2, l3] st N I L P = sm_at C X 216 990 [some (.ref a), l1, l2, l3] (.ref a :: st) N I L P := st_go b216 dL_law_989 (by decide) rfl
theorem s216_990 : sm_at C X 216 990 [l0, l1, l2, some (.int x0)] st N I L P = sm_at C X 216 991 [l0, l1, l2, some (.int x0)] (.int x0 :: st) N I L P := st_go b216 dL_law_990 (by decide) rfl
theorem s216_991 : sm_at C X 216 991 ls st N I L P = sm_at C X 216 992 ls (.int (nI 1) :: st) N I L P := st_go b216 dL_law_991 (by decide) rfl
theorem s216_992 : sm_at C X 216 992 ls (.int x0 :: .int x1 :: st) N I L P = sm_at C X 216 993 ls (.int (x1 + x0) :: st) N I L P := st_go b216 dL_law_992 (by decide) rfl
theorem s216_993 (h : a < N) (h1 : k < sm_al a) : sm_at C X 216 993 ls (.int (nI k) :: .ref a :: st) N I L P = sm_at C X 216 994 ls (.int (I a k) :: st) N I L P := st_iald b216 dL_law_993 h h1
theorem s216_993x (h : N ≤ 1000) (h1 : k < n) (h2 : n < 1000) : sm_at C (some (n, f)) 216 993 ls (.int (nI k) :: .ref 1048578 :: st) N I L P = sm_at C (some (n, f)) 216 994 ls (.int (f k) :: st) N I L P := st_ialx b216 dL_law_993 h h1 h2
theorem s216_994 (h : a < N) (h1 : sm_lay a = .inl 11) : sm_at C X 216 994 ls [w1, .ref a, v0] N I L P = sm_af C X 216 997 ls [v0] (C 203 [.ref a, w1] N I L P) := st_virt b216 dL_law_994 (n := 2) (rest := [v0]) rfl rfl rfl rfl rfl rfl rfl h h1
theorem s216_997 : sm_at C X 216 997 ls (.int x0 :: .int x1 :: st) N I L P = if x1 = x0 then sm_at C X 216 1109 ls st N I L P else sm_at C X 216 1000 ls st N I L P := st_br b216 dL_law_997 (by decide) rfl
theorem s216_1000 : sm_at C X 216 1000 ls st N I L P = sm_at C X 216 1001 ls (.int (nI 0) :: st) N I L P := st_go b216 dL_law_1000 (by decide) rfl
theorem s216_1001 (h : x0 = 0 ∨ x0 = 1) : sm_at C X 216 1001 ls [.int x0] N I L P = some (some (.int x0), N, I, L, P) := st_zret b216 dL_law_1001 rfl h
theorem s216_1002 : sm_at C X 216 1002 [l0, some (.ref a), l2, l3] st N I L P = sm_at C X 216 1003 [l0, some (.ref a), l2, l3] (.ref a :: st) N I L P := st_go b216 dL_law_1002 (by decide) rfl
theorem s216_1002n : sm_at C X 216 1002 [l0, some .null, l2, l3] st N I L P = sm_at C X 216 1003 [l0, some .null, l2, l3] (.null :: st) N I L P := st_go b216 dL_law_1002 (by decide) rfl
theorem s216_1003 : sm_at C X 216 1003 [some (.ref a), l1, l2, l3] st N I L P = sm_at C X 216 1004 [some (.ref a), l1, l2, l3] (.ref a :: st) N I L P := st_go b216 dL_law_1003 (by decide) rfl
theorem s216_1004 : sm_at C X 216 1004 [l0, l1, l2, some (.int x0)] st N I L P = sm_at C X 216 1005 [l0, l1, l2, some (.int x0)] (.int x0 :: st) N I L P := st_go b216 dL_law_1004 (by decide) rfl
theorem s216_1005 : sm_at C X 216 1005 ls st N I L P = sm_at C X 216 1006 ls (.int (nI 1) :: st) N I L P := st_go b216 dL_law_1005 (by decide) rfl
theorem s216_1006 : sm_at C X 216 1006 ls (.int x0 :: .int x1 :: st) N I L P = sm_at C X 216 1007 ls (.int (x1 + x0) :: st) N I L P := st_go b216 dL_law_1006 (by decide) rfl
theorem s216_1007 (h : a < N) (h1 : k < sm_al a) : sm_at C X 216 1007 ls (.int (nI k) :: .ref a :: st) N I L P = sm_at C X 216 1008 ls (.int (I a k) :: st) N I L P := st_iald b216 dL_law_1007 h h1
theorem s216_1007x (h : N ≤ 1000) (h1 : k < n) (h2 : n < 1000) : sm_at C (some (n, f)) 216 1007 ls (.int (nI k) :: .ref 1048578 :: st) N I L P = sm_at C (some (n, f)) 216 1008 ls (.int (f k) :: st) N I L P := st_ialx b216 dL_law_1007 h h1 h2
theorem s216_1008 : sm_at C X 216 1008 [some (.ref a), l1, l2, l3] st N I L P = sm_at C X 216 1009 [some (.ref a), l1, l2, l3] (.ref a :: st) N I L P := st_go b216 dL_law_1008 (by decide) rfl
theorem s216_1009 : sm_at C X 216 1009 [l0, l1, l2, some (.int x0)] st N I L P = sm_at C X 216 1010 [l0, l1, l2, some (.int x0)] (.int x0 :: st) N I L P := st_go b216 dL_law_1009 (by decide) rfl
theorem s216_1010 : sm_at C X 216 1010 ls st N I L P = sm_at C X 216 1011 ls (.int (nI 2) :: st) N I L P := st_go b216 dL_law_1010 (by decide) rfl
theorem s216_1011 : sm_at C X 216 1011 ls (.int x0 :: .int x1 :: st) N I L P = sm_at C X 216 1012 ls (.int (x1 + x0) :: st) N I L P := st_go b216 dL_law_1011 (by decide) rfl
theorem s216_1012 (h : a < N) (h1 : k < sm_al a) : sm_at C X 216 1012 ls (.int (nI k) :: .ref a :: st) N I L P = sm_at C X 216 1013 ls (.int (I a k) :: st) N I L P := st_iald b216 dL_law_1012 h h1
theorem s216_1012x (h : N ≤ 1000) (h1 : k < n) (h2 : n < 1000) : sm_at C (some (n, f)) 216 1012 ls (.int (nI k) :: .ref 1048578 :: st) N I L P = sm_at C (some (n, f)) 216 1013 ls (.int (f k) :: st) N I L P := st_ialx b216 dL_law_1012 h h1 h2
theorem s216_1013 : sm_at C X 216 1013 [some (.ref a), l1, l2, l3] st N I L P = sm_at C X 216 1014 [some (.ref a), l1, l2, l3] (.ref a :: st) N I L P := st_go b216 dL_law_1013 (by decide) rfl
theorem s216_1014 : sm_at C X 216 1014 [l0, l1, l2, some (.int x0)] st N I L P = sm_at C X 216 1015 [l0, l1, l2, some (.int x0)] (.int x0 :: st) N I L P := st_go b216 dL_law_1014 (by decide) rfl
theorem s216_1015 : sm_at C X 216 1015 ls st N I L P = sm_at C X 216 1016 ls (.int (nI 3) :: st) N I L P := st_go b216 dL_law_1015 (by decide) rfl
theorem s216_1016 : sm_at C X 216 1016 ls (.int x0 :: .int x1 :: st) N I L P = sm_at C X 216 1017 ls (.int (x1 + x0) :: st) N I L P := st_go b216 dL_law_1016 (by decide) rfl
theorem s216_1017 (h : a < N) (h1 : k < sm_al a) : sm_at C X 216 1017 ls (.int (nI k) :: .ref a :: st) N I L P = sm_at C X 216 1018 ls (.int (I a k) :: st) N I L P := st_iald b216 dL_law_1017 h h1
theorem s216_1017x (h : N ≤ 1000) (h1 : k < n) (h2 : n < 1000) : sm_at C (some (n, f)) 216 1017 ls (.int (nI k) :: .ref 1048578 :: st) N I L P = sm_at C (some (n, f)) 216 1018 ls (.int (f k) :: st) N I L P := st_ialx b216 dL_law_1017 h h1 h2
theorem s216_1018 (h : a < N) (h1 : sm_lay a = .inl 10) : sm_at C X 216 1018 ls [w3, w2, w1, .ref a] N I L P = sm_af C X 216 1021 ls [] (C 120 [.ref a, w1, w2, w3] N I L P) := st_virt b216 dL_law_1018 (n := 4) (rest := []) rfl rfl rfl rfl rfl rfl rfl h h1
theorem s216_1021 : sm_at C X 216 1021 [l0, l1, some (.ref a), l3] st N I L P = sm_at C X 216 1022 [l0, l1, some (.ref a), l3] (.ref a :: st) N I L P := st_go b216 dL_law_1021 (by decide) rfl
theorem s216_1021n : sm_at C X 216 1021 [l0, l1, some .null, l3] st N I L P = sm_at C X 216 1022 [l0, l1, some .null, l3] (.null :: st) N I L P := st_go b216 dL_law_1021 (by decide) rfl
theorem s216_1022 : sm_at C X 216 1022 [some (.ref a), l1, l2, l3] st N I L P = sm_at C X 216 1023 [some (.ref a), l1, l2, l3] (.ref a :: st) N I L P := st_go b216 dL_law_1022 (by decide) rfl
theorem s216_1023 : sm_at C X 216 1023 [l0, l1, l2, some (.int x0)] st N I L P = sm_at C X 216 1024 [l0, l1, l2, some (.int x0)] (.int x0 :: st) N I L P := st_go b216 dL_law_1023 (by decide) rfl
theorem s216_1024 : sm_at C X 216 1024 ls st N I L P = sm_at C X 216 1025 ls (.int (nI 1) :: st) N I L P := st_go b216 dL_law_1024 (by decide) rfl
theorem s216_1025 : sm_at C X 216 1025 ls (.int x0 :: .int x1 :: st) N I L P = sm_at C X 216 1026 ls (.int (x1 + x0) :: st) N I L P := st_go b216 dL_law_1025 (by decide) rfl
theorem s216_1026 (h : a < N) (h1 : k < sm_al a) : sm_at C X 216 1026 ls (.int (nI k) :: .ref a :: st) N I L P = sm_at C X 216 1027 ls (.int (I a k) :: st) N I L P := st_iald b216 dL_law_1026 h h1
theorem s216_1026x (h : N ≤ 1000) (h1 : k < n) (h2 : n < 1000) : sm_at C (some (n, f)) 216 1026 ls (.int (nI k) :: .ref 1048578 :: st) N I L P = sm_at C (some (n, f)) 216 1027 ls (.int (f k) :: st) N I L P := st_ialx b216 dL_law_1026 h h1 h2
theorem s216_1027 : sm_at C X 216 1027 [some (.ref a), l1, l2, l3] st N I L P = sm_at C X 216 1028 [some (.ref a), l1, l2, l3] (.ref a :: st) N I L P := st_go b216 dL_law_1027 (by decide) rfl
theorem s216_1028 : sm_at C X 216 1028 [l0, l1, l2, some (.int x0)] st N I L P = sm_at C X 216 1029 [l0, l1, l2, some (.int x0)] (.int x0 :: st) N I L P := st_go b216 dL_law_1028 (by decide) rfl
theorem s216_1029 : sm_at C X 216 1029 ls st N I L P = sm_at C X 216 1030 ls (.int (nI 2) :: st) N I L P := st_go b216 dL_law_1029 (by decide) rfl
theorem s216_1030 : sm_at C X 216 1030 ls (.int x0 :: .int x1 :: st) N I L P = sm_at C X 216 1031 ls (.int (x1 + x0) :: st) N I L P := st_go b216 dL_law_1030 (by decide) rfl
theorem s216_1031 (h : a < N) (h1 : k < sm_al a) : sm_at C X 216 1031 ls (.int (nI k) :: .ref a :: st) N I L P = sm_at C X 216 1032 ls (.int (I a k) :: st) N I L P := st_iald b216 dL_law_1031 h h1
theorem s216_1031x (h : N ≤ 1000) (h1 : k < n) (h2 : n < 1000) : sm_at C (some (n, f)) 216 1031 ls (.int (nI k) :: .ref 1048578 :: st) N I L P = sm_at C (some (n, f)) 216 1032 ls (.int (f k) :: st) N I L P := st_ialx b216 dL_law_1031 h h1 h2
theorem s216_1032 : sm_at C X 216 1032 [some (.ref a), l1, l2, l3] st N I L P = sm_at C X 216 1033 [some (.ref a), l1, l2, l3] (.ref a :: st) N I L P := st_go b216 dL_law_1032 (by decide) rfl
theorem s216_1033 : sm_at C X 216 1033 [l0, l1, l2, some (.int x0)] st N I L P = sm_at C X 216 1034 [l0, l1, l2, some (.int x0)] (.int x0 :: st) N I L P := st_go b216 dL_law_1033 (by decide) rfl
theorem s216_1034 : sm_at C X 216 1034 ls st N I L P = sm_at C X 216 1035 ls (.int (nI 3) :: st) N I L P := st_go b216 dL_law_1034 (by decide) rfl
theorem s216_1035 : sm_at C X 216 1035 ls (.int x0 :: .int x1 :: st) N I L P = sm_at C X 216 1036 ls (.int (x1 + x0) :: st) N I L P := st_go b216 dL_law_1035 (by decide) rfl
theorem s216_1036 (h : a < N) (h1 : k < sm_al a) : sm_at C X 216 1036 ls (.int (nI k) :: .ref a :: st) N I L P = sm_at C X 216 1037 ls (.int (I a k) :: st) N I L P := st_iald b216 dL_law_1036 h h1
theorem s216_1036x (h : N ≤ 1000) (h1 : k < n) (h2 : n < 1000) : sm_at C (some (n, f)) 216 1036 ls (.int (nI k) :: .ref 1048578 :: st) N I L P = sm_at C (some (n, f)) 216 1037 ls (.int (f k) :: st) N I L P := st_ialx b216 dL_law_1036 h h1 h2
theorem s216_1037 (h : a < N) (h1 : sm_lay a = .inl 11) : sm_at C X 216 1037 ls [w3, w2, w1, .ref a, v0] N I L P = sm_af C X 216 1040 ls [v0] (C 204 [.ref a, w1, w2, w3] N I L P) := st_virt b216 dL_law_1037 (n := 4) (rest := [v0]) rfl rfl rfl rfl rfl rfl rfl h h1
theorem s216_1040 : sm_at C X 216 1040 ls (.long z0 :: .long z1 :: st) N I L P = sm_at C X 216 1041 ls (.int (lg_cmp z1 z0) :: st) N I L P := st_go b216 dL_law_1040 (by decide) rfl
theorem s216_1041 : sm_at C X 216 1041 ls (.int x0 :: st) N I L P = if x0 = 0 then sm_at C X 216 1109 ls st N I L P else sm_at C X 216 1044 ls st N I L P := st_br b216 dL_law_1041 (by decide) rfl
theorem s216_1044 : sm_at C X 216 1044 ls st N I L P = sm_at C X 216 1045 ls (.int (nI 0) :: st) N I L P := st_go b216 dL_law_1044 (by decide) rfl
theorem s216_1045 (h : x0 = 0 ∨ x0 = 1) : sm_at C X 216 1045 ls [.int x0] N I L P = some (some (.int x0), N, I, L, P) := st_zret b216 dL_law_1045 rfl h
theorem s216_1046 : sm_at C X 216 1046 [l0, some (.ref a), l2, l3] st N I L P = sm_at C X 216 1047 [l0, some (.ref a), l2, l3] (.ref a :: st) N I L P := st_go b216 dL_law_1046 (by decide) rfl
theorem s216_1046n : sm_at C X 216 1046 [l0, some .null, l2, l3] st N I L P = sm_at C X 216 1047 [l0, some .null, l2, l3] (.null :: st) N I L P := st_go b216 dL_law_1046 (by decide) rfl
theorem s216_1047 (h : a < N) (h1 : sm_lay a = .inl 10) : sm_at C X 216 1047 ls [.ref a] N I L P = sm_af C X 216 1050 ls [] (C 121 [.ref a] N I L P) := st_virt b216 dL_law_1047 (n := 1) (rest := []) rfl rfl rfl rfl rfl rfl rfl h h1
theorem s216_1050 : sm_at C X 216 1050 [l0, l1, some (.ref a), l3] st N I L P = sm_at C X 216 1051 [l0, l1, some (.ref a), l3] (.ref a :: st) N I L P := st_go b216 dL_law_1050 (by decide) rfl
theorem s216_1050n : sm_at C X 216 1050 [l0, l1, some .null, l3] st N I L P = sm_at C X 216 1051 [l0, l1, some .null, l3] (.null :: st) N I L P := st_go b216 dL_law_1050 (by decide) rfl
theorem s216_1051 (h : a < N) (h1 : sm_lay a = .inl 11) : sm_at C X 216 1051 ls [.ref a, v0] N I L P = sm_af C X 216 1054 ls [v0] (C 205 [.ref a] N I L P) := st_virt b216 dL_law_1051 (n := 1) (rest := [v0]) rfl rfl rfl rfl rfl rfl rfl h h1
theorem s216_1054 : sm_at C X 216 1054 ls (.int x0 :: .int x1 :: st) N I L P = if x1 = x0 then sm_at C X 216 1109 ls st N I L P else sm_at C X 216 1057 ls st N I L P := st_br b216 dL_law_1054 (by decide) rfl
theorem s216_1057 : sm_at C X 216 1057 ls st N I L P = sm_at C X 216 1058 ls (.int (nI 0) :: st) N I L P := st_go b216 dL_law_1057 (by decide) rfl
theorem s216_1058 (h : x0 = 0 ∨ x0 = 1) : sm_at C X 216 1058 ls [.int x0] N I L P = some (some (.int x0), N, I, L, P) := st_zret b216 dL_law_1058 rfl h
theorem s216_1059 : sm_at C X 216 1059 [l0, some (.ref a), l2, l3] st N I L P = sm_at C X 216 1060 [l0, some (.ref a), l2, l3] (.ref a :: st) N I L P := st_go b216 dL_law_1059 (by decide) rfl
theorem s216_1059n : sm_at C X 216 1059 [l0, some .null, l2, l3] st N I L P = sm_at C X 216 1060 [l0, some .null, l2, l3] (.null :: st) N I L P := st_go b216 dL_law_1059 (by decide) rfl
theorem s216_1060 (h : a < N) (h1 : sm_lay a = .inl 10) : sm_at C X 216 1060 ls [.ref a] N I L P = sm_af C X 216 1063 ls [] (C 122 [.ref a] N I L P) := st_virt b216 dL_law_1060 (n := 1) (rest := []) rfl rfl rfl rfl rfl rfl rfl h h1
theorem s216_1063 : sm_at C X 216 1063 [l0, l1, some (.ref a), l3] st N I L P = sm_at C X 216 1064 [l0, l1, some (.ref a), l3] (.ref a :: st) N I L P := st_go b216 dL_law_1063 (by decide) rfl
theorem s216_1063n : sm_at C X 216 1063 [l0, l1, some .null, l3] st N I L P = sm_at C X 216 1064 [l0, l1, some .null, l3] (.null :: st) N I L P := st_go b216 dL_law_1063 (by decide) rfl
theorem s216_1064 (h : a < N) (h1 : sm_lay a = .inl 11) : sm_at C X 216 1064 ls [.ref a, v0] N I L P = sm_af C X 216 1067 ls [v0] (C 206 [.ref a] N I L P) := st_virt b216 dL_law_1064 (n := 1) (rest := [v0]) rfl rfl rfl rfl rfl rfl rfl h h1
theorem s216_1067 : sm_at C X 216 1067 ls (.int x0 :: .int x1 :: st) N I L P = if x1 = x0 then sm_at C X 216 1109 ls st N I L P else sm_at C X 216 1070 ls st N I L P := st_br b216 dL_law_1067 (by decide) rfl
theorem s216_1070 : sm_at C X 216 1070 ls st N I L P = sm_at C X 216 1071 ls (.int (nI 0) :: st) N I L P := st_go b216 dL_law_1070 (by decide) rfl
theorem s216_1071 (h : x0 = 0 ∨ x0 = 1) : sm_at C X 216 1071 ls [.int x0] N I L P = some (some (.int x0), N, I, L, P) := st_zret b216 dL_law_1071 rfl h
theorem s216_1072 : sm_at C X 216 1072 [l0, some (.ref a), l2, l3] st N I L P = sm_at C X 216 1073 [l0, some (.ref a), l2, l3] (.ref a :: st) N I L P := st_go b216 dL_law_1072 (by decide) rfl
theorem s216_1072n : sm_at C X 216 1072 [l0, some .null, l2, l3] st N I L P = sm_at C X 216 1073 [l0, some .null, l2, l3] (.null :: st) N I L P := st_go b216 dL_law_1072 (by decide) rfl
theorem s216_1073 : sm_at C X 216 1073 [some (.ref a), l1, l2, l3] st N I L P = sm_at C X 216 1074 [some (.ref a), l1, l2, l3] (.ref a :: st) N I L P := st_go b216 dL_law_1073 (by decide) rfl
theorem s216_1074 : sm_at C X 216 1074 [l0, l1, l2, some (.int x0)] st N I L P = sm_at C X 216 1075 [l0, l1, l2, some (.int x0)] (.int x0 :: st) N I L P := st_go b216 dL_law_1074 (by decide) rfl
theorem s216_1075 : sm_at C X 216 1075 ls st N I L P = sm_at C X 216 1076 ls (.int (nI 1) :: st) N I L P := st_go b216 dL_law_1075 (by decide) rfl
theorem s216_1076 : sm_at C X 216 1076 ls (.int x0 :: .int x1 :: st) N I L P = sm_at C X 216 1077 ls (.int (x1 + x0) :: st) N I L P := st_go b216 dL_law_1076 (by decide) rfl
theorem s216_1077 (h : a < N) (h1 : k < sm_al a) : sm_at C X 216 1077 ls (.int (nI k) :: .ref a :: st) N I L P = sm_at C X 216 1078 ls (.int (I a k) :: st) N I L P := st_iald b216 dL_law_1077 h h1
theorem s216_1077x (h : N ≤ 1000) (h1 : k < n) (h2 : n < 1000) : sm_at C (some (n, f)) 216 1077 ls (.int (nI k) :: .ref 1048578 :: st) N I L P = sm_at C (some (n, f)) 216 1078 ls (.int (f k) :: st) N I L P := st_ialx b216 dL_law_1077 h h1 h2
theorem s216_1078 (h : a < N) (h1 : sm_lay a = .inl 10) : sm_at C X 216 1078 ls [w1, .ref a] N I L P = sm_af C X 216 1081 ls [] (C 123 [.ref a, w1] N I L P) := st_virt b216 dL_law_1078 (n := 2) (rest := []) rfl rfl rfl rfl rfl rfl rfl h h1
theorem s216_1081 : sm_at C X 216 1081 [l0, l1, some (.ref a), l3] st N I L P = sm_at C X 216 1082 [l0, l1, some (.ref a), l3] (.ref a :: st) N I L P := st_go b216 dL_law_1081 (by decide) rfl
theorem s216_1081n : sm_at C X 216 1081 [l0, l1, some .null, l3] st N I L P = sm_at C X 216 1082 [l0, l1, some .null, l3] (.null :: st) N I L P := st_go b216 dL_law_1081 (by decide) rfl
theorem s216_1082 : sm_at C X 216 1082 [some (.ref a), l1, l2, l3] st N I L P = sm_at C X 216 1083 [some (.ref a), l1, l2, l3] (.ref a :: st) N I L P := st_go b216 dL_law_1082 (by decide) rfl
theorem s216_1083 : sm_at C X 216 1083 [l0, l1, l2, some (.int x0)] st N I L P = sm_at C X 216 1084 [l0, l1, l2, some (.int x0)] (.int x0 :: st) N I L P := st_go b216 dL_law_1083 (by decide) rfl
theorem s216_1084 : sm_at C X 216 1084 ls st N I L P = sm_at C X 216 1085 ls (.int (nI 1) :: st) N I L P := st_go b216 dL_law_1084 (by decide) rfl
theorem s216_1085 : sm_at C X 216 1085 ls (.int x0 :: .int x1 :: st) N I L P = sm_at C X 216 1086 ls (.int (x1 + x0) :: st) N I L P := st_go b216 dL_law_1085 (by decide) rfl
theorem s216_1086 (h : a < N) (h1 : k < sm_al a) : sm_at C X 216 1086 ls (.int (nI k) :: .ref a :: st) N I L P = sm_at C X 216 1087 ls (.int (I a k) :: st) N I L P := st_iald b216 dL_law_1086 h h1
theorem s216_1086x (h : N ≤ 1000) (h1 : k < n) (h2 : n < 1000) : sm_at C (some (n, f)) 216 1086 ls (.int (nI k) :: .ref 1048578 :: st) N I L P = sm_at C (some (n, f)) 216 1087 ls (.int (f k) :: st) N I L P := st_ialx b216 dL_law_1086 h h1 h2
theorem s216_1087 (h : a < N) (h1 : sm_lay a = .inl 11) : sm_at C X 216 1087 ls [w1, .ref a, v0] N I L P = sm_af C X 216 1090 ls [v0] (C 209 [.ref a, w1] N I L P) := st_virt b216 dL_law_1087 (n := 2) (rest := [v0]) rfl rfl rfl rfl rfl rfl rfl h h1
theorem s216_1090 : sm_at C X 216 1090 ls (.int x0 :: .int x1 :: st) N I L P = if x1 = x0 then sm_at C X 216 1109 ls st N I L P else sm_at C X 216 1093 ls st N I L P := st_br b216 dL_law_1090 (by decide) rfl
theorem s216_1093 : sm_at C X 216 1093 ls st N I L P = sm_at C X 216 1094 ls (.int (nI 0) :: st) N I L P := st_go b216 dL_law_1093 (by decide) rfl
theorem s216_1094 (h : x0 = 0 ∨ x0 = 1) : sm_at C X 216 1094 ls [.int x0] N I L P = some (some (.int x0), N, I, L, P) := st_zret b216 dL_law_1094 rfl h
theorem s216_1095 : sm_at C X 216 1095 [l0, some (.ref a), l2, l3] st N I L P = sm_at C X 216 1096 [l0, some (.ref a), l2, l3] (.ref a :: st) N I L P := st_go b216 dL_law_1095 (by decide) rfl
theorem s216_1095n : sm_at C X 216 1095 [l0, some .null, l2, l3] st N I L P = sm_at C X 216 1096 [l0, some .null, l2, l3] (.null :: st) N I L P := st_go b216 dL_law_1095 (by decide) rfl
theorem s216_1096 (h : a < N) (h1 : sm_lay a = .inl 10) : sm_at C X 216 1096 ls [.ref a] N I L P = sm_af C X 216 1099 ls [] (C 124 [.ref a] N I L P) := st_virt b216 dL_law_1096 (n := 1) (rest := []) rfl rfl rfl rfl rfl rfl rfl h h1
theorem s216_1099 : sm_at C X 216 1099 [l0, l1, some (.ref a), l3] st N I L P = sm_at C X 216 1100 [l0, l1, some (.ref a), l3] (.ref a :: st) N I L P := st_go b216 dL_law_1099 (by decide) rfl
theorem s216_1099n : sm_at C X 216 1099 [l0, l1, some .null, l3] st N I L P = sm_at C X 216 1100 [l0, l1, some .null, l3] (.null :: st) N I L P := st_go b216 dL_law_1099 (by decide) rfl
theorem s216_1100 (h : a < N) (h1 : sm_lay a = .inl 11) : sm_at C X 216 1100 ls [.ref a, v0] N I L P = sm_af C X 216 1103 ls [v0] (C 212 [.ref a] N I L P) := st_virt b216 dL_law_1100 (n := 1) (rest := [v0]) rfl rfl rfl rfl rfl rfl rfl h h1
theorem s216_1103 : sm_at C X 216 1103 ls (.long z0 :: .long z1 :: st) N I L P = sm_at C X 216 1104 ls (.int (lg_cmp z1 z0) :: st) N I L P := st_go b216 dL_law_1103 (by decide) rfl
theorem s216_1104 : sm_at C X 216 1104 ls (.int x0 :: st) N I L P = if x0 = 0 then sm_at C X 216 1109 ls st N I L P else sm_at C X 216 1107 ls st N I L P := st_br b216 dL_law_1104 (by decide) rfl
theorem s216_1107 : sm_at C X 216 1107 ls st N I L P = sm_at C X 216 1108 ls (.int (nI 0) :: st) N I L P := st_go b216 dL_law_1107 (by decide) rfl
theorem s216_1108 (h : x0 = 0 ∨ x0 = 1) : sm_at C X 216 1108 ls [.int x0] N I L P = some (some (.int x0), N, I, L, P) := st_zret b216 dL_law_1108 rfl h
theorem s216_1109 : sm_at C X 216 1109 [l0, l1, l2, some (.int x0)] st N I L P = sm_at C X 216 1112 [l0, l1, sm_cl l2, some (.int (x0 + (nI 5)))] st N I L P := st_go b216 dL_law_1109 (by decide) rfl
theorem s216_1112 : sm_at C X 216 1112 ls st N I L P = sm_at C X 216 18 ls st N I L P := st_go b216 dL_law_1112 (by decide) rfl
theorem s216_1115 : sm_at C X 216 1115 ls st N I L P = sm_at C X 216 1116 ls (.int (nI 1) :: st) N I L P := st_go b216 dL_law_1115 (by decide) rfl
theorem s216_1116 (h : x0 = 0 ∨ x0 = 1) : sm_at C X 216 1116 ls [.int x0] N I L P = some (some (.int x0), N, I, L, P) := st_zret b216 dL_law_1116 rfl h
end STL
