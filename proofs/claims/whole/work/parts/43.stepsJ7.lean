section STJ7
variable {C : sm_Cf} {X : sm_Xs} {ls : List (Option Value)} {st : List Value} {N : Nat} {I : sm_Im} {L : sm_Lm} {P : sm_Pm} {x0 x1 x2 : Int32} {z0 z1 : Int64} {a a2 k n : Nat} {f : Nat → Int32} {w0 w1 w2 w3 w4 w5 w6 v0 v1 v2 v3 v4 : Value} {l0 l1 l2 l3 l4 l5 l6 l7 l8 l9 l10 l11 l12 l13 l14 l15 l16 : Option Value}
theorem b215 : sm_b 215 = cJ7_fill_53178 := rfl
theorem s215_0 : sm_at C X 215 0 ls st N I L P = sm_at C X 215 1 ls (.int (nI 0) :: st) N I L P := st_go b215 dJ7_fill_53178_0 (by decide) rfl
theorem s215_1 : sm_at C X 215 1 [l0, l1, l2, l3] (.int x0 :: st) N I L P = sm_at C X 215 2 [l0, sm_cl l1, some (.int x0), l3] st N I L P := st_go b215 dJ7_fill_53178_1 (by decide) rfl
theorem s215_2 : sm_at C X 215 2 [some (.ref a), l1, l2, l3] st N I L P = sm_at C X 215 3 [some (.ref a), l1, l2, l3] (.ref a :: st) N I L P := st_go b215 dJ7_fill_53178_2 (by decide) rfl
theorem s215_3 (h : a < N) (h1 : sm_lay a = .inr (.inl k)) : sm_at C X 215 3 ls (.ref a :: st) N I L P = sm_at C X 215 4 ls (.int (nI k) :: st) N I L P := st_alen b215 dJ7_fill_53178_3 h h1
theorem s215_4 : sm_at C X 215 4 [l0, l1, l2, l3] (.int x0 :: st) N I L P = sm_at C X 215 5 [l0, l1, sm_cl l2, some (.int x0)] st N I L P := st_go b215 dJ7_fill_53178_4 (by decide) rfl
theorem s215_5 : sm_at C X 215 5 [l0, l1, some (.int x0), l3] st N I L P = sm_at C X 215 6 [l0, l1, some (.int x0), l3] (.int x0 :: st) N I L P := st_go b215 dJ7_fill_53178_5 (by decide) rfl
theorem s215_6 : sm_at C X 215 6 [l0, l1, l2, some (.int x0)] st N I L P = sm_at C X 215 7 [l0, l1, l2, some (.int x0)] (.int x0 :: st) N I L P := st_go b215 dJ7_fill_53178_6 (by decide) rfl
theorem s215_7 : sm_at C X 215 7 ls (.int x0 :: .int x1 :: st) N I L P = if x0 ≤ x1 then sm_at C X 215 20 ls st N I L P else sm_at C X 215 10 ls st N I L P := st_br b215 dJ7_fill_53178_7 (by decide) rfl
theorem s215_10 : sm_at C X 215 10 [some (.ref a), l1, l2, l3] st N I L P = sm_at C X 215 11 [some (.ref a), l1, l2, l3] (.ref a :: st) N I L P := st_go b215 dJ7_fill_53178_10 (by decide) rfl
theorem s215_11 : sm_at C X 215 11 [l0, l1, some (.int x0), l3] st N I L P = sm_at C X 215 12 [l0, l1, some (.int x0), l3] (.int x0 :: st) N I L P := st_go b215 dJ7_fill_53178_11 (by decide) rfl
theorem s215_12 : sm_at C X 215 12 [l0, some (.int x0), l2, l3] st N I L P = sm_at C X 215 13 [l0, some (.int x0), l2, l3] (.int x0 :: st) N I L P := st_go b215 dJ7_fill_53178_12 (by decide) rfl
theorem s215_13 (h : a < N) (h1 : k < sm_al a) : sm_at C X 215 13 ls (.int x0 :: .int (nI k) :: .ref a :: st) N I L P = sm_at C X 215 14 ls st N (sm_up I a k x0) L P := st_iast b215 dJ7_fill_53178_13 h h1
theorem s215_14 : sm_at C X 215 14 [l0, l1, some (.int x0), l3] st N I L P = sm_at C X 215 17 [l0, sm_cl l1, some (.int (x0 + (nI 1))), l3] st N I L P := st_go b215 dJ7_fill_53178_14 (by decide) rfl
theorem s215_17 : sm_at C X 215 17 ls st N I L P = sm_at C X 215 5 ls st N I L P := st_go b215 dJ7_fill_53178_17 (by decide) rfl
theorem s215_20 : sm_at C X 215 20 ls [] N I L P = some (none, N, I, L, P) := st_ret b215 dJ7_fill_53178_20 (by decide) rfl
end STJ7
