section AL
variable {C : sm_Cf} {X : sm_Xs} {ls : List (Option Value)} {st : List Value} {N : Nat} {I : sm_Im} {L : sm_Lm} {P : sm_Pm} {x0 x1 x2 : Int32} {z0 z1 : Int64} {a a2 k n : Nat} {f : Nat → Int32} {w0 w1 w2 w3 w4 w5 w6 v0 v1 v2 v3 v4 : Value} {l0 l1 l2 l3 l4 l5 l6 l7 l8 l9 l10 l11 l12 l13 l14 l15 l16 : Option Value}
theorem s40_9a (h : a < N) (h1 : 0 < sm_al a) : sm_at C X 40 9 ls (.ref a :: st) N I L P = sm_at C X 40 10 ls (.int (nI (sm_al a)) :: st) N I L P := st_alen b40 dX4_roads_9 h (sm_al_lay h1)
theorem s70_7a (h : a < N) (h1 : 0 < sm_al a) : sm_at C X 70 7 ls (.ref a :: st) N I L P = sm_at C X 70 8 ls (.int (nI (sm_al a)) :: st) N I L P := st_alen b70 dX7_search_7 h (sm_al_lay h1)
theorem s72_24a (h : a < N) (h1 : 0 < sm_al a) : sm_at C X 72 24 ls (.ref a :: st) N I L P = sm_at C X 72 25 ls (.int (nI (sm_al a)) :: st) N I L P := st_alen b72 dX7_choose_24 h (sm_al_lay h1)
theorem s82_19a (h : a < N) (h1 : 0 < sm_al a) : sm_at C X 82 19 ls (.ref a :: st) N I L P = sm_at C X 82 20 ls (.int (nI (sm_al a)) :: st) N I L P := st_alen b82 dX8_talliedFor_19 h (sm_al_lay h1)
theorem s90_7a (h : a < N) (h1 : 0 < sm_al a) : sm_at C X 90 7 ls (.ref a :: st) N I L P = sm_at C X 90 8 ls (.int (nI (sm_al a)) :: st) N I L P := st_alen b90 dX9_areWithin_7 h (sm_al_lay h1)
theorem s215_3a (h : a < N) (h1 : 0 < sm_al a) : sm_at C X 215 3 ls (.ref a :: st) N I L P = sm_at C X 215 4 ls (.int (nI (sm_al a)) :: st) N I L P := st_alen b215 dJ7_fill_53178_3 h (sm_al_lay h1)
end AL
