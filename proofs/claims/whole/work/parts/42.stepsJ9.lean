section STJ9
variable {C : sm_Cf} {X : sm_Xs} {ls : List (Option Value)} {st : List Value} {N : Nat} {I : sm_Im} {L : sm_Lm} {P : sm_Pm} {x0 x1 x2 : Int32} {z0 z1 : Int64} {a a2 k n : Nat} {f : Nat → Int32} {w0 w1 w2 w3 w4 w5 w6 v0 v1 v2 v3 v4 : Value} {l0 l1 l2 l3 l4 l5 l6 l7 l8 l9 l10 l11 l12 l13 l14 l15 l16 : Option Value}
theorem b214 : sm_b 214 = cJ9_min_7cf53 := rfl
theorem s214_0 : sm_at C X 214 0 [some (.int x0), l1] st N I L P = sm_at C X 214 1 [some (.int x0), l1] (.int x0 :: st) N I L P := st_go b214 dJ9_min_7cf53_0 (by decide) rfl
theorem s214_1 : sm_at C X 214 1 [l0, some (.int x0)] st N I L P = sm_at C X 214 2 [l0, some (.int x0)] (.int x0 :: st) N I L P := st_go b214 dJ9_min_7cf53_1 (by decide) rfl
theorem s214_2 : sm_at C X 214 2 ls (.int x0 :: .int x1 :: st) N I L P = if x0 < x1 then sm_at C X 214 9 ls st N I L P else sm_at C X 214 5 ls st N I L P := st_br b214 dJ9_min_7cf53_2 (by decide) rfl
theorem s214_5 : sm_at C X 214 5 [some (.int x0), l1] st N I L P = sm_at C X 214 6 [some (.int x0), l1] (.int x0 :: st) N I L P := st_go b214 dJ9_min_7cf53_5 (by decide) rfl
theorem s214_6 : sm_at C X 214 6 ls st N I L P = sm_at C X 214 10 ls st N I L P := st_go b214 dJ9_min_7cf53_6 (by decide) rfl
theorem s214_9 : sm_at C X 214 9 [l0, some (.int x0)] st N I L P = sm_at C X 214 10 [l0, some (.int x0)] (.int x0 :: st) N I L P := st_go b214 dJ9_min_7cf53_9 (by decide) rfl
theorem s214_10 : sm_at C X 214 10 ls [.int x0] N I L P = some (some (.int x0), N, I, L, P) := st_iret b214 dJ9_min_7cf53_10 rfl
end STJ9
