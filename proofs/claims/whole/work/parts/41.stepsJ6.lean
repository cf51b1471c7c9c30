section STJ6
variable {C : sm_Cf} {X : sm_Xs} {ls : List (Option Value)} {st : List Value} {N : Nat} {I : sm_Im} {L : sm_Lm} {P : sm_Pm} {x0 x1 x2 : Int32} {z0 z1 : Int64} {a a2 k n : Nat} {f : Nat → Int32} {w0 w1 w2 w3 w4 w5 w6 v0 v1 v2 v3 v4 : Value} {l0 l1 l2 l3 l4 l5 l6 l7 l8 l9 l10 l11 l12 l13 l14 l15 l16 : Option Value}
theorem b213 : sm_b 213 = cJ6_bitCount_0f7a4 := rfl
theorem s213_0 : sm_at C X 213 0 [some (.int x0)] st N I L P = sm_at C X 213 1 [some (.int x0)] (.int x0 :: st) N I L P := st_go b213 dJ6_bitCount_0f7a4_0 (by decide) rfl
theorem s213_1 : sm_at C X 213 1 [some (.int x0)] st N I L P = sm_at C X 213 2 [some (.int x0)] (.int x0 :: st) N I L P := st_go b213 dJ6_bitCount_0f7a4_1 (by decide) rfl
theorem s213_2 : sm_at C X 213 2 ls st N I L P = sm_at C X 213 3 ls (.int (nI 1) :: st) N I L P := st_go b213 dJ6_bitCount_0f7a4_2 (by decide) rfl
theorem s213_3 : sm_at C X 213 3 ls (.int x0 :: .int x1 :: st) N I L P = sm_at C X 213 4 ls (.int (x1.toUInt32 >>> (x0.toUInt32 &&& Int32.toUInt32 31)).toInt32 :: st) N I L P := st_go b213 dJ6_bitCount_0f7a4_3 (by decide) rfl
theorem s213_4 : sm_at C X 213 4 ls st N I L P = sm_at C X 213 7 ls (.int (nI 1431655765) :: st) N I L P := st_go b213 dJ6_bitCount_0f7a4_4 (by decide) rfl
theorem s213_7 : sm_at C X 213 7 ls (.int x0 :: .int x1 :: st) N I L P = sm_at C X 213 8 ls (.int (x1 &&& x0) :: st) N I L P := st_go b213 dJ6_bitCount_0f7a4_7 (by decide) rfl
theorem s213_8 : sm_at C X 213 8 ls (.int x0 :: .int x1 :: st) N I L P = sm_at C X 213 9 ls (.int (x1 - x0) :: st) N I L P := st_go b213 dJ6_bitCount_0f7a4_8 (by decide) rfl
theorem s213_9 : sm_at C X 213 9 [l0] (.int x0 :: st) N I L P = sm_at C X 213 10 [some (.int x0)] st N I L P := st_go b213 dJ6_bitCount_0f7a4_9 (by decide) rfl
theorem s213_10 : sm_at C X 213 10 [some (.int x0)] st N I L P = sm_at C X 213 11 [some (.int x0)] (.int x0 :: st) N I L P := st_go b213 dJ6_bitCount_0f7a4_10 (by decide) rfl
theorem s213_11 : sm_at C X 213 11 ls st N I L P = sm_at C X 213 14 ls (.int (nI 858993459) :: st) N I L P := st_go b213 dJ6_bitCount_0f7a4_11 (by decide) rfl
theorem s213_14 : sm_at C X 213 14 ls (.int x0 :: .int x1 :: st) N I L P = sm_at C X 213 15 ls (.int (x1 &&& x0) :: st) N I L P := st_go b213 dJ6_bitCount_0f7a4_14 (by decide) rfl
theorem s213_15 : sm_at C X 213 15 [some (.int x0)] st N I L P = sm_at C X 213 16 [some (.int x0)] (.int x0 :: st) N I L P := st_go b213 dJ6_bitCount_0f7a4_15 (by decide) rfl
theorem s213_16 : sm_at C X 213 16 ls st N I L P = sm_at C X 213 17 ls (.int (nI 2) :: st) N I L P := st_go b213 dJ6_bitCount_0f7a4_16 (by decide) rfl
theorem s213_17 : sm_at C X 213 17 ls (.int x0 :: .int x1 :: st) N I L P = sm_at C X 213 18 ls (.int (x1.toUInt32 >>> (x0.toUInt32 &&& Int32.toUInt32 31)).toInt32 :: st) N I L P := st_go b213 dJ6_bitCount_0f7a4_17 (by decide) rfl
theorem s213_18 : sm_at C X 213 18 ls st N I L P = sm_at C X 213 21 ls (.int (nI 858993459) :: st) N I L P := st_go b213 dJ6_bitCount_0f7a4_18 (by decide) rfl
theorem s213_21 : sm_at C X 213 21 ls (.int x0 :: .int x1 :: st) N I L P = sm_at C X 213 22 ls (.int (x1 &&& x0) :: st) N I L P := st_go b213 dJ6_bitCount_0f7a4_21 (by decide) rfl
theorem s213_22 : sm_at C X 213 22 ls (.int x0 :: .int x1 :: st) N I L P = sm_at C X 213 23 ls (.int (x1 + x0) :: st) N I L P := st_go b213 dJ6_bitCount_0f7a4_22 (by decide) rfl
theorem s213_23 : sm_at C X 213 23 [l0] (.int x0 :: st) N I L P = sm_at C X 213 24 [some (.int x0)] st N I L P := st_go b213 dJ6_bitCount_0f7a4_23 (by decide) rfl
theorem s213_24 : sm_at C X 213 24 [some (.int x0)] st N I L P = sm_at C X 213 25 [some (.int x0)] (.int x0 :: st) N I L P := st_go b213 dJ6_bitCount_0f7a4_24 (by decide) rfl
theorem s213_25 : sm_at C X 213 25 [some (.int x0)] st N I L P = sm_at C X 213 26 [some (.int x0)] (.int x0 :: st) N I L P := st_go b213 dJ6_bitCount_0f7a4_25 (by decide) rfl
theorem s213_26 : sm_at C X 213 26 ls st N I L P = sm_at C X 213 27 ls (.int (nI 4) :: st) N I L P := st_go b213 dJ6_bitCount_0f7a4_26 (by decide) rfl
theorem s213_27 : sm_at C X 213 27 ls (.int x0 :: .int x1 :: st) N I L P = sm_at C X 213 28 ls (.int (x1.toUInt32 >>> (x0.toUInt32 &&& Int32.toUInt32 31)).toInt32 :: st) N I L P := st_go b213 dJ6_bitCount_0f7a4_27 (by decide) rfl
theorem s213_28 : sm_at C X 213 28 ls (.int x0 :: .int x1 :: st) N I L P = sm_at C X 213 29 ls (.int (x1 + x0) :: st) N I L P := st_go b213 dJ6_bitCount_0f7a4_28 (by decide) rfl
theorem s213_29 : sm_at C X 213 29 ls st N I L P = sm_at C X 213 32 ls (.int (nI 252645135) :: st) N I L P := st_go b213 dJ6_bitCount_0f7a4_29 (by decide) rfl
theorem s213_32 : sm_at C X 213 32 ls (.int x0 :: .int x1 :: st) N I L P = sm_at C X 213 33 ls (.int (x1 &&& x0) :: st) N I L P := st_go b213 dJ6_bitCount_0f7a4_32 (by decide) rfl
theorem s213_33 : sm_at C X 213 33 [l0] (.int x0 :: st) N I L P = sm_at C X 213 34 [some (.int x0)] st N I L P := st_go b213 dJ6_bitCount_0f7a4_33 (by decide) rfl
theorem s213_34 : sm_at C X 213 34 [some (.int x0)] st N I L P = sm_at C X 213 35 [some (.int x0)] (.int x0 :: st) N I L P := st_go b213 dJ6_bitCount_0f7a4_34 (by decide) rfl
theorem s213_35 : sm_at C X 213 35 [some (.int x0)] st N I L P = sm_at C X 213 36 [some (.int x0)] (.int x0 :: st) N I L P := st_go b213 dJ6_bitCount_0f7a4_35 (by decide) rfl
theorem s213_36 : sm_at C X 213 36 ls st N I L P = sm_at C X 213 38 ls (.int (nI 8) :: st) N I L P := st_go b213 dJ6_bitCount_0f7a4_36 (by decide) rfl
theorem s213_38 : sm_at C X 213 38 ls (.int x0 :: .int x1 :: st) N I L P = sm_at C X 213 39 ls (.int (x1.toUInt32 >>> (x0.toUInt32 &&& Int32.toUInt32 31)).toInt32 :: st) N I L P := st_go b213 dJ6_bitCount_0f7a4_38 (by decide) rfl
theorem s213_39 : sm_at C X 213 39 ls (.int x0 :: .int x1 :: st) N I L P = sm_at C X 213 40 ls (.int (x1 + x0) :: st) N I L P := st_go b213 dJ6_bitCount_0f7a4_39 (by decide) rfl
theorem s213_40 : sm_at C X 213 40 [l0] (.int x0 :: st) N I L P = sm_at C X 213 41 [some (.int x0)] st N I L P := st_go b213 dJ6_bitCount_0f7a4_40 (by decide) rfl
theorem s213_41 : sm_at C X 213 41 [some (.int x0)] st N I L P = sm_at C X 213 42 [some (.int x0)] (.int x0 :: st) N I L P := st_go b213 dJ6_bitCount_0f7a4_41 (by decide) rfl
theorem s213_42 : sm_at C X 213 42 [some (.int x0)] st N I L P = sm_at C X 213 43 [some (.int x0)] (.int x0 :: st) N I L P := st_go b213 dJ6_bitCount_0f7a4_42 (by decide) rfl
theorem s213_43 : sm_at C X 213 43 ls st N I L P = sm_at C X 213 45 ls (.int (nI 16) :: st) N I L P := st_go b213 dJ6_bitCount_0f7a4_43 (by decide) rfl
theorem s213_45 : sm_at C X 213 45 ls (.int x0 :: .int x1 :: st) N I L P = sm_at C X 213 46 ls (.int (x1.toUInt32 >>> (x0.toUInt32 &&& Int32.toUInt32 31)).toInt32 :: st) N I L P := st_go b213 dJ6_bitCount_0f7a4_45 (by decide) rfl
theorem s213_46 : sm_at C X 213 46 ls (.int x0 :: .int x1 :: st) N I L P = sm_at C X 213 47 ls (.int (x1 + x0) :: st) N I L P := st_go b213 dJ6_bitCount_0f7a4_46 (by decide) rfl
theorem s213_47 : sm_at C X 213 47 [l0] (.int x0 :: st) N I L P = sm_at C X 213 48 [some (.int x0)] st N I L P := st_go b213 dJ6_bitCount_0f7a4_47 (by decide) rfl
theorem s213_48 : sm_at C X 213 48 [some (.int x0)] st N I L P = sm_at C X 213 49 [some (.int x0)] (.int x0 :: st) N I L P := st_go b213 dJ6_bitCount_0f7a4_48 (by decide) rfl
theorem s213_49 : sm_at C X 213 49 ls st N I L P = sm_at C X 213 51 ls (.int (nI 63) :: st) N I L P := st_go b213 dJ6_bitCount_0f7a4_49 (by decide) rfl
theorem s213_51 : sm_at C X 213 51 ls (.int x0 :: .int x1 :: st) N I L P = sm_at C X 213 52 ls (.int (x1 &&& x0) :: st) N I L P := st_go b213 dJ6_bitCount_0f7a4_51 (by decide) rfl
theorem s213_52 : sm_at C X 213 52 ls [.int x0] N I L P = some (some (.int x0), N, I, L, P) := st_iret b213 dJ6_bitCount_0f7a4_52 rfl
end STJ6
