/-! the cells, and who refers to whom once both are made -/
theorem ly0 : sm_lay 0 = .inl 10 := rfl
theorem ly1 : sm_lay 1 = .inl 5 := rfl
theorem ly2 : sm_lay 2 = .inr (.inl 32) := rfl
theorem al2 : sm_al 2 = 32 := rfl
theorem ly3 : sm_lay 3 = .inl 8 := rfl
theorem ly4 : sm_lay 4 = .inr (.inl 12) := rfl
theorem al4 : sm_al 4 = 12 := rfl
theorem ly5 : sm_lay 5 = .inr (.inl 12) := rfl
theorem al5 : sm_al 5 = 12 := rfl
theorem ly6 : sm_lay 6 = .inr (.inl 110) := rfl
theorem al6 : sm_al 6 = 110 := rfl
theorem ly7 : sm_lay 7 = .inl 4 := rfl
theorem ly8 : sm_lay 8 = .inr (.inl 36) := rfl
theorem al8 : sm_al 8 = 36 := rfl
theorem ly9 : sm_lay 9 = .inl 9 := rfl
theorem ly10 : sm_lay 10 = .inr (.inl 36) := rfl
theorem al10 : sm_al 10 = 36 := rfl
theorem ly11 : sm_lay 11 = .inl 9 := rfl
theorem ly12 : sm_lay 12 = .inr (.inl 36) := rfl
theorem al12 : sm_al 12 = 36 := rfl
theorem ly13 : sm_lay 13 = .inr (.inl 4) := rfl
theorem al13 : sm_al 13 = 4 := rfl
theorem ly14 : sm_lay 14 = .inl 1 := rfl
theorem ly15 : sm_lay 15 = .inr (.inl 4) := rfl
theorem al15 : sm_al 15 = 4 := rfl
theorem ly16 : sm_lay 16 = .inl 2 := rfl
theorem ly17 : sm_lay 17 = .inr (.inl 8) := rfl
theorem al17 : sm_al 17 = 8 := rfl
theorem ly18 : sm_lay 18 = .inr (.inl 8) := rfl
theorem al18 : sm_al 18 = 8 := rfl
theorem ly19 : sm_lay 19 = .inr (.inl 8) := rfl
theorem al19 : sm_al 19 = 8 := rfl
theorem ly20 : sm_lay 20 = .inr (.inl 8) := rfl
theorem al20 : sm_al 20 = 8 := rfl
theorem ly21 : sm_lay 21 = .inl 7 := rfl
theorem ly22 : sm_lay 22 = .inr (.inl 16) := rfl
theorem al22 : sm_al 22 = 16 := rfl
theorem ly23 : sm_lay 23 = .inl 3 := rfl
theorem ly24 : sm_lay 24 = .inl 8 := rfl
theorem ly25 : sm_lay 25 = .inr (.inl 12) := rfl
theorem al25 : sm_al 25 = 12 := rfl
theorem ly26 : sm_lay 26 = .inr (.inl 12) := rfl
theorem al26 : sm_al 26 = 12 := rfl
theorem ly27 : sm_lay 27 = .inr (.inl 110) := rfl
theorem al27 : sm_al 27 = 110 := rfl
theorem ly28 : sm_lay 28 = .inr (.inl 10) := rfl
theorem al28 : sm_al 28 = 10 := rfl
theorem ly29 : sm_lay 29 = .inl 1 := rfl
theorem ly30 : sm_lay 30 = .inr (.inl 4) := rfl
theorem al30 : sm_al 30 = 4 := rfl
theorem ly31 : sm_lay 31 = .inl 2 := rfl
theorem ly32 : sm_lay 32 = .inr (.inl 8) := rfl
theorem al32 : sm_al 32 = 8 := rfl
theorem ly33 : sm_lay 33 = .inr (.inl 8) := rfl
theorem al33 : sm_al 33 = 8 := rfl
theorem ly34 : sm_lay 34 = .inr (.inl 8) := rfl
theorem al34 : sm_al 34 = 8 := rfl
theorem ly35 : sm_lay 35 = .inr (.inl 8) := rfl
theorem al35 : sm_al 35 = 8 := rfl
theorem ly36 : sm_lay 36 = .inr (.inl 10) := rfl
theorem al36 : sm_al 36 = 10 := rfl
theorem ly37 : sm_lay 37 = .inl 6 := rfl
theorem ly38 : sm_lay 38 = .inr (.inr 5) := rfl
theorem ly39 : sm_lay 39 = .inr (.inl 10) := rfl
theorem al39 : sm_al 39 = 10 := rfl
theorem ly40 : sm_lay 40 = .inl 0 := rfl
theorem ly41 : sm_lay 41 = .inr (.inl 4) := rfl
theorem al41 : sm_al 41 = 4 := rfl
theorem ly42 : sm_lay 42 = .inl 0 := rfl
theorem ly43 : sm_lay 43 = .inr (.inl 4) := rfl
theorem al43 : sm_al 43 = 4 := rfl
theorem ly44 : sm_lay 44 = .inl 0 := rfl
theorem ly45 : sm_lay 45 = .inr (.inl 4) := rfl
theorem al45 : sm_al 45 = 4 := rfl
theorem ly46 : sm_lay 46 = .inl 0 := rfl
theorem ly47 : sm_lay 47 = .inr (.inl 4) := rfl
theorem al47 : sm_al 47 = 4 := rfl
theorem ly48 : sm_lay 48 = .inl 0 := rfl
theorem ly49 : sm_lay 49 = .inr (.inl 4) := rfl
theorem al49 : sm_al 49 = 4 := rfl
theorem ly50 : sm_lay 50 = .inl 6 := rfl
theorem ly51 : sm_lay 51 = .inr (.inr 5) := rfl
theorem ly52 : sm_lay 52 = .inr (.inl 10) := rfl
theorem al52 : sm_al 52 = 10 := rfl
theorem ly53 : sm_lay 53 = .inl 0 := rfl
theorem ly54 : sm_lay 54 = .inr (.inl 4) := rfl
theorem al54 : sm_al 54 = 4 := rfl
theorem ly55 : sm_lay 55 = .inl 0 := rfl
theorem ly56 : sm_lay 56 = .inr (.inl 4) := rfl
theorem al56 : sm_al 56 = 4 := rfl
theorem ly57 : sm_lay 57 = .inl 0 := rfl
theorem ly58 : sm_lay 58 = .inr (.inl 4) := rfl
theorem al58 : sm_al 58 = 4 := rfl
theorem ly59 : sm_lay 59 = .inl 0 := rfl
theorem ly60 : sm_lay 60 = .inr (.inl 4) := rfl
theorem al60 : sm_al 60 = 4 := rfl
theorem ly61 : sm_lay 61 = .inl 0 := rfl
theorem ly62 : sm_lay 62 = .inr (.inl 4) := rfl
theorem al62 : sm_al 62 = 4 := rfl
theorem ly63 : sm_lay 63 = .inl 11 := rfl
theorem ly64 : sm_lay 64 = .inr (.inl 36) := rfl
theorem al64 : sm_al 64 = 36 := rfl
theorem ly65 : sm_lay 65 = .inr (.inl 10) := rfl
theorem al65 : sm_al 65 = 10 := rfl
theorem ly66 : sm_lay 66 = .inr (.inl 32) := rfl
theorem al66 : sm_al 66 = 32 := rfl
theorem ly67 : sm_lay 67 = .inr (.inl 35) := rfl
theorem al67 : sm_al 67 = 35 := rfl
theorem ly68 : sm_lay 68 = .inr (.inl 35) := rfl
theorem al68 : sm_al 68 = 35 := rfl
theorem ly69 : sm_lay 69 = .inr (.inl 10) := rfl
theorem al69 : sm_al 69 = 10 := rfl
theorem ly70 : sm_lay 70 = .inr (.inl 24) := rfl
theorem al70 : sm_al 70 = 24 := rfl
theorem ly71 : sm_lay 71 = .inr (.inl 36) := rfl
theorem al71 : sm_al 71 = 36 := rfl
theorem ly72 : sm_lay 72 = .inr (.inl 16) := rfl
theorem al72 : sm_al 72 = 16 := rfl
theorem ly73 : sm_lay 73 = .inr (.inl 4) := rfl
theorem al73 : sm_al 73 = 4 := rfl
theorem ly74 : sm_lay 74 = .inr (.inl 16) := rfl
theorem al74 : sm_al 74 = 16 := rfl
theorem ly75 : sm_lay 75 = .inr (.inl 8) := rfl
theorem al75 : sm_al 75 = 8 := rfl
theorem ly76 : sm_lay 76 = .inr (.inl 8) := rfl
theorem al76 : sm_al 76 = 8 := rfl
theorem ly77 : sm_lay 77 = .inr (.inl 24) := rfl
theorem al77 : sm_al 77 = 24 := rfl
theorem ly78 : sm_lay 78 = .inr (.inl 10) := rfl
theorem al78 : sm_al 78 = 10 := rfl
theorem ly79 : sm_lay 79 = .inr (.inl 4) := rfl
theorem al79 : sm_al 79 = 4 := rfl
theorem ly80 : sm_lay 80 = .inr (.inl 16) := rfl
theorem al80 : sm_al 80 = 16 := rfl
def pT : List (Nat × Nat × Nat) := [(0, 0, 1), (0, 1, 3), (0, 2, 7), (0, 3, 14), (0, 4, 16), (0, 5, 21), (0, 6, 23), (0, 7, 36), (1, 0, 2), (3, 0, 4), (3, 1, 5), (3, 2, 6), (7, 0, 8), (7, 1, 9), (7, 2, 11), (7, 3, 13), (9, 0, 10), (11, 0, 12), (14, 0, 15), (16, 0, 17), (16, 1, 18), (16, 2, 19), (16, 3, 20), (21, 0, 22), (23, 0, 24), (23, 1, 28), (23, 2, 29), (23, 3, 31), (24, 0, 25), (24, 1, 26), (24, 2, 27), (29, 0, 30), (31, 0, 32), (31, 1, 33), (31, 2, 34), (31, 3, 35), (37, 0, 38), (37, 1, 39), (38, 0, 40), (38, 1, 42), (38, 2, 44), (38, 3, 46), (38, 4, 48), (40, 0, 41), (42, 0, 43), (44, 0, 45), (46, 0, 47), (48, 0, 49), (50, 0, 51), (50, 1, 52), (51, 0, 53), (51, 1, 55), (51, 2, 57), (51, 3, 59), (51, 4, 61), (53, 0, 54), (55, 0, 56), (57, 0, 58), (59, 0, 60), (61, 0, 62), (63, 0, 64), (63, 1, 65), (63, 2, 66), (63, 7, 67), (63, 10, 68), (63, 11, 69), (63, 13, 70), (63, 14, 71), (63, 16, 72), (63, 18, 73), (63, 22, 74), (63, 23, 75), (63, 24, 76), (63, 30, 77), (63, 31, 78), (63, 32, 79), (63, 33, 80)]
def rg (sw : Bool) : Nat := bif sw then 50 else 37
def pX (sw : Bool) : sm_Pm := fun a k => if a = 0 ∧ k = 8 then some (rg sw) else if a = 0 ∧ k = 9 then some (rg (!sw)) else sm_fi2 pT a k
theorem p0_0 {sw : Bool} : pX sw 0 0 = some 1 := rfl
theorem p0_1 {sw : Bool} : pX sw 0 1 = some 3 := rfl
theorem p0_2 {sw : Bool} : pX sw 0 2 = some 7 := rfl
theorem p0_3 {sw : Bool} : pX sw 0 3 = some 14 := rfl
theorem p0_4 {sw : Bool} : pX sw 0 4 = some 16 := rfl
theorem p0_5 {sw : Bool} : pX sw 0 5 = some 21 := rfl
theorem p0_6 {sw : Bool} : pX sw 0 6 = some 23 := rfl
theorem p0_7 {sw : Bool} : pX sw 0 7 = some 36 := rfl
theorem p1_0 {sw : Bool} : pX sw 1 0 = some 2 := rfl
theorem p3_0 {sw : Bool} : pX sw 3 0 = some 4 := rfl
theorem p3_1 {sw : Bool} : pX sw 3 1 = some 5 := rfl
theorem p3_2 {sw : Bool} : pX sw 3 2 = some 6 := rfl
theorem p7_0 {sw : Bool} : pX sw 7 0 = some 8 := rfl
theorem p7_1 {sw : Bool} : pX sw 7 1 = some 9 := rfl
theorem p7_2 {sw : Bool} : pX sw 7 2 = some 11 := rfl
theorem p7_3 {sw : Bool} : pX sw 7 3 = some 13 := rfl
theorem p9_0 {sw : Bool} : pX sw 9 0 = some 10 := rfl
theorem p11_0 {sw : Bool} : pX sw 11 0 = some 12 := rfl
theorem p14_0 {sw : Bool} : pX sw 14 0 = some 15 := rfl
theorem p16_0 {sw : Bool} : pX sw 16 0 = some 17 := rfl
theorem p16_1 {sw : Bool} : pX sw 16 1 = some 18 := rfl
theorem p16_2 {sw : Bool} : pX sw 16 2 = some 19 := rfl
theorem p16_3 {sw : Bool} : pX sw 16 3 = some 20 := rfl
theorem p21_0 {sw : Bool} : pX sw 21 0 = some 22 := rfl
theorem p23_0 {sw : Bool} : pX sw 23 0 = some 24 := rfl
theorem p23_1 {sw : Bool} : pX sw 23 1 = some 28 := rfl
theorem p23_2 {sw : Bool} : pX sw 23 2 = some 29 := rfl
theorem p23_3 {sw : Bool} : pX sw 23 3 = some 31 := rfl
theorem p24_0 {sw : Bool} : pX sw 24 0 = some 25 := rfl
theorem p24_1 {sw : Bool} : pX sw 24 1 = some 26 := rfl
theorem p24_2 {sw : Bool} : pX sw 24 2 = some 27 := rfl
theorem p29_0 {sw : Bool} : pX sw 29 0 = some 30 := rfl
theorem p31_0 {sw : Bool} : pX sw 31 0 = some 32 := rfl
theorem p31_1 {sw : Bool} : pX sw 31 1 = some 33 := rfl
theorem p31_2 {sw : Bool} : pX sw 31 2 = some 34 := rfl
theorem p31_3 {sw : Bool} : pX sw 31 3 = some 35 := rfl
theorem p37_0 {sw : Bool} : pX sw 37 0 = some 38 := rfl
theorem p37_1 {sw : Bool} : pX sw 37 1 = some 39 := rfl
theorem p38_0 {sw : Bool} : pX sw 38 0 = some 40 := rfl
theorem p38_1 {sw : Bool} : pX sw 38 1 = some 42 := rfl
theorem p38_2 {sw : Bool} : pX sw 38 2 = some 44 := rfl
theorem p38_3 {sw : Bool} : pX sw 38 3 = some 46 := rfl
theorem p38_4 {sw : Bool} : pX sw 38 4 = some 48 := rfl
theorem p40_0 {sw : Bool} : pX sw 40 0 = some 41 := rfl
theorem p42_0 {sw : Bool} : pX sw 42 0 = some 43 := rfl
theorem p44_0 {sw : Bool} : pX sw 44 0 = some 45 := rfl
theorem p46_0 {sw : Bool} : pX sw 46 0 = some 47 := rfl
theorem p48_0 {sw : Bool} : pX sw 48 0 = some 49 := rfl
theorem p50_0 {sw : Bool} : pX sw 50 0 = some 51 := rfl
theorem p50_1 {sw : Bool} : pX sw 50 1 = some 52 := rfl
theorem p51_0 {sw : Bool} : pX sw 51 0 = some 53 := rfl
theorem p51_1 {sw : Bool} : pX sw 51 1 = some 55 := rfl
theorem p51_2 {sw : Bool} : pX sw 51 2 = some 57 := rfl
theorem p51_3 {sw : Bool} : pX sw 51 3 = some 59 := rfl
theorem p51_4 {sw : Bool} : pX sw 51 4 = some 61 := rfl
theorem p53_0 {sw : Bool} : pX sw 53 0 = some 54 := rfl
theorem p55_0 {sw : Bool} : pX sw 55 0 = some 56 := rfl
theorem p57_0 {sw : Bool} : pX sw 57 0 = some 58 := rfl
theorem p59_0 {sw : Bool} : pX sw 59 0 = some 60 := rfl
theorem p61_0 {sw : Bool} : pX sw 61 0 = some 62 := rfl
theorem p63_0 {sw : Bool} : pX sw 63 0 = some 64 := rfl
theorem p63_1 {sw : Bool} : pX sw 63 1 = some 65 := rfl
theorem p63_2 {sw : Bool} : pX sw 63 2 = some 66 := rfl
theorem p63_7 {sw : Bool} : pX sw 63 7 = some 67 := rfl
theorem p63_10 {sw : Bool} : pX sw 63 10 = some 68 := rfl
theorem p63_11 {sw : Bool} : pX sw 63 11 = some 69 := rfl
theorem p63_13 {sw : Bool} : pX sw 63 13 = some 70 := rfl
theorem p63_14 {sw : Bool} : pX sw 63 14 = some 71 := rfl
theorem p63_16 {sw : Bool} : pX sw 63 16 = some 72 := rfl
theorem p63_18 {sw : Bool} : pX sw 63 18 = some 73 := rfl
theorem p63_22 {sw : Bool} : pX sw 63 22 = some 74 := rfl
theorem p63_23 {sw : Bool} : pX sw 63 23 = some 75 := rfl
theorem p63_24 {sw : Bool} : pX sw 63 24 = some 76 := rfl
theorem p63_30 {sw : Bool} : pX sw 63 30 = some 77 := rfl
theorem p63_31 {sw : Bool} : pX sw 63 31 = some 78 := rfl
theorem p63_32 {sw : Bool} : pX sw 63 32 = some 79 := rfl
theorem p63_33 {sw : Bool} : pX sw 63 33 = some 80 := rfl
theorem p0_8 {sw : Bool} : pX sw 0 8 = some (rg sw) := rfl
theorem p0_9 {sw : Bool} : pX sw 0 9 = some (rg (!sw)) := rfl
theorem up_row {α : Type} {f : Nat → Nat → α} {a k b : Nat} {v : α} (h : b ≠ a) : sm_up f a k v b = f b := by funext j; unfold sm_up; simp [h]
theorem up_cell {α : Type} {f : Nat → Nat → α} {a k b j : Nat} {v : α} (h : ¬ (b = a ∧ j = k)) : sm_up f a k v b j = f b j := by unfold sm_up; simp [h]
theorem up_same {α : Type} {f : Nat → Nat → α} {a k : Nat} {v : α} : sm_up f a k v a k = v := by unfold sm_up; simp
theorem up_at {α : Type} {f : Nat → Nat → α} {a k j : Nat} {v : α} : sm_up f a k v a j = if j = k then v else f a j := by unfold sm_up; simp
theorem row_row {α : Type} {f : Nat → Nat → α} {a b : Nat} {g : Nat → α} (h : b ≠ a) : sm_row f a g b = f b := by funext j; unfold sm_row; simp [h]
theorem row_same {α : Type} {f : Nat → Nat → α} {a : Nat} {g : Nat → α} : sm_row f a g a = g := by funext j; unfold sm_row; simp
