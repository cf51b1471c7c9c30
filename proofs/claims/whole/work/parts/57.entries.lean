/-! a method is entered -/
theorem ex_in {i d N : Nat} {as : List Value} {ls : List (Option Value)} {I : sm_Im} {L : sm_Lm} {P : sm_Pm} (h : Nat.ble (sm_ent as).length (sm_ml i) = true) (hl : sm_lsl i as = ls) : sm_ex (d + 1) i as N I L P = sm_at (sm_ex d) none i 0 ls [] N I L P := by
  subst hl
  exact if_pos (Nat.le_of_ble_eq_true h)
section ENT
variable {d N : Nat} {I : sm_Im} {L : sm_Lm} {P : sm_Pm} {x0 x1 x2 x3 x4 x5 : Int32} {z0 z1 z2 : Int64} {a a1 a2 a3 a4 : Nat}
theorem e0 : sm_ex (d + 1) 0 [.ref a] N I L P = sm_at (sm_ex d) none 0 0 [some (.ref a)] [] N I L P := ex_in rfl rfl
theorem e1 : sm_ex (d + 1) 1 [.ref a] N I L P = sm_at (sm_ex d) none 1 0 [some (.ref a)] [] N I L P := ex_in rfl rfl
theorem e2 : sm_ex (d + 1) 2 [.ref a, .int x0] N I L P = sm_at (sm_ex d) none 2 0 [some (.ref a), some (.int x0)] [] N I L P := ex_in rfl rfl
theorem e3 : sm_ex (d + 1) 3 [.ref a] N I L P = sm_at (sm_ex d) none 3 0 [some (.ref a)] [] N I L P := ex_in rfl rfl
theorem e4 : sm_ex (d + 1) 4 [.ref a, .int x0] N I L P = sm_at (sm_ex d) none 4 0 [some (.ref a), some (.int x0)] [] N I L P := ex_in rfl rfl
theorem e5 : sm_ex (d + 1) 5 [.ref a, .int x0] N I L P = sm_at (sm_ex d) none 5 0 [some (.ref a), some (.int x0), none] [] N I L P := ex_in rfl rfl
theorem e6 : sm_ex (d + 1) 6 [.ref a] N I L P = sm_at (sm_ex d) none 6 0 [some (.ref a)] [] N I L P := ex_in rfl rfl
theorem e7 : sm_ex (d + 1) 7 [.ref a, .int x0] N I L P = sm_at (sm_ex d) none 7 0 [some (.ref a), some (.int x0)] [] N I L P := ex_in rfl rfl
theorem e8 : sm_ex (d + 1) 8 [.ref a] N I L P = sm_at (sm_ex d) none 8 0 [some (.ref a)] [] N I L P := ex_in rfl rfl
theorem e9 : sm_ex (d + 1) 9 [.ref a] N I L P = sm_at (sm_ex d) none 9 0 [some (.ref a)] [] N I L P := ex_in rfl rfl
theorem e10 : sm_ex (d + 1) 10 [.ref a, .int x0] N I L P = sm_at (sm_ex d) none 10 0 [some (.ref a), some (.int x0)] [] N I L P := ex_in rfl rfl
theorem e11 : sm_ex (d + 1) 11 [.ref a, .int x0] N I L P = sm_at (sm_ex d) none 11 0 [some (.ref a), some (.int x0)] [] N I L P := ex_in rfl rfl
theorem e12 : sm_ex (d + 1) 12 [.ref a, .int x0] N I L P = sm_at (sm_ex d) none 12 0 [some (.ref a), some (.int x0), none] [] N I L P := ex_in rfl rfl
theorem e13 : sm_ex (d + 1) 13 [.ref a, .int x0] N I L P = sm_at (sm_ex d) none 13 0 [some (.ref a), some (.int x0), none] [] N I L P := ex_in rfl rfl
theorem e14 : sm_ex (d + 1) 14 [.ref a, .int x0, .int x1] N I L P = sm_at (sm_ex d) none 14 0 [some (.ref a), some (.int x0), some (.int x1)] [] N I L P := ex_in rfl rfl
theorem e15 : sm_ex (d + 1) 15 [.ref a] N I L P = sm_at (sm_ex d) none 15 0 [some (.ref a)] [] N I L P := ex_in rfl rfl
theorem e16 : sm_ex (d + 1) 16 [.ref a] N I L P = sm_at (sm_ex d) none 16 0 [some (.ref a)] [] N I L P := ex_in rfl rfl
theorem e17 : sm_ex (d + 1) 17 [.ref a, .int x0] N I L P = sm_at (sm_ex d) none 17 0 [some (.ref a), some (.int x0)] [] N I L P := ex_in rfl rfl
theorem e18 : sm_ex (d + 1) 18 [.ref a, .int x0] N I L P = sm_at (sm_ex d) none 18 0 [some (.ref a), some (.int x0), none] [] N I L P := ex_in rfl rfl
theorem e19 : sm_ex (d + 1) 19 [.ref a, .ref a1] N I L P = sm_at (sm_ex d) none 19 0 [some (.ref a), some (.ref a1)] [] N I L P := ex_in rfl rfl
theorem e20 : sm_ex (d + 1) 20 [.ref a, .int x0, .int x1, .int x2] N I L P = sm_at (sm_ex d) none 20 0 [some (.ref a), some (.int x0), some (.int x1), some (.int x2), none, none] [] N I L P := ex_in rfl rfl
theorem e21 : sm_ex (d + 1) 21 [.ref a, .int x0, .int x1] N I L P = sm_at (sm_ex d) none 21 0 [some (.ref a), some (.int x0), some (.int x1), none, none, none] [] N I L P := ex_in rfl rfl
theorem e22 : sm_ex (d + 1) 22 [.ref a] N I L P = sm_at (sm_ex d) none 22 0 [some (.ref a)] [] N I L P := ex_in rfl rfl
theorem e23 : sm_ex (d + 1) 23 [.ref a] N I L P = sm_at (sm_ex d) none 23 0 [some (.ref a)] [] N I L P := ex_in rfl rfl
theorem e24 : sm_ex (d + 1) 24 [.ref a] N I L P = sm_at (sm_ex d) none 24 0 [some (.ref a)] [] N I L P := ex_in rfl rfl
theorem e25 : sm_ex (d + 1) 25 [.ref a, .int x0] N I L P = sm_at (sm_ex d) none 25 0 [some (.ref a), some (.int x0)] [] N I L P := ex_in rfl rfl
theorem e26 : sm_ex (d + 1) 26 [.ref a, .int x0, .int x1] N I L P = sm_at (sm_ex d) none 26 0 [some (.ref a), some (.int x0), some (.int x1)] [] N I L P := ex_in rfl rfl
theorem e27 : sm_ex (d + 1) 27 [.ref a, .ref a1] N I L P = sm_at (sm_ex d) none 27 0 [some (.ref a), some (.ref a1)] [] N I L P := ex_in rfl rfl
theorem e28 : sm_ex (d + 1) 28 [.ref a] N I L P = sm_at (sm_ex d) none 28 0 [some (.ref a), none, none] [] N I L P := ex_in rfl rfl
theorem e29 : sm_ex (d + 1) 29 [.ref a, .int x0] N I L P = sm_at (sm_ex d) none 29 0 [some (.ref a), some (.int x0)] [] N I L P := ex_in rfl rfl
theorem e30 : sm_ex (d + 1) 30 [.ref a, .int x0, .int x1] N I L P = sm_at (sm_ex d) none 30 0 [some (.ref a), some (.int x0), some (.int x1), none, none, none, none] [] N I L P := ex_in rfl rfl
theorem e31 : sm_ex (d + 1) 31 [.ref a, .int x0, .int x1] N I L P = sm_at (sm_ex d) none 31 0 [some (.ref a), some (.int x0), some (.int x1)] [] N I L P := ex_in rfl rfl
theorem e32 : sm_ex (d + 1) 32 [.int x0] N I L P = sm_at (sm_ex d) none 32 0 [some (.int x0), none] [] N I L P := ex_in rfl rfl
theorem e33 : sm_ex (d + 1) 33 [.ref a] N I L P = sm_at (sm_ex d) none 33 0 [some (.ref a)] [] N I L P := ex_in rfl rfl
theorem e34 : sm_ex (d + 1) 34 [.ref a] N I L P = sm_at (sm_ex d) none 34 0 [some (.ref a)] [] N I L P := ex_in rfl rfl
theorem e35 : sm_ex (d + 1) 35 [.ref a] N I L P = sm_at (sm_ex d) none 35 0 [some (.ref a)] [] N I L P := ex_in rfl rfl
theorem e36 : sm_ex (d + 1) 36 [.ref a, .ref a1, .ref a2, .ref a3, .ref a4] N I L P = sm_at (sm_ex d) none 36 0 [some (.ref a), some (.ref a1), some (.ref a2), some (.ref a3), some (.ref a4)] [] N I L P := ex_in rfl rfl
theorem e37 : sm_ex (d + 1) 37 [.ref a, .ref a1, .ref a2, .ref a3, .ref a4] N I L P = sm_at (sm_ex d) none 37 0 [some (.ref a), some (.ref a1), some (.ref a2), some (.ref a3), some (.ref a4)] [] N I L P := ex_in rfl rfl
theorem e38 : sm_ex (d + 1) 38 [.ref a] N I L P = sm_at (sm_ex d) none 38 0 [some (.ref a)] [] N I L P := ex_in rfl rfl
theorem e39 : sm_ex (d + 1) 39 [.ref a, .int x0, .int x1, .int x2] N I L P = sm_at (sm_ex d) none 39 0 [some (.ref a), some (.int x0), some (.int x1), some (.int x2), none] [] N I L P := ex_in rfl rfl
theorem e40 : sm_ex (d + 1) 40 [.ref a] N I L P = sm_at (sm_ex d) none 40 0 [some (.ref a), none, none] [] N I L P := ex_in rfl rfl
theorem e41 : sm_ex (d + 1) 41 [.ref a, .ref a1, .ref a2, .int x0] N I L P = sm_at (sm_ex d) none 41 0 [some (.ref a), some (.ref a1), some (.ref a2), some (.int x0), none, none, none] [] N I L P := ex_in rfl rfl
theorem e42 : sm_ex (d + 1) 42 [.ref a, .ref a1, .ref a2] N I L P = sm_at (sm_ex d) none 42 0 [some (.ref a), some (.ref a1), some (.ref a2), none, none, none, none] [] N I L P := ex_in rfl rfl
theorem e43 : sm_ex (d + 1) 43 [.ref a, .int x0, .int x1] N I L P = sm_at (sm_ex d) none 43 0 [some (.ref a), some (.int x0), some (.int x1), none] [] N I L P := ex_in rfl rfl
theorem e44 : sm_ex (d + 1) 44 [.ref a, .int x0] N I L P = sm_at (sm_ex d) none 44 0 [some (.ref a), some (.int x0)] [] N I L P := ex_in rfl rfl
theorem e45 : sm_ex (d + 1) 45 [.ref a, .int x0] N I L P = sm_at (sm_ex d) none 45 0 [some (.ref a), some (.int x0)] [] N I L P := ex_in rfl rfl
theorem e46 : sm_ex (d + 1) 46 [.ref a, .int x0] N I L P = sm_at (sm_ex d) none 46 0 [some (.ref a), some (.int x0), none] [] N I L P := ex_in rfl rfl
theorem e47 : sm_ex (d + 1) 47 [.ref a, .int x0] N I L P = sm_at (sm_ex d) none 47 0 [some (.ref a), some (.int x0), none, none] [] N I L P := ex_in rfl rfl
theorem e48 : sm_ex (d + 1) 48 [.ref a, .int x0, .int x1] N I L P = sm_at (sm_ex d) none 48 0 [some (.ref a), some (.int x0), some (.int x1)] [] N I L P := ex_in rfl rfl
theorem e49 : sm_ex (d + 1) 49 [.ref a] N I L P = sm_at (sm_ex d) none 49 0 [some (.ref a)] [] N I L P := ex_in rfl rfl
theorem e50 : sm_ex (d + 1) 50 [.ref a] N I L P = sm_at (sm_ex d) none 50 0 [some (.ref a)] [] N I L P := ex_in rfl rfl
theorem e51 : sm_ex (d + 1) 51 [.ref a, .int x0] N I L P = sm_at (sm_ex d) none 51 0 [some (.ref a), some (.int x0)] [] N I L P := ex_in rfl rfl
theorem e52 : sm_ex (d + 1) 52 [.ref a] N I L P = sm_at (sm_ex d) none 52 0 [some (.ref a)] [] N I L P := ex_in rfl rfl
theorem e53 : sm_ex (d + 1) 53 [.ref a, .long z0] N I L P = sm_at (sm_ex d) none 53 0 [some (.ref a), some (.long z0), none, none, none] [] N I L P := ex_in rfl rfl
theorem e54 : sm_ex (d + 1) 54 [.long z0] N I L P = sm_at (sm_ex d) none 54 0 [some (.long z0), none, none, none, none, none] [] N I L P := ex_in rfl rfl
theorem e55 : sm_ex (d + 1) 55 [.long z0, .int x0] N I L P = sm_at (sm_ex d) none 55 0 [some (.long z0), none, some (.int x0)] [] N I L P := ex_in rfl rfl
theorem e56 : sm_ex (d + 1) 56 [.ref a] N I L P = sm_at (sm_ex d) none 56 0 [some (.ref a), none] [] N I L P := ex_in rfl rfl
theorem e57 : sm_ex (d + 1) 57 [.ref a, .ref a1] N I L P = sm_at (sm_ex d) none 57 0 [some (.ref a), some (.ref a1), none] [] N I L P := ex_in rfl rfl
theorem e58 : sm_ex (d + 1) 58 [.ref a] N I L P = sm_at (sm_ex d) none 58 0 [some (.ref a), none] [] N I L P := ex_in rfl rfl
theorem e59 : sm_ex (d + 1) 59 [.ref a] N I L P = sm_at (sm_ex d) none 59 0 [some (.ref a)] [] N I L P := ex_in rfl rfl
theorem e60 : sm_ex (d + 1) 60 [.ref a, .int x0] N I L P = sm_at (sm_ex d) none 60 0 [some (.ref a), some (.int x0)] [] N I L P := ex_in rfl rfl
theorem e61 : sm_ex (d + 1) 61 [.ref a, .int x0] N I L P = sm_at (sm_ex d) none 61 0 [some (.ref a), some (.int x0)] [] N I L P := ex_in rfl rfl
theorem e62 : sm_ex (d + 1) 62 [.ref a, .int x0] N I L P = sm_at (sm_ex d) none 62 0 [some (.ref a), some (.int x0), none] [] N I L P := ex_in rfl rfl
theorem e63 : sm_ex (d + 1) 63 [.ref a, .int x0, .int x1] N I L P = sm_at (sm_ex d) none 63 0 [some (.ref a), some (.int x0), some (.int x1), none, none] [] N I L P := ex_in rfl rfl
theorem e64 : sm_ex (d + 1) 64 [.ref a] N I L P = sm_at (sm_ex d) none 64 0 [some (.ref a)] [] N I L P := ex_in rfl rfl
theorem e65 : sm_ex (d + 1) 65 [.ref a, .int x0] N I L P = sm_at (sm_ex d) none 65 0 [some (.ref a), some (.int x0), none] [] N I L P := ex_in rfl rfl
theorem e66 : sm_ex (d + 1) 66 [.ref a, .ref a1, .int x0] N I L P = sm_at (sm_ex d) none 66 0 [some (.ref a), some (.ref a1), some (.int x0)] [] N I L P := ex_in rfl rfl
theorem e67 : sm_ex (d + 1) 67 [.ref a] N I L P = sm_at (sm_ex d) none 67 0 [some (.ref a)] [] N I L P := ex_in rfl rfl
theorem e68 : sm_ex (d + 1) 68 [.ref a] N I L P = sm_at (sm_ex d) none 68 0 [some (.ref a)] [] N I L P := ex_in rfl rfl
theorem e69 : sm_ex (d + 1) 69 [.ref a] N I L P = sm_at (sm_ex d) none 69 0 [some (.ref a)] [] N I L P := ex_in rfl rfl
theorem e70 : sm_ex (d + 1) 70 [.ref a, .int x0, .int x1] N I L P = sm_at (sm_ex d) none 70 0 [some (.ref a), some (.int x0), some (.int x1), none, none] [] N I L P := ex_in rfl rfl
theorem e71 : sm_ex (d + 1) 71 [.int x0, .int x1, .int x2] N I L P = sm_at (sm_ex d) none 71 0 [some (.int x0), some (.int x1), some (.int x2), none, none, none, none] [] N I L P := ex_in rfl rfl
theorem e72 : sm_ex (d + 1) 72 [.ref a, .int x0, .int x1, .int x2, .int x3] N I L P = sm_at (sm_ex d) none 72 0 [some (.ref a), some (.int x0), some (.int x1), some (.int x2), some (.int x3)] [] N I L P := ex_in rfl rfl
theorem e73 : sm_ex (d + 1) 73 [.ref a] N I L P = sm_at (sm_ex d) none 73 0 [some (.ref a)] [] N I L P := ex_in rfl rfl
theorem e74 : sm_ex (d + 1) 74 [.ref a] N I L P = sm_at (sm_ex d) none 74 0 [some (.ref a)] [] N I L P := ex_in rfl rfl
theorem e75 : sm_ex (d + 1) 75 [.ref a] N I L P = sm_at (sm_ex d) none 75 0 [some (.ref a)] [] N I L P := ex_in rfl rfl
theorem e76 : sm_ex (d + 1) 76 [.ref a, .int x0, .int x1] N I L P = sm_at (sm_ex d) none 76 0 [some (.ref a), some (.int x0), some (.int x1)] [] N I L P := ex_in rfl rfl
theorem e77 : sm_ex (d + 1) 77 [.ref a, .ref a1] N I L P = sm_at (sm_ex d) none 77 0 [some (.ref a), some (.ref a1)] [] N I L P := ex_in rfl rfl
theorem e78 : sm_ex (d + 1) 78 [.ref a, .int x0] N I L P = sm_at (sm_ex d) none 78 0 [some (.ref a), some (.int x0), none, none] [] N I L P := ex_in rfl rfl
theorem e79 : sm_ex (d + 1) 79 [.ref a, .ref a1, .int x0, .int x1, .int x2] N I L P = sm_at (sm_ex d) none 79 0 [some (.ref a), some (.ref a1), some (.int x0), some (.int x1), some (.int x2), none, none, none] [] N I L P := ex_in rfl rfl
theorem e80 : sm_ex (d + 1) 80 [.ref a, .ref a1] N I L P = sm_at (sm_ex d) none 80 0 [some (.ref a), some (.ref a1), none] [] N I L P := ex_in rfl rfl
theorem e81 : sm_ex (d + 1) 81 [.ref a, .ref a1, .int x0, .int x1] N I L P = sm_at (sm_ex d) none 81 0 [some (.ref a), some (.ref a1), some (.int x0), some (.int x1), none, none, none] [] N I L P := ex_in rfl rfl
theorem e82 : sm_ex (d + 1) 82 [.ref a, .int x0, .int x1] N I L P = sm_at (sm_ex d) none 82 0 [some (.ref a), some (.int x0), some (.int x1), none] [] N I L P := ex_in rfl rfl
theorem e83 : sm_ex (d + 1) 83 [.ref a] N I L P = sm_at (sm_ex d) none 83 0 [some (.ref a)] [] N I L P := ex_in rfl rfl
theorem e84 : sm_ex (d + 1) 84 [.ref a, .int x0, .int x1] N I L P = sm_at (sm_ex d) none 84 0 [some (.ref a), some (.int x0), some (.int x1)] [] N I L P := ex_in rfl rfl
theorem e85 : sm_ex (d + 1) 85 [.ref a] N I L P = sm_at (sm_ex d) none 85 0 [some (.ref a), none] [] N I L P := ex_in rfl rfl
theorem e86 : sm_ex (d + 1) 86 [.ref a, .int x0, .int x1, .int x2] N I L P = sm_at (sm_ex d) none 86 0 [some (.ref a), some (.int x0), some (.int x1), some (.int x2), none] [] N I L P := ex_in rfl rfl
theorem e87 : sm_ex (d + 1) 87 [.ref a] N I L P = sm_at (sm_ex d) none 87 0 [some (.ref a), none, none] [] N I L P := ex_in rfl rfl
theorem e88 : sm_ex (d + 1) 88 [.ref a, .int x0, .int x1] N I L P = sm_at (sm_ex d) none 88 0 [some (.ref a), some (.int x0), some (.int x1), none, none] [] N I L P := ex_in rfl rfl
theorem e89 : sm_ex (d + 1) 89 [.ref a, .ref a1, .int x0, .int x1] N I L P = sm_at (sm_ex d) none 89 0 [some (.ref a), some (.ref a1), some (.int x0), some (.int x1), none, none] [] N I L P := ex_in rfl rfl
theorem e90 : sm_ex (d + 1) 90 [.ref a, .int x0] N I L P = sm_at (sm_ex d) none 90 0 [some (.ref a), some (.int x0), none] [] N I L P := ex_in rfl rfl
theorem e91 : sm_ex (d + 1) 91 [.ref a, .int x0, .int x1, .int x2] N I L P = sm_at (sm_ex d) none 91 0 [some (.ref a), some (.int x0), some (.int x1), some (.int x2), none, none] [] N I L P := ex_in rfl rfl
theorem e92 : sm_ex (d + 1) 92 [.ref a, .int x0, .int x1, .int x2, .int x3] N I L P = sm_at (sm_ex d) none 92 0 [some (.ref a), some (.int x0), some (.int x1), some (.int x2), some (.int x3), none, none] [] N I L P := ex_in rfl rfl
theorem e93 : sm_ex (d + 1) 93 [.ref a] N I L P = sm_at (sm_ex d) none 93 0 [some (.ref a)] [] N I L P := ex_in rfl rfl
theorem e94 : sm_ex (d + 1) 94 [.ref a, .int x0, .int x1, .int x2] N I L P = sm_at (sm_ex d) none 94 0 [some (.ref a), some (.int x0), some (.int x1), some (.int x2)] [] N I L P := ex_in rfl rfl
theorem e95 : sm_ex (d + 1) 95 [.ref a, .int x0, .int x1] N I L P = sm_at (sm_ex d) none 95 0 [some (.ref a), some (.int x0), some (.int x1), none] [] N I L P := ex_in rfl rfl
theorem e96 : sm_ex (d + 1) 96 [.ref a, .long z0] N I L P = sm_at (sm_ex d) none 96 0 [some (.ref a), some (.long z0), none] [] N I L P := ex_in rfl rfl
theorem e97 : sm_ex (d + 1) 97 [.ref a] N I L P = sm_at (sm_ex d) none 97 0 [some (.ref a), none] [] N I L P := ex_in rfl rfl
theorem e98 : sm_ex (d + 1) 98 [.ref a] N I L P = sm_at (sm_ex d) none 98 0 [some (.ref a)] [] N I L P := ex_in rfl rfl
theorem e99 : sm_ex (d + 1) 99 [.ref a] N I L P = sm_at (sm_ex d) none 99 0 [some (.ref a), none] [] N I L P := ex_in rfl rfl
theorem e100 : sm_ex (d + 1) 100 [.ref a, .int x0, .int x1] N I L P = sm_at (sm_ex d) none 100 0 [some (.ref a), some (.int x0), some (.int x1), none] [] N I L P := ex_in rfl rfl
theorem e101 : sm_ex (d + 1) 101 [.ref a, .int x0, .int x1] N I L P = sm_at (sm_ex d) none 101 0 [some (.ref a), some (.int x0), some (.int x1), none] [] N I L P := ex_in rfl rfl
theorem e102 : sm_ex (d + 1) 102 [.ref a, .int x0, .int x1] N I L P = sm_at (sm_ex d) none 102 0 [some (.ref a), some (.int x0), some (.int x1)] [] N I L P := ex_in rfl rfl
theorem e103 : sm_ex (d + 1) 103 [.ref a, .int x0, .int x1] N I L P = sm_at (sm_ex d) none 103 0 [some (.ref a), some (.int x0), some (.int x1)] [] N I L P := ex_in rfl rfl
theorem e104 : sm_ex (d + 1) 104 [.ref a] N I L P = sm_at (sm_ex d) none 104 0 [some (.ref a), none] [] N I L P := ex_in rfl rfl
theorem e105 : sm_ex (d + 1) 105 [.ref a, .int x0, .int x1, .int x2] N I L P = sm_at (sm_ex d) none 105 0 [some (.ref a), some (.int x0), some (.int x1), some (.int x2)] [] N I L P := ex_in rfl rfl
theorem e106 : sm_ex (d + 1) 106 [.ref a, .int x0, .int x1, .int x2, .int x3] N I L P = sm_at (sm_ex d) none 106 0 [some (.ref a), some (.int x0), some (.int x1), some (.int x2), some (.int x3), none, none, none, none, none] [] N I L P := ex_in rfl rfl
theorem e107 : sm_ex (d + 1) 107 [.ref a] N I L P = sm_at (sm_ex d) none 107 0 [some (.ref a)] [] N I L P := ex_in rfl rfl
theorem e108 : sm_ex (d + 1) 108 [.ref a, .int x0, .int x1] N I L P = sm_at (sm_ex d) none 108 0 [some (.ref a), some (.int x0), some (.int x1)] [] N I L P := ex_in rfl rfl
theorem e109 : sm_ex (d + 1) 109 [.ref a, .int x0, .int x1, .int x2] N I L P = sm_at (sm_ex d) none 109 0 [some (.ref a), some (.int x0), some (.int x1), some (.int x2)] [] N I L P := ex_in rfl rfl
theorem e110 : sm_ex (d + 1) 110 [.ref a, .int x0, .int x1] N I L P = sm_at (sm_ex d) none 110 0 [some (.ref a), some (.int x0), some (.int x1), none] [] N I L P := ex_in rfl rfl
theorem e111 : sm_ex (d + 1) 111 [.ref a, .int x0, .int x1, .int x2] N I L P = sm_at (sm_ex d) none 111 0 [some (.ref a), some (.int x0), some (.int x1), some (.int x2)] [] N I L P := ex_in rfl rfl
theorem e112 : sm_ex (d + 1) 112 [.ref a, .int x0, .int x1, .int x2] N I L P = sm_at (sm_ex d) none 112 0 [some (.ref a), some (.int x0), some (.int x1), some (.int x2), none] [] N I L P := ex_in rfl rfl
theorem e113 : sm_ex (d + 1) 113 [.ref a, .int x0, .int x1, .int x2] N I L P = sm_at (sm_ex d) none 113 0 [some (.ref a), some (.int x0), some (.int x1), some (.int x2)] [] N I L P := ex_in rfl rfl
theorem e114 : sm_ex (d + 1) 114 [.ref a, .int x0] N I L P = sm_at (sm_ex d) none 114 0 [some (.ref a), some (.int x0)] [] N I L P := ex_in rfl rfl
theorem e115 : sm_ex (d + 1) 115 [.ref a, .int x0, .int x1, .int x2, .int x3] N I L P = sm_at (sm_ex d) none 115 0 [some (.ref a), some (.int x0), some (.int x1), some (.int x2), some (.int x3), none, none] [] N I L P := ex_in rfl rfl
theorem e116 : sm_ex (d + 1) 116 [.ref a, .int x0] N I L P = sm_at (sm_ex d) none 116 0 [some (.ref a), some (.int x0), none] [] N I L P := ex_in rfl rfl
theorem e117 : sm_ex (d + 1) 117 [.ref a, .int x0, .int x1] N I L P = sm_at (sm_ex d) none 117 0 [some (.ref a), some (.int x0), some (.int x1)] [] N I L P := ex_in rfl rfl
theorem e118 : sm_ex (d + 1) 118 [.ref a] N I L P = sm_at (sm_ex d) none 118 0 [some (.ref a)] [] N I L P := ex_in rfl rfl
theorem e119 : sm_ex (d + 1) 119 [.ref a, .int x0] N I L P = sm_at (sm_ex d) none 119 0 [some (.ref a), some (.int x0)] [] N I L P := ex_in rfl rfl
theorem e120 : sm_ex (d + 1) 120 [.ref a, .int x0, .int x1, .int x2] N I L P = sm_at (sm_ex d) none 120 0 [some (.ref a), some (.int x0), some (.int x1), some (.int x2)] [] N I L P := ex_in rfl rfl
theorem e121 : sm_ex (d + 1) 121 [.ref a] N I L P = sm_at (sm_ex d) none 121 0 [some (.ref a)] [] N I L P := ex_in rfl rfl
theorem e122 : sm_ex (d + 1) 122 [.ref a] N I L P = sm_at (sm_ex d) none 122 0 [some (.ref a)] [] N I L P := ex_in rfl rfl
theorem e123 : sm_ex (d + 1) 123 [.ref a, .int x0] N I L P = sm_at (sm_ex d) none 123 0 [some (.ref a), some (.int x0)] [] N I L P := ex_in rfl rfl
theorem e124 : sm_ex (d + 1) 124 [.ref a] N I L P = sm_at (sm_ex d) none 124 0 [some (.ref a), none, none, none] [] N I L P := ex_in rfl rfl
theorem e125 : sm_ex (d + 1) 125 [.ref a, .long z0] N I L P = sm_at (sm_ex d) none 125 0 [some (.ref a), some (.long z0), none, none, none, none, none] [] N I L P := ex_in rfl rfl
theorem e126 : sm_ex (d + 1) 126 [.ref a, .long z0] N I L P = sm_at (sm_ex d) none 126 0 [some (.ref a), some (.long z0), none, none, none, none, none] [] N I L P := ex_in rfl rfl
theorem e127 : sm_ex (d + 1) 127 [.ref a, .long z0] N I L P = sm_at (sm_ex d) none 127 0 [some (.ref a), some (.long z0), none, none, none, none, none] [] N I L P := ex_in rfl rfl
theorem e128 : sm_ex (d + 1) 128 [.ref a, .long z0] N I L P = sm_at (sm_ex d) none 128 0 [some (.ref a), some (.long z0), none, none, none, none] [] N I L P := ex_in rfl rfl
theorem e129 : sm_ex (d + 1) 129 [.ref a, .long z0] N I L P = sm_at (sm_ex d) none 129 0 [some (.ref a), some (.long z0), none, none, none, none] [] N I L P := ex_in rfl rfl
theorem e130 : sm_ex (d + 1) 130 [.ref a, .long z0] N I L P = sm_at (sm_ex d) none 130 0 [some (.ref a), some (.long z0), none, none, none, none] [] N I L P := ex_in rfl rfl
theorem e131 : sm_ex (d + 1) 131 [.long z0, .long z1] N I L P = sm_at (sm_ex d) none 131 0 [some (.long z0), none, some (.long z1), none] [] N I L P := ex_in rfl rfl
theorem e132 : sm_ex (d + 1) 132 [.int x0, .int x1, .int x2] N I L P = sm_at (sm_ex d) none 132 0 [some (.int x0), some (.int x1), some (.int x2)] [] N I L P := ex_in rfl rfl
theorem e133 : sm_ex (d + 1) 133 [.int x0] N I L P = sm_at (sm_ex d) none 133 0 [some (.int x0)] [] N I L P := ex_in rfl rfl
theorem e134 : sm_ex (d + 1) 134 [.int x0] N I L P = sm_at (sm_ex d) none 134 0 [some (.int x0)] [] N I L P := ex_in rfl rfl
theorem e135 : sm_ex (d + 1) 135 [.int x0, .int x1] N I L P = sm_at (sm_ex d) none 135 0 [some (.int x0), some (.int x1)] [] N I L P := ex_in rfl rfl
theorem e136 : sm_ex (d + 1) 136 [.int x0] N I L P = sm_at (sm_ex d) none 136 0 [some (.int x0)] [] N I L P := ex_in rfl rfl
theorem e137 : sm_ex (d + 1) 137 [.int x0] N I L P = sm_at (sm_ex d) none 137 0 [some (.int x0)] [] N I L P := ex_in rfl rfl
theorem e138 : sm_ex (d + 1) 138 [.int x0, .int x1] N I L P = sm_at (sm_ex d) none 138 0 [some (.int x0), some (.int x1)] [] N I L P := ex_in rfl rfl
theorem e139 : sm_ex (d + 1) 139 [.int x0, .int x1] N I L P = sm_at (sm_ex d) none 139 0 [some (.int x0), some (.int x1)] [] N I L P := ex_in rfl rfl
theorem e140 : sm_ex (d + 1) 140 [.int x0, .int x1] N I L P = sm_at (sm_ex d) none 140 0 [some (.int x0), some (.int x1)] [] N I L P := ex_in rfl rfl
theorem e141 : sm_ex (d + 1) 141 [.int x0, .int x1, .int x2] N I L P = sm_at (sm_ex d) none 141 0 [some (.int x0), some (.int x1), some (.int x2), none, none, none] [] N I L P := ex_in rfl rfl
theorem e142 : sm_ex (d + 1) 142 [.long z0, .int x0] N I L P = sm_at (sm_ex d) none 142 0 [some (.long z0), none, some (.int x0), none, none, none] [] N I L P := ex_in rfl rfl
theorem e143 : sm_ex (d + 1) 143 [.long z0, .long z1, .int x0] N I L P = sm_at (sm_ex d) none 143 0 [some (.long z0), none, some (.long z1), none, some (.int x0), none, none, none, none] [] N I L P := ex_in rfl rfl
theorem e144 : sm_ex (d + 1) 144 [.long z0, .long z1] N I L P = sm_at (sm_ex d) none 144 0 [some (.long z0), none, some (.long z1), none, none, none, none, none, none, none, none] [] N I L P := ex_in rfl rfl
theorem e145 : sm_ex (d + 1) 145 [.ref a] N I L P = sm_at (sm_ex d) none 145 0 [some (.ref a), none] [] N I L P := ex_in rfl rfl
theorem e146 : sm_ex (d + 1) 146 [.long z0, .long z1, .long z2] N I L P = sm_at (sm_ex d) none 146 0 [some (.long z0), none, some (.long z1), none, some (.long z2), none] [] N I L P := ex_in rfl rfl
theorem e147 : sm_ex (d + 1) 147 [.int x0] N I L P = sm_at (sm_ex d) none 147 0 [some (.int x0)] [] N I L P := ex_in rfl rfl
theorem e148 : sm_ex (d + 1) 148 [.int x0] N I L P = sm_at (sm_ex d) none 148 0 [some (.int x0)] [] N I L P := ex_in rfl rfl
theorem e149 : sm_ex (d + 1) 149 [.ref a, .int x0, .int x1, .int x2] N I L P = sm_at (sm_ex d) none 149 0 [some (.ref a), some (.int x0), some (.int x1), some (.int x2), none] [] N I L P := ex_in rfl rfl
theorem e150 : sm_ex (d + 1) 150 [.ref a, .int x0, .int x1] N I L P = sm_at (sm_ex d) none 150 0 [some (.ref a), some (.int x0), some (.int x1), none] [] N I L P := ex_in rfl rfl
theorem e151 : sm_ex (d + 1) 151 [.ref a, .long z0] N I L P = sm_at (sm_ex d) none 151 0 [some (.ref a), some (.long z0), none, none, none, none, none, none, none] [] N I L P := ex_in rfl rfl
theorem e152 : sm_ex (d + 1) 152 [.ref a] N I L P = sm_at (sm_ex d) none 152 0 [some (.ref a), none] [] N I L P := ex_in rfl rfl
theorem e153 : sm_ex (d + 1) 153 [.ref a, .int x0] N I L P = sm_at (sm_ex d) none 153 0 [some (.ref a), some (.int x0), none, none, none, none] [] N I L P := ex_in rfl rfl
theorem e154 : sm_ex (d + 1) 154 [.ref a] N I L P = sm_at (sm_ex d) none 154 0 [some (.ref a), none] [] N I L P := ex_in rfl rfl
theorem e155 : sm_ex (d + 1) 155 [.ref a, .int x0] N I L P = sm_at (sm_ex d) none 155 0 [some (.ref a), some (.int x0), none, none] [] N I L P := ex_in rfl rfl
theorem e156 : sm_ex (d + 1) 156 [.ref a] N I L P = sm_at (sm_ex d) none 156 0 [some (.ref a), none] [] N I L P := ex_in rfl rfl
theorem e157 : sm_ex (d + 1) 157 [.ref a] N I L P = sm_at (sm_ex d) none 157 0 [some (.ref a)] [] N I L P := ex_in rfl rfl
theorem e158 : sm_ex (d + 1) 158 [.ref a] N I L P = sm_at (sm_ex d) none 158 0 [some (.ref a), none] [] N I L P := ex_in rfl rfl
theorem e159 : sm_ex (d + 1) 159 [.ref a, .int x0, .int x1] N I L P = sm_at (sm_ex d) none 159 0 [some (.ref a), some (.int x0), some (.int x1)] [] N I L P := ex_in rfl rfl
theorem e160 : sm_ex (d + 1) 160 [.ref a, .int x0, .int x1] N I L P = sm_at (sm_ex d) none 160 0 [some (.ref a), some (.int x0), some (.int x1), none, none] [] N I L P := ex_in rfl rfl
theorem e161 : sm_ex (d + 1) 161 [.ref a, .int x0, .int x1] N I L P = sm_at (sm_ex d) none 161 0 [some (.ref a), some (.int x0), some (.int x1), none, none] [] N I L P := ex_in rfl rfl
theorem e162 : sm_ex (d + 1) 162 [.ref a, .int x0, .int x1] N I L P = sm_at (sm_ex d) none 162 0 [some (.ref a), some (.int x0), some (.int x1)] [] N I L P := ex_in rfl rfl
theorem e163 : sm_ex (d + 1) 163 [.ref a, .int x0, .int x1] N I L P = sm_at (sm_ex d) none 163 0 [some (.ref a), some (.int x0), some (.int x1)] [] N I L P := ex_in rfl rfl
theorem e164 : sm_ex (d + 1) 164 [.ref a, .int x0, .int x1] N I L P = sm_at (sm_ex d) none 164 0 [some (.ref a), some (.int x0), some (.int x1)] [] N I L P := ex_in rfl rfl
theorem e165 : sm_ex (d + 1) 165 [.ref a] N I L P = sm_at (sm_ex d) none 165 0 [some (.ref a), none] [] N I L P := ex_in rfl rfl
theorem e166 : sm_ex (d + 1) 166 [.ref a, .int x0, .int x1] N I L P = sm_at (sm_ex d) none 166 0 [some (.ref a), some (.int x0), some (.int x1), none, none] [] N I L P := ex_in rfl rfl
theorem e167 : sm_ex (d + 1) 167 [.ref a, .int x0, .int x1] N I L P = sm_at (sm_ex d) none 167 0 [some (.ref a), some (.int x0), some (.int x1), none, none, none, none] [] N I L P := ex_in rfl rfl
theorem e168 : sm_ex (d + 1) 168 [.ref a, .int x0, .int x1, .int x2, .int x3] N I L P = sm_at (sm_ex d) none 168 0 [some (.ref a), some (.int x0), some (.int x1), some (.int x2), some (.int x3), none, none, none] [] N I L P := ex_in rfl rfl
theorem e169 : sm_ex (d + 1) 169 [.int x0, .int x1] N I L P = sm_at (sm_ex d) none 169 0 [some (.int x0), some (.int x1)] [] N I L P := ex_in rfl rfl
theorem e170 : sm_ex (d + 1) 170 [.ref a, .int x0, .int x1, .int x2] N I L P = sm_at (sm_ex d) none 170 0 [some (.ref a), some (.int x0), some (.int x1), some (.int x2)] [] N I L P := ex_in rfl rfl
theorem e171 : sm_ex (d + 1) 171 [.long z0, .long z1, .int x0] N I L P = sm_at (sm_ex d) none 171 0 [some (.long z0), none, some (.long z1), none, some (.int x0), none, none, none, none, none, none] [] N I L P := ex_in rfl rfl
theorem e172 : sm_ex (d + 1) 172 [.int x0] N I L P = sm_at (sm_ex d) none 172 0 [some (.int x0)] [] N I L P := ex_in rfl rfl
theorem e173 : sm_ex (d + 1) 173 [.ref a, .int x0, .int x1, .int x2, .int x3] N I L P = sm_at (sm_ex d) none 173 0 [some (.ref a), some (.int x0), some (.int x1), some (.int x2), some (.int x3), none, none, none, none, none, none, none] [] N I L P := ex_in rfl rfl
theorem e174 : sm_ex (d + 1) 174 [.ref a, .int x0] N I L P = sm_at (sm_ex d) none 174 0 [some (.ref a), some (.int x0), none, none, none, none, none] [] N I L P := ex_in rfl rfl
theorem e175 : sm_ex (d + 1) 175 [.ref a] N I L P = sm_at (sm_ex d) none 175 0 [some (.ref a), none] [] N I L P := ex_in rfl rfl
theorem e176 : sm_ex (d + 1) 176 [.ref a] N I L P = sm_at (sm_ex d) none 176 0 [some (.ref a)] [] N I L P := ex_in rfl rfl
theorem e177 : sm_ex (d + 1) 177 [.ref a, .int x0, .int x1, .int x2] N I L P = sm_at (sm_ex d) none 177 0 [some (.ref a), some (.int x0), some (.int x1), some (.int x2)] [] N I L P := ex_in rfl rfl
theorem e178 : sm_ex (d + 1) 178 [.ref a, .int x0, .int x1] N I L P = sm_at (sm_ex d) none 178 0 [some (.ref a), some (.int x0), some (.int x1), none, none, none, none, none] [] N I L P := ex_in rfl rfl
theorem e179 : sm_ex (d + 1) 179 [.ref a, .int x0] N I L P = sm_at (sm_ex d) none 179 0 [some (.ref a), some (.int x0), none] [] N I L P := ex_in rfl rfl
theorem e180 : sm_ex (d + 1) 180 [.ref a] N I L P = sm_at (sm_ex d) none 180 0 [some (.ref a), none, none, none] [] N I L P := ex_in rfl rfl
theorem e181 : sm_ex (d + 1) 181 [.ref a, .int x0, .int x1] N I L P = sm_at (sm_ex d) none 181 0 [some (.ref a), some (.int x0), some (.int x1), none] [] N I L P := ex_in rfl rfl
theorem e182 : sm_ex (d + 1) 182 [.ref a, .int x0, .int x1] N I L P = sm_at (sm_ex d) none 182 0 [some (.ref a), some (.int x0), some (.int x1)] [] N I L P := ex_in rfl rfl
theorem e183 : sm_ex (d + 1) 183 [.ref a, .int x0, .int x1, .int x2] N I L P = sm_at (sm_ex d) none 183 0 [some (.ref a), some (.int x0), some (.int x1), some (.int x2)] [] N I L P := ex_in rfl rfl
theorem e184 : sm_ex (d + 1) 184 [.ref a, .int x0, .int x1, .int x2] N I L P = sm_at (sm_ex d) none 184 0 [some (.ref a), some (.int x0), some (.int x1), some (.int x2), none, none] [] N I L P := ex_in rfl rfl
theorem e185 : sm_ex (d + 1) 185 [.int x0, .int x1, .int x2, .int x3] N I L P = sm_at (sm_ex d) none 185 0 [some (.int x0), some (.int x1), some (.int x2), some (.int x3), none] [] N I L P := ex_in rfl rfl
theorem e186 : sm_ex (d + 1) 186 [.ref a, .int x0, .int x1] N I L P = sm_at (sm_ex d) none 186 0 [some (.ref a), some (.int x0), some (.int x1), none, none] [] N I L P := ex_in rfl rfl
theorem e187 : sm_ex (d + 1) 187 [.int x0, .int x1] N I L P = sm_at (sm_ex d) none 187 0 [some (.int x0), some (.int x1)] [] N I L P := ex_in rfl rfl
theorem e188 : sm_ex (d + 1) 188 [.int x0] N I L P = sm_at (sm_ex d) none 188 0 [some (.int x0), none, none] [] N I L P := ex_in rfl rfl
theorem e189 : sm_ex (d + 1) 189 [.int x0, .int x1, .int x2] N I L P = sm_at (sm_ex d) none 189 0 [some (.int x0), some (.int x1), some (.int x2), none, none, none, none] [] N I L P := ex_in rfl rfl
theorem e190 : sm_ex (d + 1) 190 [.ref a, .int x0, .int x1, .int x2] N I L P = sm_at (sm_ex d) none 190 0 [some (.ref a), some (.int x0), some (.int x1), some (.int x2)] [] N I L P := ex_in rfl rfl
theorem e191 : sm_ex (d + 1) 191 [.ref a, .int x0, .int x1, .int x2] N I L P = sm_at (sm_ex d) none 191 0 [some (.ref a), some (.int x0), some (.int x1), some (.int x2), none] [] N I L P := ex_in rfl rfl
theorem e192 : sm_ex (d + 1) 192 [.ref a, .int x0, .int x1, .int x2] N I L P = sm_at (sm_ex d) none 192 0 [some (.ref a), some (.int x0), some (.int x1), some (.int x2), none, none, none, none, none] [] N I L P := ex_in rfl rfl
theorem e193 : sm_ex (d + 1) 193 [.ref a, .int x0] N I L P = sm_at (sm_ex d) none 193 0 [some (.ref a), some (.int x0), none] [] N I L P := ex_in rfl rfl
theorem e194 : sm_ex (d + 1) 194 [.int x0, .int x1, .int x2] N I L P = sm_at (sm_ex d) none 194 0 [some (.int x0), some (.int x1), some (.int x2), none, none, none] [] N I L P := ex_in rfl rfl
theorem e195 : sm_ex (d + 1) 195 [.ref a, .int x0, .int x1, .int x2, .int x3] N I L P = sm_at (sm_ex d) none 195 0 [some (.ref a), some (.int x0), some (.int x1), some (.int x2), some (.int x3), none, none, none] [] N I L P := ex_in rfl rfl
theorem e196 : sm_ex (d + 1) 196 [.ref a, .int x0] N I L P = sm_at (sm_ex d) none 196 0 [some (.ref a), some (.int x0), none] [] N I L P := ex_in rfl rfl
theorem e197 : sm_ex (d + 1) 197 [.ref a, .int x0, .int x1] N I L P = sm_at (sm_ex d) none 197 0 [some (.ref a), some (.int x0), some (.int x1)] [] N I L P := ex_in rfl rfl
theorem e198 : sm_ex (d + 1) 198 [.ref a, .int x0] N I L P = sm_at (sm_ex d) none 198 0 [some (.ref a), some (.int x0), none, none, none, none, none, none] [] N I L P := ex_in rfl rfl
theorem e199 : sm_ex (d + 1) 199 [.ref a] N I L P = sm_at (sm_ex d) none 199 0 [some (.ref a), none, none] [] N I L P := ex_in rfl rfl
theorem e200 : sm_ex (d + 1) 200 [.ref a] N I L P = sm_at (sm_ex d) none 200 0 [some (.ref a), none, none, none, none] [] N I L P := ex_in rfl rfl
theorem e201 : sm_ex (d + 1) 201 [.ref a] N I L P = sm_at (sm_ex d) none 201 0 [some (.ref a)] [] N I L P := ex_in rfl rfl
theorem e202 : sm_ex (d + 1) 202 [.ref a, .int x0] N I L P = sm_at (sm_ex d) none 202 0 [some (.ref a), some (.int x0), none, none] [] N I L P := ex_in rfl rfl
theorem e203 : sm_ex (d + 1) 203 [.ref a, .int x0] N I L P = sm_at (sm_ex d) none 203 0 [some (.ref a), some (.int x0), none] [] N I L P := ex_in rfl rfl
theorem e204 : sm_ex (d + 1) 204 [.ref a, .int x0, .int x1, .int x2] N I L P = sm_at (sm_ex d) none 204 0 [some (.ref a), some (.int x0), some (.int x1), some (.int x2), none, none, none, none, none] [] N I L P := ex_in rfl rfl
theorem e205 : sm_ex (d + 1) 205 [.ref a] N I L P = sm_at (sm_ex d) none 205 0 [some (.ref a), none] [] N I L P := ex_in rfl rfl
theorem e206 : sm_ex (d + 1) 206 [.ref a] N I L P = sm_at (sm_ex d) none 206 0 [some (.ref a), none] [] N I L P := ex_in rfl rfl
theorem e207 : sm_ex (d + 1) 207 [.ref a] N I L P = sm_at (sm_ex d) none 207 0 [some (.ref a), none, none] [] N I L P := ex_in rfl rfl
theorem e208 : sm_ex (d + 1) 208 [.ref a, .int x0] N I L P = sm_at (sm_ex d) none 208 0 [some (.ref a), some (.int x0)] [] N I L P := ex_in rfl rfl
theorem e209 : sm_ex (d + 1) 209 [.ref a, .int x0] N I L P = sm_at (sm_ex d) none 209 0 [some (.ref a), some (.int x0)] [] N I L P := ex_in rfl rfl
theorem e210 : sm_ex (d + 1) 210 [.ref a, .long z0] N I L P = sm_at (sm_ex d) none 210 0 [some (.ref a), some (.long z0), none] [] N I L P := ex_in rfl rfl
theorem e211 : sm_ex (d + 1) 211 [.ref a] N I L P = sm_at (sm_ex d) none 211 0 [some (.ref a), none] [] N I L P := ex_in rfl rfl
theorem e212 : sm_ex (d + 1) 212 [.ref a] N I L P = sm_at (sm_ex d) none 212 0 [some (.ref a), none, none] [] N I L P := ex_in rfl rfl
theorem e213 : sm_ex (d + 1) 213 [.int x0] N I L P = sm_at (sm_ex d) none 213 0 [some (.int x0)] [] N I L P := ex_in rfl rfl
theorem e214 : sm_ex (d + 1) 214 [.int x0, .int x1] N I L P = sm_at (sm_ex d) none 214 0 [some (.int x0), some (.int x1)] [] N I L P := ex_in rfl rfl
theorem e215 : sm_ex (d + 1) 215 [.ref a, .int x0] N I L P = sm_at (sm_ex d) none 215 0 [some (.ref a), some (.int x0), none, none] [] N I L P := ex_in rfl rfl
end ENT
