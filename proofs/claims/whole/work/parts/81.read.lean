section BT
variable {d N : Nat} {I J : sm_Im} {L : sm_Lm} {P : sm_Pm} {sw : Bool} {x y z u v : Int32} {a b m n q j p k c s : Nat}
theorem i32 {x y : Int32} (h : x.toBitVec = y.toBitVec) : x = y := Int32.toBitVec_inj.mp h
theorem tbN (n : Nat) : (nI n).toBitVec = BitVec.ofNat 32 n := rfl
theorem andI (ha : a < 4294967296) (hb : b < 4294967296) : nI a &&& nI b = nI (a &&& b) := by
  apply i32
  rw [Int32.toBitVec_and, tbN, tbN, tbN]
  apply BitVec.eq_of_toNat_eq
  rw [BitVec.toNat_and, BitVec.toNat_ofNat, BitVec.toNat_ofNat, BitVec.toNat_ofNat, Nat.mod_eq_of_lt ha, Nat.mod_eq_of_lt hb, Nat.mod_eq_of_lt (Nat.and_lt_two_pow (n := 32) _ hb)]
theorem orI (ha : a < 4294967296) (hb : b < 4294967296) : nI a ||| nI b = nI (a ||| b) := by
  apply i32
  rw [Int32.toBitVec_or, tbN, tbN, tbN]
  apply BitVec.eq_of_toNat_eq
  rw [BitVec.toNat_or, BitVec.toNat_ofNat, BitVec.toNat_ofNat, BitVec.toNat_ofNat, Nat.mod_eq_of_lt ha, Nat.mod_eq_of_lt hb, Nat.mod_eq_of_lt (Nat.or_lt_two_pow (n := 32) ha hb)]
/-- a without b -/
def adn (a b : Nat) : Nat := a &&& (2 ^ 32 - (b + 1))
theorem adn_le : adn a b ≤ a := Nat.and_le_left
theorem notI (hb : b < 4294967296) : nI b ^^^ -1 = nI (2 ^ 32 - (b + 1)) := by
  apply i32
  rw [Int32.toBitVec_xor, tbN, tbN, show (-1 : Int32).toBitVec = BitVec.allOnes 32 from by decide, BitVec.xor_allOnes]
  apply BitVec.eq_of_toNat_eq
  rw [BitVec.toNat_not, BitVec.toNat_ofNat, BitVec.toNat_ofNat, Nat.mod_eq_of_lt hb]
  omega
theorem adnI (ha : a < 4294967296) (hb : b < 4294967296) : nI a &&& (nI b ^^^ -1) = nI (adn a b) := by
  rw [notI hb, andI ha (by omega)]; rfl
theorem tb_adn (ha : a < 4294967296) (hb : b < 4294967296) : (adn a b).testBit k = (a.testBit k && !b.testBit k) := by
  unfold adn
  rw [Nat.testBit_and, Nat.testBit_two_pow_sub_succ (n := 32) hb]
  by_cases h : k < 32
  · simp [h]
  · have : a.testBit k = false := Nat.testBit_lt_two_pow (Nat.lt_of_lt_of_le (show a < 2 ^ 32 from ha) (Nat.pow_le_pow_right (by decide) (by omega)))
    rw [this]; rfl
theorem tb_div (s k : Nat) : s / 2 ^ k % 2 = if s.testBit k = true then 1 else 0 := by
  rw [Nat.testBit_eq_decide_div_mod_eq]
  have := Nat.mod_lt (s / 2 ^ k) (show 0 < 2 by decide)
  by_cases h : s / 2 ^ k % 2 = 1
  · simp [h]
  · simp [show s / 2 ^ k % 2 = 0 by omega]
theorem pop_s (s k : Nat) : pop s (k + 1) = pop s k + if s.testBit k = true then 1 else 0 := by rw [← tb_div]; rfl
theorem bitT (hs : s < 2147483648) (hk : k < 32) : ((nI s >>> (nI k &&& 31)) &&& nI 1 = 0) = ¬ s.testBit k = true := by
  rw [shrN hs hk, and1 _ (Nat.lt_of_le_of_lt (Nat.div_le_self _ _) (by omega)), eq00 (by omega), tb_div, eq_iff_iff]
  by_cases h : s.testBit k = true <;> simp [h]
theorem bitT1 (hs : s < 2147483648) (hk : k < 32) : ((nI s >>> (nI k &&& 31)) &&& nI 1 = nI 1) = (s.testBit k = true) := by
  rw [shrN hs hk, and1 _ (Nat.lt_of_le_of_lt (Nat.div_le_self _ _) (by omega)), eqN (by omega) (by decide), tb_div, eq_iff_iff]
  by_cases h : s.testBit k = true <;> simp [h]
/-- the library's count of bits, for sets of 16 -/
theorem cu32 : ∀ k, k < 32 → ((nI k).toUInt32 &&& Int32.toUInt32 31) = UInt32.ofNat k := by decide +kernel
theorem shuN (hn : n < 4294967296) (hk : k < 32) : ((nI n).toUInt32 >>> ((nI k).toUInt32 &&& Int32.toUInt32 31)).toInt32 = nI (n / 2 ^ k) := by
  rw [cu32 k hk]
  apply i32
  apply BitVec.eq_of_toNat_eq
  show ((nI n).toUInt32 >>> UInt32.ofNat k).toNat = (BitVec.ofNat 32 _).toNat
  have h1 : (UInt32.ofNat k).toNat = k := by
    show (BitVec.ofNat 32 k).toNat = k
    rw [BitVec.toNat_ofNat, Nat.mod_eq_of_lt (by omega)]
  have h2 : (nI n).toUInt32.toNat = n := by
    show (BitVec.ofNat 32 n).toNat = n
    rw [BitVec.toNat_ofNat, Nat.mod_eq_of_lt hn]
  rw [UInt32.toNat_shiftRight, h1, h2, Nat.mod_eq_of_lt hk, Nat.shiftRight_eq_div_pow, BitVec.toNat_ofNat, Nat.mod_eq_of_lt (Nat.lt_of_le_of_lt (Nat.div_le_self _ _) hn)]
def bc1 (s : Nat) : Nat := s - (s / 2 ^ 1 &&& 1431655765)
def bc2 (s : Nat) : Nat := (s &&& 858993459) + (s / 2 ^ 2 &&& 858993459)
def bc3 (s : Nat) : Nat := (s + s / 2 ^ 4) &&& 252645135
def bc4 (s : Nat) : Nat := s + s / 2 ^ 8
def bc5 (s : Nat) : Nat := (s + s / 2 ^ 16) &&& 63
def bcA (s : Nat) : Nat := bc5 (bc4 (bc3 (bc2 (bc1 s))))
def pp (s : Nat) : Nat := s % 2 + s / 2 % 2 + s / 4 % 2 + s / 8 % 2 + s / 16 % 2 + s / 32 % 2 + s / 64 % 2 + s / 128 % 2 + s / 256 % 2 + s / 512 % 2 + s / 1024 % 2 + s / 2048 % 2 + s / 4096 % 2 + s / 8192 % 2 + s / 16384 % 2 + s / 32768 % 2
theorem pp_pop (s : Nat) : pop s 16 = pp s := by
  simp only [pop, pp, Nat.reducePow, Nat.div_one, Nat.zero_add]
theorem and_split {a b m0 m1 : Nat} (ha : a < 256) (hm : m0 < 256) : (2 ^ 8 * b + a) &&& (2 ^ 8 * m1 + m0) = 2 ^ 8 * (b &&& m1) + (a &&& m0) := by
  have hx : a &&& m0 < 2 ^ 8 := Nat.lt_of_le_of_lt Nat.and_le_left ha
  apply Nat.eq_of_testBit_eq
  intro i
  rw [Nat.testBit_and, Nat.testBit_two_pow_mul_add _ ha, Nat.testBit_two_pow_mul_add _ hm, Nat.testBit_two_pow_mul_add _ hx]
  by_cases h : i < 8
  · simp only [if_pos h, Nat.testBit_and]
  · simp only [if_neg h, Nat.testBit_and]
def bf1 (a : Nat) : Nat := a / 2 &&& 85
def bg1 (a : Nat) : Nat := a - bf1 a
def bh2 (a : Nat) : Nat := (a &&& 51) + (a / 4 &&& 51)
theorem bx1 : ∀ a, a < 256 → ∀ t, t < 2 → (128 * t + a / 2) &&& 85 = bf1 a := by decide +kernel
theorem bx2 : ∀ b, b < 256 → b / 2 &&& 5592405 = bf1 b := by decide +kernel
theorem bx3 : ∀ a, a < 256 → ∀ t, t < 4 → (64 * t + a / 4) &&& 51 = a / 4 &&& 51 := by decide +kernel
theorem bx4 : ∀ b, b < 256 → b &&& 3355443 = b &&& 51 := by decide +kernel
theorem bx5 : ∀ a, a < 256 → bg1 a < 256 ∧ bf1 a ≤ a ∧ bh2 (bg1 a) ≤ 68 ∧ (bh2 (bg1 a) + bh2 (bg1 a) / 16) % 16 = a % 2 + a / 2 % 2 + a / 4 % 2 + a / 8 % 2 + a / 16 % 2 + a / 32 % 2 + a / 64 % 2 + a / 128 % 2 := by decide +kernel
theorem bx9 : ∀ a, a < 256 → bh2 (bg1 a) % 16 ≤ 4 := by decide +kernel
theorem bx6 : ∀ b, b < 128 → b &&& 986895 = b % 16 := by decide +kernel
theorem bx7 (x : Nat) : x &&& 15 = x % 16 := Nat.and_two_pow_sub_one_eq_mod x 4
theorem bx8 (x : Nat) : x &&& 63 = x % 64 := Nat.and_two_pow_sub_one_eq_mod x 6
theorem bcs1 (ha : a < 256) (hb : b < 256) : bc1 (2 ^ 8 * b + a) = 2 ^ 8 * bg1 b + bg1 a := by
  have h1 := bx1 a ha (b % 2) (by omega)
  have h2 := bx2 b hb
  have h3 := (bx5 a ha).2.1
  have h4 := (bx5 b hb).2.1
  have e : (2 ^ 8 * b + a) / 2 ^ 1 = 2 ^ 8 * (b / 2) + (128 * (b % 2) + a / 2) := by omega
  unfold bc1
  rw [e, show 1431655765 = 2 ^ 8 * 5592405 + 85 from rfl, and_split (by omega) (by decide), h1, h2]
  unfold bg1
  omega
theorem bcs2 (ha : a < 256) (hb : b < 256) : bc2 (2 ^ 8 * b + a) = 2 ^ 8 * bh2 b + bh2 a := by
  have h1 := bx3 a ha (b % 4) (by omega)
  have h2 := bx4 b hb
  have h3 := bx4 (b / 4) (by omega)
  have e : (2 ^ 8 * b + a) / 2 ^ 2 = 2 ^ 8 * (b / 4) + (64 * (b % 4) + a / 4) := by omega
  unfold bc2
  rw [e, show 858993459 = 2 ^ 8 * 3355443 + 51 from rfl, and_split (by omega) (by decide), and_split (by omega) (by decide), h1, h2, h3]
  unfold bh2
  omega
theorem bcs3 (ha : a ≤ 68) (hb : b ≤ 68) (hb4 : b % 16 ≤ 4) : bc3 (2 ^ 8 * b + a) = 2 ^ 8 * ((b + b / 16) % 16) + (a + a / 16) % 16 := by
  have e : (2 ^ 8 * b + a) + (2 ^ 8 * b + a) / 2 ^ 4 = 2 ^ 8 * (b + b / 16) + (a + a / 16 + 16 * (b % 16)) := by omega
  unfold bc3
  rw [e, show 252645135 = 2 ^ 8 * 986895 + 15 from rfl, and_split (by omega) (by decide), bx6 _ (by omega), bx7]
  omega
theorem bc_pop (hs : s < 65536) : bcA s = pop s 16 := by
  rw [pp_pop]
  obtain ⟨a, b, ha, hb, rfl⟩ : ∃ a b, a < 256 ∧ b < 256 ∧ s = 2 ^ 8 * b + a := ⟨s % 256, s / 256, by omega, by omega, by omega⟩
  have h3 := bx5 a ha
  have h4 := bx5 b hb
  unfold bcA
  rw [bcs1 ha hb, bcs2 h3.1 h4.1, bcs3 h3.2.2.1 h4.2.2.1 (bx9 b hb), h3.2.2.2, h4.2.2.2]
  have d0 : ∀ k, k ≤ 8 → (2 ^ 8 * b + a) / 2 ^ (8 + k) = b / 2 ^ k := fun k hk => by rw [Nat.pow_add, ← Nat.div_div_eq_div_mul, Nat.mul_add_div (by decide), Nat.div_eq_of_lt ha, Nat.add_zero]
  have d1 : ∀ k, k < 8 → (2 ^ 8 * b + a) / 2 ^ k % 2 = a / 2 ^ k % 2 := fun k hk => by
    rw [← Nat.toNat_testBit, ← Nat.toNat_testBit, Nat.testBit_two_pow_mul_add _ ha, if_pos hk]
  have q0 := d1 0 (by decide); have q1 := d1 1 (by decide); have q2 := d1 2 (by decide); have q3 := d1 3 (by decide)
  have q4 := d1 4 (by decide); have q5 := d1 5 (by decide); have q6 := d1 6 (by decide); have q7 := d1 7 (by decide)
  have r0 := d0 0 (by decide); have r1 := d0 1 (by decide); have r2 := d0 2 (by decide); have r3 := d0 3 (by decide)
  have r4 := d0 4 (by decide); have r5 := d0 5 (by decide); have r6 := d0 6 (by decide); have r7 := d0 7 (by decide)
  simp only [Nat.reducePow, Nat.reduceAdd, Nat.div_one] at q0 q1 q2 q3 q4 q5 q6 q7 r0 r1 r2 r3 r4 r5 r6 r7
  have key : pp (2 ^ 8 * b + a) = (a % 2 + a / 2 % 2 + a / 4 % 2 + a / 8 % 2 + a / 16 % 2 + a / 32 % 2 + a / 64 % 2 + a / 128 % 2) + (b % 2 + b / 2 % 2 + b / 4 % 2 + b / 8 % 2 + b / 16 % 2 + b / 32 % 2 + b / 64 % 2 + b / 128 % 2) := by
    unfold pp
    simp only [Nat.reducePow]
    rw [q0, q1, q2, q3, q4, q5, q6, q7, r0, r1, r2, r3, r4, r5, r6, r7]
    simp only [Nat.add_assoc]
  rw [key]
  have m : ∀ x, x % 2 ≤ 1 := fun x => by omega
  have u1 := m a; have u2 := m (a / 2); have u3 := m (a / 4); have u4 := m (a / 8); have u5 := m (a / 16); have u6 := m (a / 32); have u7 := m (a / 64); have u8 := m (a / 128)
  have v1 := m b; have v2 := m (b / 2); have v3 := m (b / 4); have v4 := m (b / 8); have v5 := m (b / 16); have v6 := m (b / 32); have v7 := m (b / 64); have v8 := m (b / 128)
  have hA : a % 2 + a / 2 % 2 + a / 4 % 2 + a / 8 % 2 + a / 16 % 2 + a / 32 % 2 + a / 64 % 2 + a / 128 % 2 ≤ 8 := Nat.le_trans (Nat.add_le_add (Nat.add_le_add (Nat.add_le_add (Nat.add_le_add (Nat.add_le_add (Nat.add_le_add (Nat.add_le_add u1 u2) u3) u4) u5) u6) u7) u8) (by decide)
  have hB : b % 2 + b / 2 % 2 + b / 4 % 2 + b / 8 % 2 + b / 16 % 2 + b / 32 % 2 + b / 64 % 2 + b / 128 % 2 ≤ 8 := Nat.le_trans (Nat.add_le_add (Nat.add_le_add (Nat.add_le_add (Nat.add_le_add (Nat.add_le_add (Nat.add_le_add (Nat.add_le_add v1 v2) v3) v4) v5) v6) v7) v8) (by decide)
  generalize a % 2 + a / 2 % 2 + a / 4 % 2 + a / 8 % 2 + a / 16 % 2 + a / 32 % 2 + a / 64 % 2 + a / 128 % 2 = A at hA ⊢
  generalize b % 2 + b / 2 % 2 + b / 4 % 2 + b / 8 % 2 + b / 16 % 2 + b / 32 % 2 + b / 64 % 2 + b / 128 % 2 = B at hB ⊢
  clear key u1 u2 u3 u4 u5 u6 u7 u8 v1 v2 v3 v4 v5 v6 v7 v8 q0 q1 q2 q3 q4 q5 q6 q7 r0 r1 r2 r3 r4 r5 r6 r7 d0 d1 h3 h4 hs m
  unfold bc5 bc4
  rw [bx8]
  have e1 : (2 ^ 8 * B + A) / 2 ^ 8 = B := by omega
  rw [e1]
  have e2 : (2 ^ 8 * B + A + B) / 2 ^ 16 = 0 := by omega
  rw [e2]
  omega
theorem j_bitCount (hs : s < 65536) : sm_ex (d + 1) 213 [.int (nI s)] N I L P = some (some (.int (nI (pop s 16))), N, I, L, P) := by
  rw [e213]
  have n1 : s / 2 ^ 1 &&& 1431655765 ≤ s := Nat.le_trans Nat.and_le_left (Nat.div_le_self _ _)
  have n2 : bc1 s ≤ s := Nat.sub_le _ _
  have n3 : bc2 (bc1 s) ≤ 858993459 + 858993459 := Nat.add_le_add Nat.and_le_right Nat.and_le_right
  have n4 : bc3 (bc2 (bc1 s)) ≤ 252645135 := Nat.and_le_right
  have n5 : bc2 (bc1 s) / 2 ^ 4 ≤ bc2 (bc1 s) := Nat.div_le_self _ _
  have n6 : bc3 (bc2 (bc1 s)) / 2 ^ 8 ≤ bc3 (bc2 (bc1 s)) := Nat.div_le_self _ _
  have n7 : bc4 (bc3 (bc2 (bc1 s))) = bc3 (bc2 (bc1 s)) + bc3 (bc2 (bc1 s)) / 2 ^ 8 := rfl
  have n8 : bc4 (bc3 (bc2 (bc1 s))) / 2 ^ 16 ≤ bc4 (bc3 (bc2 (bc1 s))) := Nat.div_le_self _ _
  have n9 : s / 2 ^ 1 ≤ s := Nat.div_le_self _ _
  have n10 : bc1 s / 2 ^ 2 ≤ bc1 s := Nat.div_le_self _ _
  have e1 : nI s - (((nI s).toUInt32 >>> ((nI 1).toUInt32 &&& Int32.toUInt32 31)).toInt32 &&& nI 1431655765) = nI (bc1 s) := by rw [shuN (by omega) (by decide), andI (by omega) (by decide), subN n1]; rfl
  have e2 : (nI (bc1 s) &&& nI 858993459) + (((nI (bc1 s)).toUInt32 >>> ((nI 2).toUInt32 &&& Int32.toUInt32 31)).toInt32 &&& nI 858993459) = nI (bc2 (bc1 s)) := by rw [shuN (by omega) (by decide), andI (by omega) (by decide), andI (by omega) (by decide), addN]; rfl
  have e3 : (nI (bc2 (bc1 s)) + ((nI (bc2 (bc1 s))).toUInt32 >>> ((nI 4).toUInt32 &&& Int32.toUInt32 31)).toInt32) &&& nI 252645135 = nI (bc3 (bc2 (bc1 s))) := by rw [shuN (by omega) (by decide), addN, andI (by omega) (by decide)]; rfl
  have e4 : nI (bc3 (bc2 (bc1 s))) + ((nI (bc3 (bc2 (bc1 s)))).toUInt32 >>> ((nI 8).toUInt32 &&& Int32.toUInt32 31)).toInt32 = nI (bc4 (bc3 (bc2 (bc1 s)))) := by rw [shuN (by omega) (by decide), addN]; rfl
  have e5 : (nI (bc4 (bc3 (bc2 (bc1 s)))) + ((nI (bc4 (bc3 (bc2 (bc1 s))))).toUInt32 >>> ((nI 16).toUInt32 &&& Int32.toUInt32 31)).toInt32) &&& nI 63 = nI (bcA s) := by rw [shuN (by omega) (by decide), addN, andI (by omega) (by decide)]; rfl
  rw [← bc_pop hs]
  simp only [s213_0, s213_1, s213_2, s213_3, s213_4, s213_7, s213_8, s213_9, s213_10, s213_11, s213_14, s213_15, s213_16, s213_17, s213_18, s213_21, s213_22, s213_23, s213_24, s213_25, s213_26, s213_27, s213_28, s213_29, s213_32, s213_33, s213_34, s213_35, s213_36, s213_38, s213_39, s213_40, s213_41, s213_42, s213_43, s213_45, s213_46, s213_47, s213_48, s213_49, s213_51, s213_52, ltI, geL, leL, not_true_eq_false, not_false_eq_true, if_true, if_false, and_self, and_true, true_and, and_false, false_and, or_self, or_true, true_or, or_false, false_or, bo_T, bo_F, bo_e0, nI10, nI00, nI11, nI01, bo_e1, nem, eqL, af_v, af_0, rf_s, rf_n, nn, ite_self, sm_cl, e1, e2, e3, e4, e5]
end BT
