section LAX
variable {I J M : sm_Im} {L : sm_Lm} {sw : Bool} {n i t k c : Nat} {f : Nat → Int32} {x : Int32}
theorem and31 (x : Int32) : ∃ k, k < 32 ∧ x &&& nI 31 = nI k := by
  obtain ⟨n, hn, rfl⟩ := wb_of32 x
  refine ⟨n &&& 31, Nat.lt_of_le_of_lt Nat.and_le_right (by decide), ?_⟩
  exact andI hn (by decide)
theorem gt5 (hn : n ≤ 320) (hi : i ≤ 1000) : (nI i ≤ nI n - nI 5) = (i + 5 ≤ n) := by
  by_cases h : 5 ≤ n
  · rw [subN h, leN (by omega) (by omega), eq_iff_iff]; omega
  · have hd : ∀ n, n < 5 → (nI n - nI 5).toInt < 0 := by decide
    have := hd n (by omega)
    rw [eq_iff_iff, Int32.le_iff_toInt_le, nI_toInt (by omega)]
    omega
theorem lw_case (ht : t < 1000) (H : Inv sw t I) (hi : i + 5 ≤ n) (hn : n ≤ 320) (hZ : lwE n f i t) (hk : k < 32) : ∃ r : sm_Rs, lwG n f 32 i [.int (nI k)] I L sw = some r ∧ r.1 = some (.int 1) := by
  unfold lwG
  match k, hk with
  | 0, _ => rw [s216_32_0]; exact lw_0 ht H hi hn hZ
  | 1, _ => rw [s216_32_1]; exact lw_1 ht H hi hn hZ
  | 2, _ => rw [s216_32_2]; exact lw_2 ht H hi hn hZ
  | 3, _ => rw [s216_32_3]; exact lw_3 ht H hi hn hZ
  | 4, _ => rw [s216_32_4]; exact lw_4 ht H hi hn hZ
  | 5, _ => rw [s216_32_5]; exact lw_5 ht H hi hn hZ
  | 6, _ => rw [s216_32_6]; exact lw_6 ht H hi hn hZ
  | 7, _ => rw [s216_32_7]; exact lw_7 ht H hi hn hZ
  | 8, _ => rw [s216_32_8]; exact lw_8 ht H hi hn hZ
  | 9, _ => rw [s216_32_9]; exact lw_9 ht H hi hn hZ
  | 10, _ => rw [s216_32_10]; exact lw_10 ht H hi hn hZ
  | 11, _ => rw [s216_32_11]; exact lw_11 ht H hi hn hZ
  | 12, _ => rw [s216_32_12]; exact lw_12 ht H hi hn hZ
  | 13, _ => rw [s216_32_13]; exact lw_13 ht H hi hn hZ
  | 14, _ => rw [s216_32_14]; exact lw_14 ht H hi hn hZ
  | 15, _ => rw [s216_32_15]; exact lw_15 ht H hi hn hZ
  | 16, _ => rw [s216_32_16]; exact lw_16 ht H hi hn hZ
  | 17, _ => rw [s216_32_17]; exact lw_17 ht H hi hn hZ
  | 18, _ => rw [s216_32_18]; exact lw_18 ht H hi hn hZ
  | 19, _ => rw [s216_32_19]; exact lw_19 ht H hi hn hZ
  | 20, _ => rw [s216_32_20]; exact lw_20 ht H hi hn hZ
  | 21, _ => rw [s216_32_21]; exact lw_21 ht H hi hn hZ
  | 22, _ => rw [s216_32_22]; exact lw_22 ht H hi hn hZ
  | 23, _ => rw [s216_32_23]; exact lw_23 ht H hi hn hZ
  | 24, _ => rw [s216_32_24]; exact lw_24 ht H hi hn hZ
  | 25, _ => rw [s216_32_25]; exact lw_25 ht H hi hn hZ
  | 26, _ => rw [s216_32_26]; exact lw_26 ht H hi hn hZ
  | 27, _ => rw [s216_32_27]; exact lw_27 ht H hi hn hZ
  | 28, _ => rw [s216_32_28]; exact lw_28 ht H hi hn hZ
  | 29, _ => rw [s216_32_29]; exact lw_29 ht H hi hn hZ
  | 30, _ => rw [s216_32_30]; exact lw_30 ht H hi hn hZ
  | 31, _ =>
    rw [s216_32_d (by decide)]
    exact hZ sw I L (Inv_t H)
  | k + 32, h => exact absurd h (by omega)
theorem lw_loop (hn : n ≤ 320) : ∀ (g i t : Nat) (sw : Bool) (I : sm_Im) (L : sm_Lm), n ≤ i + 5 * g → t ≤ i → i ≤ n → Inv sw t I → ∃ r : sm_Rs, lwG n f 18 i [] I L sw = some r ∧ r.1 = some (.int 1) := by
  intro g
  induction g with
  | zero =>
    intro i t sw I L hg ht hi H
    refine ⟨(some (.int (nI 1)), 81, I, L, pX sw), ?_, rfl⟩
    have c1 := gt5 hn (show i ≤ 1000 by omega)
    have c2 : ¬ i + 5 ≤ n := by omega
    unfold lwG
    rw [s216_18]
    simp (discharger := first | omega | decide) only [s216_19, s216_20x, s216_21, s216_22, s216_23, s216_1115, s216_1116, ltI, geL, leL, not_true_eq_false, not_false_eq_true, if_true, if_false, and_self, and_true, true_and, and_false, false_and, or_self, or_true, true_or, or_false, false_or, bo_T, bo_F, bo_e0, nI10, nI00, nI11, nI01, bo_e1, nem, eqL, af_v, af_0, rf_s, rf_n, nn, ite_self, c1, c2]
  | succ g ih =>
    intro i t sw I L hg ht hi H
    have c1 := gt5 hn (show i ≤ 1000 by omega)
    by_cases c2 : i + 5 ≤ n
    · obtain ⟨k, hk, ek⟩ := and31 (f i)
      have hZ : lwE n f i t := fun s2 I2 L2 hI => by
        obtain ⟨r, hr, hr1⟩ := ih (i + 5) (t + 1) s2 I2 L2 (by omega) (by omega) c2 hI
        refine ⟨r, ?_, hr1⟩
        rw [← hr]
        unfold lwG
        simp (discharger := first | omega | decide) only [s216_1109, s216_1112, addN, sm_cl]
      obtain ⟨r, hr, hr1⟩ := lw_case (L := L) (by omega) H c2 hn hZ hk
      refine ⟨r, ?_, hr1⟩
      rw [← hr]
      unfold lwG
      rw [s216_18]
      simp (discharger := first | omega | decide) only [s216_19, s216_20x, s216_21, s216_22, s216_23, s216_26, s216_27, s216_28x, s216_29, s216_31, ltI, geL, leL, not_true_eq_false, not_false_eq_true, if_true, if_false, and_self, and_true, true_and, and_false, false_and, or_self, or_true, true_or, or_false, false_or, bo_T, bo_F, bo_e0, nI10, nI00, nI11, nI01, bo_e1, nem, eqL, af_v, af_0, rf_s, rf_n, nn, ite_self, c1, c2, ek]
    · refine ⟨(some (.int (nI 1)), 81, I, L, pX sw), ?_, rfl⟩
      unfold lwG
      rw [s216_18]
      simp (discharger := first | omega | decide) only [s216_19, s216_20x, s216_21, s216_22, s216_23, s216_1115, s216_1116, ltI, geL, leL, not_true_eq_false, not_false_eq_true, if_true, if_false, and_self, and_true, true_and, and_false, false_and, or_self, or_true, true_or, or_false, false_or, bo_T, bo_F, bo_e0, nI10, nI00, nI11, nI01, bo_e1, nem, eqL, af_v, af_0, rf_s, rf_n, nn, ite_self, c1, c2]
theorem iC_0 (h : ¬ (c = 16 ∨ c = 31 ∨ c = 39 ∨ c = 52)) : iC c k = nI 0 := by
  unfold iC
  rw [lays_row (by omega), lays_row (by omega), up_row (by omega), up_row (by omega)]
  rfl
theorem Inv_0 (h1 : ∀ r, r ≠ 63 → r ≠ 69 → J r = iC r) (h2 : ∀ k, J 63 k = if k = 25 then -1 else if k = 19 then nI 4 else 0) (h3 : ∀ x, x < 10 → J 69 x = -1) : Inv false 0 J := by
  have e : ∀ c k, ¬ (c = 16 ∨ c = 31 ∨ c = 39 ∨ c = 52 ∨ c = 63 ∨ c = 69) → J c k = nI 0 := fun c k h => by rw [h1 c (by omega) (by omega)]; exact iC_0 (by omega)
  have z : ∀ k, k ≠ 25 → k ≠ 19 → J 63 k = nI 0 := fun k a b => by rw [h2, if_neg a, if_neg b]; rfl
  have e19 : J 63 19 = nI 4 := by rw [h2, if_neg (by decide), if_pos rfl]
  have e25 : J 63 25 = -1 := by rw [h2, if_pos rfl]
  have e164 : J 16 4 = nI 4 := by rw [h1 16 (by decide) (by decide)]; unfold iC; rw [lays_row (by decide), lays_row (by decide), up_row (by decide), up_same]
  have e165 : J 16 5 = nI 0 := by rw [h1 16 (by decide) (by decide)]; unfold iC; rw [lays_row (by decide), lays_row (by decide), up_row (by decide), up_cell (by decide)]; rfl
  have e39 : ∀ p, p < 10 → J 39 p = -1 := fun p hp => by rw [h1 39 (by decide) (by decide)]; unfold iC; rw [lays_row (by decide), lays_at0 hp]
  refine ⟨⟨fun _ => 0, fun k hk => ⟨e 8 k (by decide), e 64 k (by decide), Nat.zero_le _⟩, fun _ _ _ _ => rfl, fun _ _ => rfl⟩, ⟨fun _ => 0, fun k hk => ⟨e 36 k (by decide), e 65 k (by decide), Nat.succ_pos 5⟩⟩, ⟨0, fun _ => 0, by decide, e 1 1 (by decide), z 3 (by decide) (by decide), fun k hk => absurd hk (Nat.not_lt_zero _)⟩, ⟨fun _ _ => 0, ⟨e 37 2 (by decide), fun k hk => absurd hk (Nat.not_lt_zero _), fun p hp => e39 p hp⟩, ⟨z 8 (by decide) (by decide), fun k hk => absurd hk (Nat.not_lt_zero _), fun p hp => h3 p hp⟩, Nat.zero_le _, fun k hk => absurd hk (Nat.not_lt_zero _), fun p hp hb => absurd hb (Nat.not_lt_zero _)⟩, ⟨fun _ _ => 0, ⟨e 3 3 (by decide), fun k hk => absurd hk (Nat.not_lt_zero _)⟩, ⟨z 12 (by decide) (by decide), fun k hk => absurd hk (Nat.not_lt_zero _)⟩, TOk_0⟩, ⟨0, fun _ => 0, by decide, e 14 1 (by decide), z 17 (by decide) (by decide), fun k hk => absurd hk (Nat.not_lt_zero _)⟩, ⟨fun a b => if a = 0 ∧ b = 0 then 4 else 0, ⟨e164, e165, fun k hk => absurd hk (Nat.not_lt_zero _)⟩, ⟨e19, z 21 (by decide) (by decide), fun k hk => absurd hk (Nat.not_lt_zero _)⟩, Or.inr (Or.inl rfl), Nat.zero_le _, fun k hk => absurd hk (Nat.not_lt_zero _)⟩, ⟨0, 0, Nat.le_refl _, by decide, e 0 10 (by decide), z 9 (by decide) (by decide), e 0 11 (by decide), z 15 (by decide) (by decide)⟩, ⟨0, 0, z 9 (by decide) (by decide), z 20 (by decide) (by decide), Nat.le_refl _, Nat.le_refl _, Or.inl ⟨e25, e 23 4 (by decide)⟩⟩⟩
/-- THE PURE PART: the small machine's law answers 1 on every script -/
theorem law_pure (L : Nat) (xs : Nat → Int32) (hL : L ≤ 320) : ∃ r : sm_Rs, sm_at (sm_ex 40) (some (L, xs)) 216 0 [some (.ref 1048578), none, none, none] [] 0 (fun _ _ => 0) (fun _ _ => 0) (fun _ _ => none) = some r ∧ r.1 = some (.int 1) := by
  obtain ⟨J, h1, h2, h3, h4⟩ := m_init (d := 36)
  obtain ⟨r, hr, hr1⟩ := lw_loop (n := L) (f := xs) hL L 0 0 false J zL (by omega) (Nat.le_refl _) (Nat.zero_le _) (Inv_0 h1 h2 h3)
  refine ⟨r, ?_, hr1⟩
  rw [← hr]
  have ci := c_init (d := 36)
  have qi : sm_z iC 63 0 = iC := by unfold iC; rw [z_lays (by decide), z_lays (by decide), z_up (by decide), z_up (by decide), z_I]
  have qp : sm_z (pL tC) 63 none = pL tC := pz (by decide)
  have qe : sm_z (pL []) 0 none = pL [] := pz rfl
  show sm_at (sm_ex 40) (some (L, xs)) 216 0 [some (.ref 1048578), none, none, none] [] 0 zI zL (pL []) = _
  unfold lwG
  simp (discharger := first | decide | rfl) only [s216_0, s216_3, s216_4, s216_7, s216_7n, s216_8, s216_11, s216_12, s216_15, s216_15n, s216_16, s216_17, s216_19, s216_20, s216_20x, s216_21, s216_22, s216_23, s216_26, s216_27, s216_28, s216_28x, s216_29, s216_31, s216_32_0, s216_32_1, s216_32_2, s216_32_3, s216_32_4, s216_32_5, s216_32_6, s216_32_7, s216_32_8, s216_32_9, s216_32_10, s216_32_11, s216_32_12, s216_32_13, s216_32_14, s216_32_15, s216_32_16, s216_32_17, s216_32_18, s216_32_19, s216_32_20, s216_32_21, s216_32_22, s216_32_23, s216_32_24, s216_32_25, s216_32_26, s216_32_27, s216_32_28, s216_32_29, s216_32_30, s216_32_d, s216_172, s216_172n, s216_173, s216_174, s216_175, s216_176, s216_177, s216_177x, s216_178, s216_179, s216_180, s216_181, s216_182, s216_182x, s216_183, s216_184, s216_185, s216_186, s216_187, s216_187x, s216_188, s216_191, s216_191n, s216_192, s216_193, s216_194, s216_195, s216_196, s216_196x, s216_197, s216_198, s216_199, s216_200, s216_201, s216_201x, s216_202, s216_203, s216_204, s216_205, s216_206, s216_206x, s216_207, s216_210, s216_213, s216_214, s216_215, s216_215n, s216_216, s216_217, s216_218, s216_219, s216_220, s216_220x, s216_221, s216_222, s216_223, s216_224, s216_225, s216_225x, s216_226, s216_229, s216_229n, s216_230, s216_231, s216_232, s216_233, s216_234, s216_234x, s216_235, s216_236, s216_237, s216_238, s216_239, s216_239x, s216_240, s216_243, s216_246, s216_247, s216_248, s216_248n, s216_249, s216_250, s216_251, s216_252, s216_253, s216_253x, s216_254, s216_255, s216_257, s216_258, s216_259, s216_260, s216_261, s216_262, s216_262x, s216_263, s216_264, s216_267, s216_268, s216_269, s216_272, s216_272n, s216_273, s216_274, s216_275, s216_276, s216_277, s216_277x, s216_278, s216_279, s216_281, s216_282, s216_283, s216_284, s216_285, s216_286, s216_286x, s216_287, s216_288, s216_291, s216_292, s216_293, s216_296, s216_299, s216_300, s216_301, s216_301n, s216_302, s216_305, s216_305n, s216_306, s216_309, s216_312, s216_313, s216_314, s216_314n, s216_315, s216_318, s216_318n, s216_319, s216_322, s216_325, s216_326, s216_327, s216_327n, s216_328, s216_331, s216_331n, s216_332, s216_335, s216_338, s216_339, s216_340, s216_340n, s216_341, s216_342, s216_343, s216_344, s216_345, s216_345x, s216_346, s216_347, s216_348, s216_349, s216_350, s216_350x, s216_351, s216_354, s216_354n, s216_355, s216_356, s216_357, s216_358, s216_359, s216_359x, s216_360, s216_361, s216_362, s216_363, s216_364, s216_364x, s216_365, s216_368, s216_371, s216_372, s216_373, s216_373n, s216_374, s216_375, s216_376, s216_377, s216_378, s216_378x, s216_379, s216_380, s216_381, s216_382, s216_383, s216_383x, s216_384, s216_387, s216_387n, s216_388, s216_389, s216_390, s216_391, s216_392, s216_392x, s216_393, s216_394, s216_395, s216_396, s216_397, s216_397x, s216_398, s216_401, s216_404, s216_405, s216_406, s216_406n, s216_407, s216_408, s216_409, s216_410, s216_411, s216_411x, s216_412, s216_413, s216_414, s216_415, s216_416, s216_416x, s216_417, s216_420, s216_420n, s216_421, s216_422, s216_423, s216_424, s216_425, s216_425x, s216_426, s216_427, s216_428, s216_429, s216_430, s216_430x, s216_431, s216_434, s216_437, s216_438, s216_439, s216_439n, s216_440, s216_441, s216_442, s216_443, s216_444, s216_444x, s216_445, s216_446, s216_447, s216_448, s216_449, s216_449x, s216_450, s216_453, s216_453n, s216_454, s216_455, s216_456, s216_457, s216_458, s216_458x, s216_459, s216_460, s216_461, s216_462, s216_463, s216_463x, s216_464, s216_467, s216_470, s216_471, s216_472, s216_472n, s216_473, s216_476, s216_476n, s216_477, s216_480, s216_483, s216_484, s216_485, s216_485n, s216_486, s216_487, s216_488, s216_489, s216_490, s216_490x, s216_491, s216_492, s216_493, s216_494, s216_495, s216_495x, s216_496, s216_497, s216_498, s216_499, s216_500, s216_500x, s216_501, s216_504, s216_504n, s216_505, s216_506, s216_507, s216_508, s216_509, s216_509x, s216_510, s216_511, s216_512, s216_513, s216_514, s216_514x, s216_515, s216_516, s216_517, s216_518, s216_519, s216_519x, s216_520, s216_523, s216_526, s216_527, s216_528, s216_528n, s216_529, s216_530, s216_531, s216_532, s216_533, s216_533x, s216_534, s216_535, s216_536, s216_537, s216_538, s216_538x, s216_539, s216_540, s216_541, s216_542, s216_543, s216_543x, s216_544, s216_545, s216_546, s216_547, s216_548, s216_548x, s216_549, s216_552, s216_552n, s216_553, s216_554, s216_555, s216_556, s216_557, s216_557x, s216_558, s216_559, s216_560, s216_561, s216_562, s216_562x, s216_563, s216_564, s216_565, s216_566, s216_567, s216_567x, s216_568, s216_569, s216_570, s216_571, s216_572, s216_572x, s216_573, s216_576, s216_577, s216_580, s216_581, s216_582, s216_582n, s216_583, s216_586, s216_586n, s216_587, s216_590, s216_593, s216_594, s216_595, s216_595n, s216_596, s216_597, s216_598, s216_599, s216_600, s216_600x, s216_601, s216_602, s216_603, s216_604, s216_605, s216_605x, s216_606, s216_609, s216_609n, s216_610, s216_611, s216_612, s216_613, s216_614, s216_614x, s216_615, s216_616, s216_617, s216_618, s216_619, s216_619x, s216_620, s216_623, s216_626, s216_627, s216_628, s216_628n, s216_629, s216_630, s216_631, s216_632, s216_633, s216_633x, s216_634, s216_635, s216_636, s216_637, s216_638, s216_638x, s216_639, s216_640, s216_641, s216_642, s216_643, s216_643x, s216_644, s216_647, s216_647n, s216_648, s216_649, s216_650, s216_651, s216_652, s216_652x, s216_653, s216_654, s216_655, s216_656, s216_657, s216_657x, s216_658, s216_659, s216_660, s216_661, s216_662, s216_662x, s216_663, s216_666, s216_669, s216_670, s216_671, s216_671n, s216_672, s216_673, s216_674, s216_675, s216_676, s216_676x, s216_677, s216_678, s216_679, s216_680, s216_681, s216_681x, s216_682, s216_685, s216_685n, s216_686, s216_687, s216_688, s216_689, s216_690, s216_690x, s216_691, s216_692, s216_693, s216_694, s216_695, s216_695x, s216_696, s216_699, s216_702, s216_703, s216_704, s216_704n, s216_705, s216_706, s216_707, s216_708, s216_709, s216_709x, s216_710, s216_711, s216_712, s216_713, s216_714, s216_714x, s216_715, s216_716, s216_717, s216_718, s216_719, s216_719x, s216_720, s216_723, s216_723n, s216_724, s216_725, s216_726, s216_727, s216_728, s216_728x, s216_729, s216_730, s216_731, s216_732, s216_733, s216_733x, s216_734, s216_735, s216_736, s216_737, s216_738, s216_738x, s216_739, s216_742, s216_745, s216_746, s216_747, s216_747n, s216_748, s216_749, s216_750, s216_751, s216_752, s216_752x, s216_753, s216_754, s216_755, s216_756, s216_757, s216_757x, s216_758, s216_759, s216_760, s216_761, s216_762, s216_762x, s216_763, s216_766, s216_766n, s216_767, s216_768, s216_769, s216_770, s216_771, s216_771x, s216_772, s216_773, s216_774, s216_775, s216_776, s216_776x, s216_777, s216_778, s216_779, s216_780, s216_781, s216_781x, s216_782, s216_785, s216_788, s216_789, s216_790, s216_790n, s216_791, s216_792, s216_793, s216_794, s216_795, s216_795x, s216_796, s216_797, s216_798, s216_799, s216_800, s216_800x, s216_801, s216_802, s216_803, s216_804, s216_805, s216_805x, s216_806, s216_809, s216_809n, s216_810, s216_811, s216_812, s216_813, s216_814, s216_814x, s216_815, s216_816, s216_817, s216_818, s216_819, s216_819x, s216_820, s216_821, s216_822, s216_823, s216_824, s216_824x, s216_825, s216_828, s216_831, s216_832, s216_833, s216_833n, s216_834, s216_835, s216_836, s216_837, s216_838, s216_838x, s216_839, s216_842, s216_842n, s216_843, s216_844, s216_845, s216_846, s216_847, s216_847x, s216_848, s216_851, s216_854, s216_855, s216_856, s216_856n, s216_857, s216_858, s216_859, s216_860, s216_861, s216_861x, s216_862, s216_863, s216_864, s216_865, s216_866, s216_866x, s216_867, s216_868, s216_869, s216_870, s216_871, s216_871x, s216_872, s216_873, s216_874, s216_875, s216_876, s216_876x, s216_877, s216_880, s216_880n, s216_881, s216_882, s216_883, s216_884, s216_885, s216_885x, s216_886, s216_887, s216_888, s216_889, s216_890, s216_890x, s216_891, s216_892, s216_893, s216_894, s216_895, s216_895x, s216_896, s216_897, s216_898, s216_899, s216_900, s216_900x, s216_901, s216_904, s216_905, s216_908, s216_909, s216_910, s216_910n, s216_911, s216_912, s216_913, s216_914, s216_915, s216_915x, s216_916, s216_919, s216_919n, s216_920, s216_921, s216_922, s216_923, s216_924, s216_924x, s216_925, s216_928, s216_931, s216_932, s216_933, s216_933n, s216_934, s216_935, s216_936, s216_937, s216_938, s216_938x, s216_939, s216_940, s216_941, s216_942, s216_943, s216_943x, s216_944, s216_947, s216_947n, s216_948, s216_949, s216_950, s216_951, s216_952, s216_952x, s216_953, s216_954, s216_955, s216_956, s216_957, s216_957x, s216_958, s216_961, s216_964, s216_965, s216_966, s216_966n, s216_967, s216_970, s216_970n, s216_971, s216_974, s216_977, s216_978, s216_979, s216_979n, s216_980, s216_981, s216_982, s216_983, s216_984, s216_984x, s216_985, s216_988, s216_988n, s216_989, s216_990, s216_991, s216_992, s216_993, s216_993x, s216_994, s216_997, s216_1000, s216_1001, s216_1002, s216_1002n, s216_1003, s216_1004, s216_1005, s216_1006, s216_1007, s216_1007x, s216_1008, s216_1009, s216_1010, s216_1011, s216_1012, s216_1012x, s216_1013, s216_1014, s216_1015, s216_1016, s216_1017, s216_1017x, s216_1018, s216_1021, s216_1021n, s216_1022, s216_1023, s216_1024, s216_1025, s216_1026, s216_1026x, s216_1027, s216_1028, s216_1029, s216_1030, s216_1031, s216_1031x, s216_1032, s216_1033, s216_1034, s216_1035, s216_1036, s216_1036x, s216_1037, s216_1040, s216_1041, s216_1044, s216_1045, s216_1046, s216_1046n, s216_1047, s216_1050, s216_1050n, s216_1051, s216_1054, s216_1057, s216_1058, s216_1059, s216_1059n, s216_1060, s216_1063, s216_1063n, s216_1064, s216_1067, s216_1070, s216_1071, s216_1072, s216_1072n, s216_1073, s216_1074, s216_1075, s216_1076, s216_1077, s216_1077x, s216_1078, s216_1081, s216_1081n, s216_1082, s216_1083, s216_1084, s216_1085, s216_1086, s216_1086x, s216_1087, s216_1090, s216_1093, s216_1094, s216_1095, s216_1095n, s216_1096, s216_1099, s216_1099n, s216_1100, s216_1103, s216_1104, s216_1107, s216_1108, s216_1109, s216_1112, s216_1115, s216_1116, z_I, z_L, qe, Nat.reduceAdd, ci, qi, qp, h4, ltI, geL, leL, not_true_eq_false, not_false_eq_true, if_true, if_false, and_self, and_true, true_and, and_false, false_and, or_self, or_true, true_or, or_false, false_or, bo_T, bo_F, bo_e0, nI10, nI00, nI11, nI01, bo_e1, nem, eqL, af_v, af_0, rf_s, rf_n, nn, ite_self, sm_cl]
end LAX
