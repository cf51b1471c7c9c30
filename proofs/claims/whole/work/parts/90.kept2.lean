section KP2
variable {d N : Nat} {I J : sm_Im} {L : sm_Lm} {P : sm_Pm} {sw : Bool} {x y z u v : Int32} {a b m n q i j p k c s w o R : Nat} {f : Nat → Int32} {D E W V : Mx} {β : Nat → Nat → Nat} {r t : Nat → Nat}
def cod (k : Nat) : Nat := [1, 2, 3, 4, 5, 8, 9, 10, 11, 15, 16, 17, 22, 23, 29].getD k 0
theorem tab_k : ∀ k, k < 15 → sm_tab 0 k = nI (cod k / 6) ∧ sm_tab 1 k = nI (cod k % 6) ∧ cod k / 6 < 6 ∧ cod k % 6 < 6 ∧ cod k / 6 < cod k % 6 ∧ cod k < 36 := by decide +kernel
def firstO {α : Type} (G : Nat → Option α) : Nat → Nat → Option (Nat × α)
  | 0, _ => none
  | g + 1, i => match G i with
    | some v => some (i, v)
    | none => firstO G g (i + 1)
theorem firstO_t {α : Type} {G : Nat → Option α} {g i : Nat} {v : α} (h : G i = some v) : firstO G (g + 1) i = some (i, v) := by show (match G i with | some v => some (i, v) | none => firstO G g (i + 1)) = _; rw [h]
theorem firstO_f {α : Type} {G : Nat → Option α} {g i : Nat} (h : G i = none) : firstO G (g + 1) i = firstO G g (i + 1) := by show (match G i with | some v => some (i, v) | none => firstO G g (i + 1)) = _; rw [h]
theorem firstO_F (f : Nat → Bool) : ∀ g i, firstF f g i = (firstO (fun i => if f i = true then some () else none) g i).map (fun q => q.1) := by
  intro g
  induction g with
  | zero => intro i; rfl
  | succ g ih =>
    intro i
    show (if f i = true then some i else firstF f g (i + 1)) = _
    by_cases h : f i = true
    · rw [if_pos h, firstO_t (v := ()) (if_pos h)]; rfl
    · rw [if_neg h, firstO_f (if_neg h)]; exact ih (i + 1)
theorem firstO_cong {α : Type} {G G' : Nat → Option α} : ∀ g i, (∀ j, i ≤ j → j < i + g → G j = G' j) → firstO G g i = firstO G' g i := by
  intro g
  induction g with
  | zero => intro i _; rfl
  | succ g ih =>
    intro i h
    have h0 := h i (Nat.le_refl _) (by omega)
    cases e : G i with
    | some v => rw [firstO_t e, firstO_t (h0 ▸ e)]
    | none => rw [firstO_f e, firstO_f (h0 ▸ e)]; exact ih (i + 1) (fun j h1 h2 => h j (by omega) (by omega))
theorem firstF_cong {f f' : Nat → Bool} (g i : Nat) (h : ∀ j, i ≤ j → j < i + g → f j = f' j) : firstF f g i = firstF f' g i := by
  rw [firstO_F, firstO_F]
  congr 1
  exact firstO_cong g i (fun j h1 h2 => by rw [h j h1 h2])
theorem firstF_s (f : Nat → Bool) (g i : Nat) : firstF f (g + 1) i = if f i = true then some i else firstF f g (i + 1) := rfl
def stt (k : Nat) : Nat := [0, 2, 3, 4, 5, 6, 9, 10, 11, 12, 16, 17, 18, 23, 24, 30].getD k 0
theorem stt_s : ∀ k, k < 15 → stt (k + 1) = cod k + 1 := by decide
theorem O_skip {α : Type} {G : Nat → Option α} (hG : ∀ c, c < 36 → ¬ c / 6 < c % 6 → G c = none) : ∀ (n i : Nat), i + n ≤ 36 → (∀ j, i ≤ j → j < i + n → ¬ j / 6 < j % 6) → firstO G (36 - i) i = firstO G (36 - (i + n)) (i + n) := by
  intro n
  induction n with
  | zero => intro i _ _; rfl
  | succ n ih =>
    intro i h1 h2
    rw [show 36 - i = (36 - (i + 1)) + 1 by omega, firstO_f (hG i (by omega) (h2 i (Nat.le_refl _) (by omega))), ih (i + 1) (by omega) (fun j a b => h2 j (by omega) (by omega)), show i + 1 + n = i + (n + 1) by omega]
theorem stt_gap : ∀ k, k < 15 → stt k ≤ cod k ∧ cod k < 36 ∧ ∀ j, j < 36 → stt k ≤ j → j < cod k → ¬ j / 6 < j % 6 := by decide +kernel
theorem O_all {α : Type} {G : Nat → Option α} (hG : ∀ c, c < 36 → ¬ c / 6 < c % 6 → G c = none) : ∀ (n k : Nat), k + n = 15 → firstO G (36 - stt k) (stt k) = (firstO (fun k => G (cod k)) n k).map (fun q => (cod q.1, q.2)) := by
  intro n
  induction n with
  | zero =>
    intro k hk
    obtain rfl : k = 15 := by omega
    have := O_skip hG 6 30 (by decide) (fun j h1 h2 => by omega)
    exact this
  | succ n ih =>
    intro k hk
    obtain ⟨g1, g2, g3⟩ := stt_gap k (by omega)
    have s1 := O_skip hG (cod k - stt k) (stt k) (by omega) (fun j h1 h2 => g3 j (by omega) h1 (by omega))
    rw [show stt k + (cod k - stt k) = cod k by omega] at s1
    rw [s1, show 36 - cod k = (36 - (cod k + 1)) + 1 by omega]
    cases e : G (cod k) with
    | some v =>
      rw [firstO_t e, firstO_t (G := fun k => G (cod k)) (i := k) e]
      rfl
    | none =>
      rw [firstO_f e, firstO_f (G := fun k => G (cod k)) (i := k) e, ← ih (k + 1) (by omega), stt_s k (by omega)]
theorem F_all {F : Nat → Bool} (hF : ∀ c, c < 36 → ¬ c / 6 < c % 6 → F c = false) (n k : Nat) (h : k + n = 15) : firstF F (36 - stt k) (stt k) = (firstF (fun k => F (cod k)) n k).map cod := by
  rw [firstO_F, firstO_F, O_all (fun c h1 h2 => by rw [hF c h1 h2]; rfl) n k h, Option.map_map, Option.map_map]
  rfl
/-- what is told of pairs -/
def sr (e : Bool) (s1 : Option Nat) (s2 : Option (Nat × Nat)) : Int32 × Option Nat × Option Nat := match e with
  | false => (nI 0, none, none)
  | true => match s1 with
    | some c => (nI 1, some c, none)
    | none => match s2 with
      | some q => (nI 2, some q.1, some q.2)
      | none => (-1, none, none)
def tl (q : Int32 × Option Nat × Option Nat) (w : Nat) : Int32 := if w = 0 then q.1 else match (if w < 3 then q.2.1 else q.2.2) with
  | none => -1
  | some c => if w % 2 = 1 then nI (c / 6) else nI (c % 6)
def nte (I : sm_Im) (a k : Nat) : sm_Im := sm_up (sm_up I 13 a (nI (cod k / 6))) 13 (a + 1) (nI (cod k % 6))
theorem nte_row (h : c ≠ 13) : nte I a k c = I c := by unfold nte; rw [up_row h, up_row h]
theorem c_note (ha : a ≤ 2) (hk : k < 15) : sm_ex (d + 1) 48 [.ref 7, .int (nI a), .int (nI k)] 81 I L (pX sw) = some (none, 81, nte I a k, L, pX sw) := by
  obtain ⟨t1, t2, t3⟩ := tab_k k hk
  rw [e48]
  simp (discharger := (first | omega | decide | assumption | exact rg_lt | exact rg_ly | (simp only [ly7, p7_0, p7_1, p7_2, p7_3, ly13, al13]; omega))) only [s48_0, s48_1, s48_4, s48_5, s48_8, s48_9, s48_9t0, s48_9t1, s48_10, s48_11, s48_12, s48_15, s48_16, s48_17, s48_18, s48_21, s48_22, s48_22t0, s48_22t1, s48_23, s48_24, ltI, geL, leL, not_true_eq_false, not_false_eq_true, if_true, if_false, and_self, and_true, true_and, and_false, false_and, or_self, or_true, true_or, or_false, false_or, bo_T, bo_F, bo_e0, nI10, nI00, nI11, nI01, bo_e1, nem, eqL, af_v, af_0, rf_s, rf_n, nn, ite_self, ly7, p7_0, p7_1, p7_2, p7_3, ly13, al13, t1, t2, addN]
  rfl
def fb1 (D : Mx) (m k : Nat) : Bool := !exc (bd D (cod k / 6) (cod k % 6)) m
theorem c_one_loop (hR : RW (I 10) D) (hB : ∀ a b, D a b ≤ 1000000) (hm : m ≤ 999) : ∀ (g k : Nat), k + g = 15 → sm_at (sm_ex (d + 4)) none 46 2 [some (.ref 7), some (.int (nI m)), some (.int (nI k))] [] 81 I L (pX sw) = match firstF (fb1 D m) g k with
    | some c => some (some (.int (nI 1)), 81, nte I 0 c, L, pX sw)
    | none => some (some (.int (nI 0)), 81, I, L, pX sw) := by
  intro g
  induction g with
  | zero =>
    intro k hk
    obtain rfl : k = 15 := by omega
    rw [s46_2]
    simp only [s46_0, s46_1, s46_3, s46_5, s46_8, s46_9, s46_12, s46_13, s46_16, s46_17, s46_17t0, s46_17t1, s46_18, s46_21, s46_22, s46_22t0, s46_22t1, s46_23, s46_26, s46_29, s46_30, s46_31, s46_32, s46_35, s46_36, s46_37, s46_40, s46_43, s46_44, ltI, geL, leL, not_true_eq_false, not_false_eq_true, if_true, if_false, and_self, and_true, true_and, and_false, false_and, or_self, or_true, true_or, or_false, false_or, bo_T, bo_F, bo_e0, nI10, nI00, nI11, nI01, bo_e1, nem, eqL, af_v, af_0, rf_s, rf_n, nn, ite_self, Int32.le_refl, firstF]
  | succ g ih =>
    intro k hk
    have c1 : ¬ 15 ≤ k := by omega
    obtain ⟨t1, t2, t3, t4, t5⟩ := tab_k k (by omega)
    have ha : sm_ex (d + 4) 91 [.ref 9, .int (nI m), .int (nI (cod k / 6)), .int (nI (cod k % 6))] 81 I L (pX sw) = _ := c_awb (d := d) WA9 hR hB hm t3 t4
    rw [s46_2]
    rw [firstF_s]
    cases e : exc (bd D (cod k / 6) (cod k % 6)) m with
    | false =>
      have e2 : fb1 D m k = true := by unfold fb1; rw [e]; rfl
      rw [e] at ha
      rw [if_pos e2]
      simp (discharger := (first | omega | decide | assumption | exact rg_lt | exact rg_ly | (simp only [ly7, p7_0, p7_1, p7_2, p7_3, ly9, p9_0]; omega))) only [s46_0, s46_1, s46_3, s46_5, s46_8, s46_9, s46_12, s46_13, s46_16, s46_17, s46_17t0, s46_17t1, s46_18, s46_21, s46_22, s46_22t0, s46_22t1, s46_23, s46_26, s46_29, s46_30, s46_31, s46_32, s46_35, s46_36, s46_37, s46_40, s46_43, s46_44, ltI, geL, leL, not_true_eq_false, not_false_eq_true, if_true, if_false, and_self, and_true, true_and, and_false, false_and, or_self, or_true, true_or, or_false, false_or, bo_T, bo_F, bo_e0, nI10, nI00, nI11, nI01, bo_e1, nem, eqL, af_v, af_0, rf_s, rf_n, nn, ite_self, ly7, p7_0, p7_1, p7_2, p7_3, ly9, p9_0, leN, c1, t1, t2, ha, c_note]
    | true =>
      have e2 : ¬ fb1 D m k = true := by unfold fb1; rw [e]; decide
      rw [e] at ha
      rw [if_neg e2]
      simp (discharger := (first | omega | decide | assumption | exact rg_lt | exact rg_ly | (simp only [ly7, p7_0, p7_1, p7_2, p7_3, ly9, p9_0]; omega))) only [s46_0, s46_1, s46_3, s46_5, s46_8, s46_9, s46_12, s46_13, s46_16, s46_17, s46_17t0, s46_17t1, s46_18, s46_21, s46_22, s46_22t0, s46_22t1, s46_23, s46_26, s46_29, s46_30, s46_31, s46_32, s46_35, s46_36, s46_37, s46_40, s46_43, s46_44, ltI, geL, leL, not_true_eq_false, not_false_eq_true, if_true, if_false, and_self, and_true, true_and, and_false, false_and, or_self, or_true, true_or, or_false, false_or, bo_T, bo_F, bo_e0, nI10, nI00, nI11, nI01, bo_e1, nem, eqL, af_v, af_0, rf_s, rf_n, nn, ite_self, ly7, p7_0, p7_1, p7_2, p7_3, ly9, p9_0, leN, c1, t1, t2, ha, addN, sm_cl, Bool.true_eq_false]
      exact ih (k + 1) (by omega)
theorem c_one (hR : RW (I 10) D) (hB : ∀ a b, D a b ≤ 1000000) (hm : m ≤ 999) : sm_ex (d + 5) 46 [.ref 7, .int (nI m)] 81 I L (pX sw) = match firstF (fb1 D m) 15 0 with
    | some c => some (some (.int (nI 1)), 81, nte I 0 c, L, pX sw)
    | none => some (some (.int (nI 0)), 81, I, L, pX sw) := by
  rw [e46]
  simp only [s46_0, s46_1, s46_3, s46_5, s46_8, s46_9, s46_12, s46_13, s46_16, s46_17, s46_17t0, s46_17t1, s46_18, s46_21, s46_22, s46_22t0, s46_22t1, s46_23, s46_26, s46_29, s46_30, s46_31, s46_32, s46_35, s46_36, s46_37, s46_40, s46_43, s46_44, ltI, geL, leL, not_true_eq_false, not_false_eq_true, if_true, if_false, and_self, and_true, true_and, and_false, false_and, or_self, or_true, true_or, or_false, false_or, bo_T, bo_F, bo_e0, nI10, nI00, nI11, nI01, bo_e1, nem, eqL, af_v, af_0, rf_s, rf_n, nn, ite_self, sm_cl]
  exact c_one_loop hR hB hm 15 0 rfl
def fb2 (D : Mx) (m k k2 : Nat) : Bool := !exc (bd (bd D (cod k / 6) (cod k % 6)) (cod k2 / 6) (cod k2 % 6)) m
theorem c_two_in (hR : RW (I 12) (bd D (cod k / 6) (cod k % 6))) (hB : ∀ a b, D a b ≤ 1000000) (hm : m ≤ 999) (hk : k < 15) : ∀ (g k2 : Nat), k2 + g = 15 → sm_at (sm_ex (d + 4)) none 47 33 [some (.ref 7), some (.int (nI m)), some (.int (nI k)), some (.int (nI k2))] [] 81 I L (pX sw) = match firstF (fb2 D m k) g k2 with
    | some c => some (some (.int (nI 1)), 81, nte (nte I 0 k) 2 c, L, pX sw)
    | none => sm_at (sm_ex (d + 4)) none 47 2 [some (.ref 7), some (.int (nI m)), some (.int (nI (k + 1))), some (.int (nI 15))] [] 81 I L (pX sw) := by
  intro g
  induction g with
  | zero =>
    intro k2 hk2
    obtain rfl : k2 = 15 := by omega
    rw [s47_33]
    simp only [s47_0, s47_1, s47_3, s47_5, s47_8, s47_9, s47_12, s47_13, s47_16, s47_19, s47_20, s47_20t0, s47_20t1, s47_21, s47_24, s47_25, s47_25t0, s47_25t1, s47_26, s47_29, s47_30, s47_31, s47_32, s47_34, s47_36, s47_39, s47_40, s47_43, s47_44, s47_47, s47_48, s47_48t0, s47_48t1, s47_49, s47_52, s47_53, s47_53t0, s47_53t1, s47_54, s47_57, s47_60, s47_61, s47_62, s47_63, s47_66, s47_67, s47_68, s47_69, s47_72, s47_73, s47_74, s47_77, s47_80, s47_83, s47_86, s47_87, ltI, geL, leL, not_true_eq_false, not_false_eq_true, if_true, if_false, and_self, and_true, true_and, and_false, false_and, or_self, or_true, true_or, or_false, false_or, bo_T, bo_F, bo_e0, nI10, nI00, nI11, nI01, bo_e1, nem, eqL, af_v, af_0, rf_s, rf_n, nn, ite_self, Int32.le_refl, firstF, addN, sm_cl]
  | succ g ih =>
    intro k2 hk2
    have c1 : ¬ 15 ≤ k2 := by omega
    obtain ⟨t1, t2, t3, t4, t5⟩ := tab_k k2 (by omega)
    have ha : sm_ex (d + 4) 91 [.ref 11, .int (nI m), .int (nI (cod k2 / 6)), .int (nI (cod k2 % 6))] 81 I L (pX sw) = _ := c_awb (d := d) WA11 hR (bd_le hB) hm t3 t4
    rw [s47_33]
    rw [firstF_s]
    cases e : exc (bd (bd D (cod k / 6) (cod k % 6)) (cod k2 / 6) (cod k2 % 6)) m with
    | false =>
      have e2 : fb2 D m k k2 = true := by unfold fb2; rw [e]; rfl
      rw [e] at ha
      rw [if_pos e2]
      simp (discharger := (first | omega | decide | assumption | exact rg_lt | exact rg_ly | (simp only [ly7, p7_0, p7_1, p7_2, p7_3, ly11, p11_0]; omega))) only [s47_0, s47_1, s47_3, s47_5, s47_8, s47_9, s47_12, s47_13, s47_16, s47_19, s47_20, s47_20t0, s47_20t1, s47_21, s47_24, s47_25, s47_25t0, s47_25t1, s47_26, s47_29, s47_30, s47_31, s47_32, s47_34, s47_36, s47_39, s47_40, s47_43, s47_44, s47_47, s47_48, s47_48t0, s47_48t1, s47_49, s47_52, s47_53, s47_53t0, s47_53t1, s47_54, s47_57, s47_60, s47_61, s47_62, s47_63, s47_66, s47_67, s47_68, s47_69, s47_72, s47_73, s47_74, s47_77, s47_80, s47_83, s47_86, s47_87, ltI, geL, leL, not_true_eq_false, not_false_eq_true, if_true, if_false, and_self, and_true, true_and, and_false, false_and, or_self, or_true, true_or, or_false, false_or, bo_T, bo_F, bo_e0, nI10, nI00, nI11, nI01, bo_e1, nem, eqL, af_v, af_0, rf_s, rf_n, nn, ite_self, ly7, p7_0, p7_1, p7_2, p7_3, ly11, p11_0, leN, c1, t1, t2, ha, c_note]
    | true =>
      have e2 : ¬ fb2 D m k k2 = true := by unfold fb2; rw [e]; decide
      rw [e] at ha
      rw [if_neg e2]
      simp (discharger := (first | omega | decide | assumption | exact rg_lt | exact rg_ly | (simp only [ly7, p7_0, p7_1, p7_2, p7_3, ly11, p11_0]; omega))) only [s47_0, s47_1, s47_3, s47_5, s47_8, s47_9, s47_12, s47_13, s47_16, s47_19, s47_20, s47_20t0, s47_20t1, s47_21, s47_24, s47_25, s47_25t0, s47_25t1, s47_26, s47_29, s47_30, s47_31, s47_32, s47_34, s47_36, s47_39, s47_40, s47_43, s47_44, s47_47, s47_48, s47_48t0, s47_48t1, s47_49, s47_52, s47_53, s47_53t0, s47_53t1, s47_54, s47_57, s47_60, s47_61, s47_62, s47_63, s47_66, s47_67, s47_68, s47_69, s47_72, s47_73, s47_74, s47_77, s47_80, s47_83, s47_86, s47_87, ltI, geL, leL, not_true_eq_false, not_false_eq_true, if_true, if_false, and_self, and_true, true_and, and_false, false_and, or_self, or_true, true_or, or_false, false_or, bo_T, bo_F, bo_e0, nI10, nI00, nI11, nI01, bo_e1, nem, eqL, af_v, af_0, rf_s, rf_n, nn, ite_self, ly7, p7_0, p7_1, p7_2, p7_3, ly11, p11_0, leN, c1, t1, t2, ha, addN, sm_cl, Bool.true_eq_false]
      exact ih (k2 + 1) (by omega)
def gb2 (D : Mx) (m k : Nat) : Option Nat := firstF (fb2 D m k) (14 - k) (k + 1)
theorem c_two_out (hR : RW (I 10) D) (hB : ∀ a b, D a b ≤ 1000000) (hm : m ≤ 999) : ∀ (g k : Nat), k + g = 15 → ∀ (J : sm_Im) (l3 : Option Value), (∀ c, c ≠ 12 → J c = I c) → ∃ J1 : sm_Im, (∀ c, c ≠ 12 → J1 c = I c) ∧ sm_at (sm_ex (d + 4)) none 47 2 [some (.ref 7), some (.int (nI m)), some (.int (nI k)), l3] [] 81 J L (pX sw) = match firstO (gb2 D m) g k with
    | some q => some (some (.int (nI 1)), 81, nte (nte J1 0 q.1) 2 q.2, L, pX sw)
    | none => some (some (.int (nI 0)), 81, J1, L, pX sw) := by
  intro g
  induction g with
  | zero =>
    intro k hk J l3 hJ
    obtain rfl : k = 15 := by omega
    refine ⟨J, hJ, ?_⟩
    rw [s47_2]
    simp only [s47_0, s47_1, s47_3, s47_5, s47_8, s47_9, s47_12, s47_13, s47_16, s47_19, s47_20, s47_20t0, s47_20t1, s47_21, s47_24, s47_25, s47_25t0, s47_25t1, s47_26, s47_29, s47_30, s47_31, s47_32, s47_34, s47_36, s47_39, s47_40, s47_43, s47_44, s47_47, s47_48, s47_48t0, s47_48t1, s47_49, s47_52, s47_53, s47_53t0, s47_53t1, s47_54, s47_57, s47_60, s47_61, s47_62, s47_63, s47_66, s47_67, s47_68, s47_69, s47_72, s47_73, s47_74, s47_77, s47_80, s47_83, s47_86, s47_87, ltI, geL, leL, not_true_eq_false, not_false_eq_true, if_true, if_false, and_self, and_true, true_and, and_false, false_and, or_self, or_true, true_or, or_false, false_or, bo_T, bo_F, bo_e0, nI10, nI00, nI11, nI01, bo_e1, nem, eqL, af_v, af_0, rf_s, rf_n, nn, ite_self, Int32.le_refl, firstO]
  | succ g ih =>
    intro k hk J l3 hJ
    have c1 : ¬ 15 ≤ k := by omega
    obtain ⟨t1, t2, t3, t4, t5⟩ := tab_k k (by omega)
    obtain ⟨J0, k1, k2, k3⟩ := c_twb (d := d) (L := L) (sw := sw) (I := J) hB t3 t4 (by rw [hJ 10 (by decide)]; exact hR)
    have hin := c_two_in (d := d) (L := L) (sw := sw) k2 hB hm (show k < 15 by omega) (14 - k) (k + 1) (by omega)
    have hJ0 : ∀ c, c ≠ 12 → J0 c = I c := fun c hc => by rw [k1 c hc]; exact hJ c hc
    have hgo : sm_at (sm_ex (d + 4)) none 47 2 [some (.ref 7), some (.int (nI m)), some (.int (nI k)), l3] [] 81 J L (pX sw) = sm_at (sm_ex (d + 4)) none 47 33 [some (.ref 7), some (.int (nI m)), some (.int (nI k)), some (.int (nI (k + 1)))] [] 81 J0 L (pX sw) := by
      rw [s47_2]
      simp (discharger := (first | omega | decide | assumption | exact rg_lt | exact rg_ly | (simp only [ly7, p7_0, p7_1, p7_2, p7_3, ly9, p9_0, ly11, p11_0]; omega))) only [s47_0, s47_1, s47_3, s47_5, s47_8, s47_9, s47_12, s47_13, s47_16, s47_19, s47_20, s47_20t0, s47_20t1, s47_21, s47_24, s47_25, s47_25t0, s47_25t1, s47_26, s47_29, s47_30, s47_31, s47_32, s47_34, s47_36, s47_39, s47_40, s47_43, s47_44, s47_47, s47_48, s47_48t0, s47_48t1, s47_49, s47_52, s47_53, s47_53t0, s47_53t1, s47_54, s47_57, s47_60, s47_61, s47_62, s47_63, s47_66, s47_67, s47_68, s47_69, s47_72, s47_73, s47_74, s47_77, s47_80, s47_83, s47_86, s47_87, ltI, geL, leL, not_true_eq_false, not_false_eq_true, if_true, if_false, and_self, and_true, true_and, and_false, false_and, or_self, or_true, true_or, or_false, false_or, bo_T, bo_F, bo_e0, nI10, nI00, nI11, nI01, bo_e1, nem, eqL, af_v, af_0, rf_s, rf_n, nn, ite_self, ly7, p7_0, p7_1, p7_2, p7_3, ly9, p9_0, ly11, p11_0, leN, c1, t1, t2, k3, addN, sm_cl]
    cases e : gb2 D m k with
    | some c =>
      refine ⟨J0, hJ0, ?_⟩
      rw [firstO_t e, hgo, hin]
      unfold gb2 at e
      rw [e]
    | none =>
      obtain ⟨J1, h1, h2⟩ := ih (k + 1) (by omega) J0 (some (.int (nI 15))) hJ0
      refine ⟨J1, h1, ?_⟩
      rw [firstO_f e, ← h2, hgo, hin]
      unfold gb2 at e
      rw [e]
theorem c_two (hR : RW (I 10) D) (hB : ∀ a b, D a b ≤ 1000000) (hm : m ≤ 999) : ∃ J1 : sm_Im, (∀ c, c ≠ 12 → J1 c = I c) ∧ sm_ex (d + 5) 47 [.ref 7, .int (nI m)] 81 I L (pX sw) = match firstO (gb2 D m) 15 0 with
    | some q => some (some (.int (nI 1)), 81, nte (nte J1 0 q.1) 2 q.2, L, pX sw)
    | none => some (some (.int (nI 0)), 81, J1, L, pX sw) := by
  obtain ⟨J1, h1, h2⟩ := c_two_out (d := d) (L := L) (sw := sw) hR hB hm 15 0 rfl I none (fun c _ => rfl)
  refine ⟨J1, h1, ?_⟩
  rw [← h2, e47]
  simp only [s47_0, s47_1, s47_3, s47_5, s47_8, s47_9, s47_12, s47_13, s47_16, s47_19, s47_20, s47_20t0, s47_20t1, s47_21, s47_24, s47_25, s47_25t0, s47_25t1, s47_26, s47_29, s47_30, s47_31, s47_32, s47_34, s47_36, s47_39, s47_40, s47_43, s47_44, s47_47, s47_48, s47_48t0, s47_48t1, s47_49, s47_52, s47_53, s47_53t0, s47_53t1, s47_54, s47_57, s47_60, s47_61, s47_62, s47_63, s47_66, s47_67, s47_68, s47_69, s47_72, s47_73, s47_74, s47_77, s47_80, s47_83, s47_86, s47_87, ltI, geL, leL, not_true_eq_false, not_false_eq_true, if_true, if_false, and_self, and_true, true_and, and_false, false_and, or_self, or_true, true_or, or_false, false_or, bo_T, bo_F, bo_e0, nI10, nI00, nI11, nI01, bo_e1, nem, eqL, af_v, af_0, rf_s, rf_n, nn, ite_self, sm_cl]
def kq (D : Mx) (m : Nat) : Int32 × Option Nat × Option Nat := sr (exc D m) ((firstF (fb1 D m) 15 0).map cod) ((firstO (gb2 D m) 15 0).map (fun q => (cod q.1, cod q.2)))
def PTn (f : Nat → Int32) (q : Int32 × Option Nat × Option Nat) : Prop := ∀ w, 1 ≤ w → w ≤ 4 → f (w - 1) = tl q w
theorem w4 (h1 : 1 ≤ w) (h2 : w ≤ 4) : w = 1 ∨ w = 2 ∨ w = 3 ∨ w = 4 := by omega
theorem c_fewest (hR : RW (I 10) D) (hB : ∀ a b, D a b ≤ 1000000) (hm : m ≤ 999) : ∃ J1 : sm_Im, (∀ c, c ≠ 12 → c ≠ 13 → J1 c = I c) ∧ PTn (J1 13) (kq D m) ∧ sm_ex (d + 6) 45 [.ref 7, .int (nI m)] 81 I L (pX sw) = some (some (.int (kq D m).1), 81, J1, L, pX sw) := by
  have hf : sm_ex (d + 5) 215 [.ref 13, .int (-1)] 81 I L (pX sw) = some (none, 81, lays I 13 0 (fun _ => -1) 4, L, pX sw) := j_fill (d := d + 4) (a := 13) (by decide) (by decide)
  have hI : ∀ c, c ≠ 13 → lays I 13 0 (fun _ => (-1 : Int32)) 4 c = I c := fun c hc => lays_row hc 4
  have hR0 : RW (lays I 13 0 (fun _ => (-1 : Int32)) 4 10) D := by rw [hI 10 (by decide)]; exact hR
  have h13 : ∀ j, j < 4 → lays I 13 0 (fun _ => (-1 : Int32)) 4 13 j = -1 := fun j hj => by rw [lays_at, if_pos (by omega)]
  have hw : sm_ex (d + 5) 90 [.ref 9, .int (nI m)] 81 (lays I 13 0 (fun _ => (-1 : Int32)) 4) L (pX sw) = _ := c_areWithin (d := d + 4) WA9 hR0 hB hm
  have h1 := c_one (d := d) (L := L) (sw := sw) hR0 hB hm
  obtain ⟨J2, g1, g2⟩ := c_two (d := d) (L := L) (sw := sw) hR0 hB hm
  cases e : exc D m with
  | false =>
    refine ⟨_, fun c _ hc => hI c hc, fun w w1 w2 => ?_, ?_⟩
    · rw [h13 _ (by omega)]; unfold kq; rw [e]; rcases w4 w1 w2 with rfl | rfl | rfl | rfl <;> rfl
    · rw [e] at hw
      rw [show (kq D m).1 = nI 0 by unfold kq; rw [e]; rfl, e45]
      simp (discharger := (first | omega | decide | assumption | exact rg_lt | exact rg_ly | (simp only [ly7, p7_0, p7_1, p7_2, p7_3, ly9, p9_0, ly13, al13]; omega))) only [s45_0, s45_1, s45_4, s45_5, s45_8, s45_9, s45_12, s45_13, s45_16, s45_19, s45_20, s45_21, s45_22, s45_23, s45_26, s45_29, s45_30, s45_31, s45_32, s45_33, s45_36, s45_39, s45_40, s45_43, s45_44, ltI, geL, leL, not_true_eq_false, not_false_eq_true, if_true, if_false, and_self, and_true, true_and, and_false, false_and, or_self, or_true, true_or, or_false, false_or, bo_T, bo_F, bo_e0, nI10, nI00, nI11, nI01, bo_e1, nem, eqL, af_v, af_0, rf_s, rf_n, nn, ite_self, ly7, p7_0, p7_1, p7_2, p7_3, ly9, p9_0, ly13, al13, hf, hw]
  | true =>
    rw [e] at hw
    cases e1 : firstF (fb1 D m) 15 0 with
    | some k =>
      rw [e1] at h1
      refine ⟨nte (lays I 13 0 (fun _ => (-1 : Int32)) 4) 0 k, fun c _ hc => by rw [nte_row hc]; exact hI c hc, fun w w1 w2 => ?_, ?_⟩
      · have q : kq D m = (nI 1, some (cod k), none) := by unfold kq; rw [e, e1]; rfl
        rw [q]
        unfold nte
        rcases w4 w1 w2 with rfl | rfl | rfl | rfl
        · rw [up_at, up_at]; rfl
        · rw [up_at]; rfl
        · rw [up_at, up_at, if_neg (by decide), if_neg (by decide), h13 _ (by decide)]; rfl
        · rw [up_at, up_at, if_neg (by decide), if_neg (by decide), h13 _ (by decide)]; rfl
      · rw [show (kq D m).1 = nI 1 by unfold kq; rw [e, e1]; rfl, e45]
        simp (discharger := (first | omega | decide | assumption | exact rg_lt | exact rg_ly | (simp only [ly7, p7_0, p7_1, p7_2, p7_3, ly9, p9_0, ly13, al13]; omega))) only [s45_0, s45_1, s45_4, s45_5, s45_8, s45_9, s45_12, s45_13, s45_16, s45_19, s45_20, s45_21, s45_22, s45_23, s45_26, s45_29, s45_30, s45_31, s45_32, s45_33, s45_36, s45_39, s45_40, s45_43, s45_44, ltI, geL, leL, not_true_eq_false, not_false_eq_true, if_true, if_false, and_self, and_true, true_and, and_false, false_and, or_self, or_true, true_or, or_false, false_or, bo_T, bo_F, bo_e0, nI10, nI00, nI11, nI01, bo_e1, nem, eqL, af_v, af_0, rf_s, rf_n, nn, ite_self, ly7, p7_0, p7_1, p7_2, p7_3, ly9, p9_0, ly13, al13, hf, hw, h1, Bool.true_eq_false]
    | none =>
      rw [e1] at h1
      have hJ2 : ∀ j, j < 4 → J2 13 j = -1 := fun j hj => by rw [g1 13 (by decide)]; exact h13 j hj
      cases e2 : firstO (gb2 D m) 15 0 with
      | some q =>
        rw [e2] at g2
        refine ⟨nte (nte J2 0 q.1) 2 q.2, fun c h12 hc => by rw [nte_row hc, nte_row hc, g1 c h12]; exact hI c hc, fun w w1 w2 => ?_, ?_⟩
        · have q : kq D m = (nI 2, some (cod q.1), some (cod q.2)) := by unfold kq; rw [e, e1, e2]; rfl
          rw [q]
          unfold nte
          rcases w4 w1 w2 with rfl | rfl | rfl | rfl
          · rw [up_at, up_at, up_at, up_at]; rfl
          · rw [up_at, up_at, up_at]; rfl
          · rw [up_at, up_at]; rfl
          · rw [up_at]; rfl
        · rw [show (kq D m).1 = nI 2 by unfold kq; rw [e, e1, e2]; rfl, e45]
          simp (discharger := (first | omega | decide | assumption | exact rg_lt | exact rg_ly | (simp only [ly7, p7_0, p7_1, p7_2, p7_3, ly9, p9_0, ly13, al13]; omega))) only [s45_0, s45_1, s45_4, s45_5, s45_8, s45_9, s45_12, s45_13, s45_16, s45_19, s45_20, s45_21, s45_22, s45_23, s45_26, s45_29, s45_30, s45_31, s45_32, s45_33, s45_36, s45_39, s45_40, s45_43, s45_44, ltI, geL, leL, not_true_eq_false, not_false_eq_true, if_true, if_false, and_self, and_true, true_and, and_false, false_and, or_self, or_true, true_or, or_false, false_or, bo_T, bo_F, bo_e0, nI10, nI00, nI11, nI01, bo_e1, nem, eqL, af_v, af_0, rf_s, rf_n, nn, ite_self, ly7, p7_0, p7_1, p7_2, p7_3, ly9, p9_0, ly13, al13, hf, hw, h1, g2, Bool.true_eq_false]
      | none =>
        rw [e2] at g2
        refine ⟨J2, fun c h12 hc => by rw [g1 c h12]; exact hI c hc, fun w w1 w2 => ?_, ?_⟩
        · rw [hJ2 _ (by omega)]; unfold kq; rw [e, e1, e2]; rcases w4 w1 w2 with rfl | rfl | rfl | rfl <;> rfl
        · rw [show (kq D m).1 = -1 by unfold kq; rw [e, e1, e2]; rfl, e45]
          simp (discharger := (first | omega | decide | assumption | exact rg_lt | exact rg_ly | (simp only [ly7, p7_0, p7_1, p7_2, p7_3, ly9, p9_0, ly13, al13]; omega))) only [s45_0, s45_1, s45_4, s45_5, s45_8, s45_9, s45_12, s45_13, s45_16, s45_19, s45_20, s45_21, s45_22, s45_23, s45_26, s45_29, s45_30, s45_31, s45_32, s45_33, s45_36, s45_39, s45_40, s45_43, s45_44, ltI, geL, leL, not_true_eq_false, not_false_eq_true, if_true, if_false, and_self, and_true, true_and, and_false, false_and, or_self, or_true, true_or, or_false, false_or, bo_T, bo_F, bo_e0, nI10, nI00, nI11, nI01, bo_e1, nem, eqL, af_v, af_0, rf_s, rf_n, nn, ite_self, ly7, p7_0, p7_1, p7_2, p7_3, ly9, p9_0, ly13, al13, hf, hw, h1, g2, Bool.true_eq_false]
theorem c_townOfPairs (hk : k < 4) : sm_ex (d + 1) 44 [.ref 7, .int (nI k)] 81 I L (pX sw) = some (some (.int (I 13 k)), 81, I, L, pX sw) := by
  have c1 : ¬ 4 ≤ k := by omega
  rw [e44]
  simp (discharger := (first | omega | decide | assumption | exact rg_lt | exact rg_ly | (simp only [ly7, p7_0, p7_1, p7_2, p7_3, ly13, al13]; omega))) only [s44_0, s44_1, s44_4, s44_5, s44_6, s44_9, s44_10, s44_13, s44_14, s44_14t0, s44_14t1, s44_15, s44_18, s44_19, ltI, geL, leL, not_true_eq_false, not_false_eq_true, if_true, if_false, and_self, and_true, true_and, and_false, false_and, or_self, or_true, true_or, or_false, false_or, bo_T, bo_F, bo_e0, nI10, nI00, nI11, nI01, bo_e1, nem, eqL, af_v, af_0, rf_s, rf_n, nn, ite_self, ly7, p7_0, p7_1, p7_2, p7_3, ly13, al13, le0, leN, c1]
theorem c_kept_1 (h : ¬ ((nI 0 ≤ x ∧ x ≤ nI 999) ∧ (nI 0 ≤ y ∧ y ≤ nI 4))) : sm_ex (d + 7) 110 [.ref 0, .int x, .int y] 81 I L (pX sw) = some (some (.int (-102)), 81, I, L, pX sw) := by
  rw [e110]
  by_cases h1 : (nI 0 ≤ x ∧ x ≤ nI 999)
  · have h2 : ¬ (nI 0 ≤ y ∧ y ≤ nI 4) := fun q => h ⟨h1, q⟩
    simp only [s110_0, s110_1, s110_2, s110_5, s110_8, s110_11, s110_12, s110_13, s110_14, s110_17, s110_20, s110_22, s110_23, s110_24, s110_27, s110_29, s110_32, s110_34, s110_35, s110_36, s110_37, s110_40, s110_41, s110_42, s110_45, s110_46, s110_49, s110_50, s110_53, s110_54, s110_57, s110_58, s110_61, s110_62, s110_65, s110_66, s110_69, s110_70, s110_71, s110_74, s110_75, s110_78, s110_79, s110_82, s110_83, s110_84, s110_85, s110_88, ltI, geL, leL, not_true_eq_false, not_false_eq_true, if_true, if_false, and_self, and_true, true_and, and_false, false_and, or_self, or_true, true_or, or_false, false_or, bo_T, bo_F, bo_e0, nI10, nI00, nI11, nI01, bo_e1, nem, eqL, af_v, af_0, rf_s, rf_n, nn, ite_self, h_isWithin, h1, h2]
  · simp only [s110_0, s110_1, s110_2, s110_5, s110_8, s110_11, s110_12, s110_13, s110_14, s110_17, s110_20, s110_22, s110_23, s110_24, s110_27, s110_29, s110_32, s110_34, s110_35, s110_36, s110_37, s110_40, s110_41, s110_42, s110_45, s110_46, s110_49, s110_50, s110_53, s110_54, s110_57, s110_58, s110_61, s110_62, s110_65, s110_66, s110_69, s110_70, s110_71, s110_74, s110_75, s110_78, s110_79, s110_82, s110_83, s110_84, s110_85, s110_88, ltI, geL, leL, not_true_eq_false, not_false_eq_true, if_true, if_false, and_self, and_true, true_and, and_false, false_and, or_self, or_true, true_or, or_false, false_or, bo_T, bo_F, bo_e0, nI10, nI00, nI11, nI01, bo_e1, nem, eqL, af_v, af_0, rf_s, rf_n, nn, ite_self, h_isWithin, h1]
theorem c_kept_2 (h1 : (nI 0 ≤ x ∧ x ≤ nI 999)) (h2 : (nI 0 ≤ y ∧ y ≤ nI 4)) (hn : I 0 11 = nI 20) : sm_ex (d + 7) 110 [.ref 0, .int x, .int y] 81 I L (pX sw) = some (some (.int (-103)), 81, I, L, pX sw) := by
  rw [e110]
  simp (discharger := (first | omega | decide | assumption | exact rg_lt | exact rg_ly | (simp only [ly0, p0_0, p0_1, p0_2, p0_3, p0_4, p0_5, p0_6, p0_7, p0_8, p0_9]; omega))) only [s110_0, s110_1, s110_2, s110_5, s110_8, s110_11, s110_12, s110_13, s110_14, s110_17, s110_20, s110_22, s110_23, s110_24, s110_27, s110_29, s110_32, s110_34, s110_35, s110_36, s110_37, s110_40, s110_41, s110_42, s110_45, s110_46, s110_49, s110_50, s110_53, s110_54, s110_57, s110_58, s110_61, s110_62, s110_65, s110_66, s110_69, s110_70, s110_71, s110_74, s110_75, s110_78, s110_79, s110_82, s110_83, s110_84, s110_85, s110_88, ltI, geL, leL, not_true_eq_false, not_false_eq_true, if_true, if_false, and_self, and_true, true_and, and_false, false_and, or_self, or_true, true_or, or_false, false_or, bo_T, bo_F, bo_e0, nI10, nI00, nI11, nI01, bo_e1, nem, eqL, af_v, af_0, rf_s, rf_n, nn, ite_self, ly0, p0_0, p0_1, p0_2, p0_3, p0_4, p0_5, p0_6, p0_7, p0_8, p0_9, h_isWithin, h1, h2, hn, Int32.le_refl]
theorem c_kept_3 (B : RB (rg sw) I β) (O : BOk β) (ht : ∀ p, p < 10 → I 36 p = nI (t p) ∧ t p < 6) (hr : ∀ k, k < 36 → I 8 k = nI (r k) ∧ r k ≤ 99) (h3 : ∀ a, a < 6 → r (7 * a) = 0) (hm : m ≤ 999) (hw : w ≤ 4) (hn : I 0 11 = nI n) (hn2 : n < 20) : ∃ (J1 : sm_Im) (W : Mx), (∀ c, c ≠ 0 → c ≠ 10 → c ≠ 12 → c ≠ 13 → J1 c = I c) ∧ J1 0 = sm_up I 0 11 (nI (n + 1)) 0 ∧ PW W 100000 r t β (CF β (nI 0)) ∧ sm_ex (d + 7) 110 [.ref 0, .int (nI m), .int (nI w)] 81 I L (pX sw) = some (some (.int (tl (kq (fw W 6) m) w)), 81, J1, L, pX sw) := by
  have B' : RB (rg sw) (sm_up I 0 11 (nI (n + 1))) β := RB_cong (rg_ge sw) (fun b hb => up_row (by omega)) B
  have u36 : sm_up I 0 11 (nI (n + 1)) 36 = I 36 := up_row (by decide)
  have u8 : sm_up I 0 11 (nI (n + 1)) 8 = I 8 := up_row (by decide)
  obtain ⟨J1, W, c1, c2, c3, c4⟩ := c_reckon (d := d + 1) (x := nI 0) (L := L) (sw := sw) (rg_ge sw) (RA_rg sw) B' O (by rw [u36]; exact ht) (by rw [u8]; exact hr) h3
  obtain ⟨J2, e1, e2, e3⟩ := c_fewest (d := d) (L := L) (sw := sw) c3 (fun a b => Nat.le_trans (fw_le 6 a b) (Nat.le_trans (c2.1 a b) (by decide))) hm
  refine ⟨J2, W, fun c h0 h10 h12 h13 => by rw [e1 c h12 h13, c1 c h10, up_row h0], by rw [e1 0 (by decide) (by decide), c1 0 (by decide)], c2, ?_⟩
  have c20 : ¬ 20 ≤ n := by omega
  rw [e110]
  by_cases h0 : w = 0
  · subst h0
    rw [show tl (kq (fw W 6) m) 0 = (kq (fw W 6) m).1 from rfl]
    simp (discharger := (first | omega | decide | assumption | exact rg_lt | exact rg_ly | (simp only [ly0, p0_0, p0_1, p0_2, p0_3, p0_4, p0_5, p0_6, p0_7, p0_8, p0_9, ly7, p7_0, p7_1, p7_2, p7_3, ly36, al36]; omega))) only [s110_0, s110_1, s110_2, s110_5, s110_8, s110_11, s110_12, s110_13, s110_14, s110_17, s110_20, s110_22, s110_23, s110_24, s110_27, s110_29, s110_32, s110_34, s110_35, s110_36, s110_37, s110_40, s110_41, s110_42, s110_45, s110_46, s110_49, s110_50, s110_53, s110_54, s110_57, s110_58, s110_61, s110_62, s110_65, s110_66, s110_69, s110_70, s110_71, s110_74, s110_75, s110_78, s110_79, s110_82, s110_83, s110_84, s110_85, s110_88, ltI, geL, leL, not_true_eq_false, not_false_eq_true, if_true, if_false, and_self, and_true, true_and, and_false, false_and, or_self, or_true, true_or, or_false, false_or, bo_T, bo_F, bo_e0, nI10, nI00, nI11, nI01, bo_e1, nem, eqL, af_v, af_0, rf_s, rf_n, nn, ite_self, ly0, p0_0, p0_1, p0_2, p0_3, p0_4, p0_5, p0_6, p0_7, p0_8, p0_9, ly7, p7_0, p7_1, p7_2, p7_3, ly36, al36, h_isWithin, ixt, hn, leN, c20, addN, c4, e3, sm_cl, Nat.zero_le, hm]
  · have hw1 := e2 w (by omega) hw
    have hw2 : w - 1 < 4 := by omega
    have e4 : (nI w = 0) = False := by rw [eq00 (by omega)]; exact eq_false h0
    have e5 : nI w - nI 1 = nI (w - 1) := subN (by omega)
    rw [← hw1]
    simp (discharger := (first | omega | decide | assumption | exact rg_lt | exact rg_ly | (simp only [ly0, p0_0, p0_1, p0_2, p0_3, p0_4, p0_5, p0_6, p0_7, p0_8, p0_9, ly7, p7_0, p7_1, p7_2, p7_3, ly36, al36]; omega))) only [s110_0, s110_1, s110_2, s110_5, s110_8, s110_11, s110_12, s110_13, s110_14, s110_17, s110_20, s110_22, s110_23, s110_24, s110_27, s110_29, s110_32, s110_34, s110_35, s110_36, s110_37, s110_40, s110_41, s110_42, s110_45, s110_46, s110_49, s110_50, s110_53, s110_54, s110_57, s110_58, s110_61, s110_62, s110_65, s110_66, s110_69, s110_70, s110_71, s110_74, s110_75, s110_78, s110_79, s110_82, s110_83, s110_84, s110_85, s110_88, ltI, geL, leL, not_true_eq_false, not_false_eq_true, if_true, if_false, and_self, and_true, true_and, and_false, false_and, or_self, or_true, true_or, or_false, false_or, bo_T, bo_F, bo_e0, nI10, nI00, nI11, nI01, bo_e1, nem, eqL, af_v, af_0, rf_s, rf_n, nn, ite_self, ly0, p0_0, p0_1, p0_2, p0_3, p0_4, p0_5, p0_6, p0_7, p0_8, p0_9, ly7, p7_0, p7_1, p7_2, p7_3, ly36, al36, h_isWithin, ixt, hn, leN, c20, addN, c4, e3, e4, e5, c_townOfPairs hw2, sm_cl, Nat.zero_le, hm, hw]
end KP2
