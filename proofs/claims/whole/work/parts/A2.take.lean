section TK
variable {d : Nat} {I J : sm_Im} {L : sm_Lm} {sw : Bool} {x y z : Int32} {a b m n q c k j p r v : Nat} {β β' : Nat → Nat → Nat}
def pn1 (β : Nat → Nat → Nat) : Nat → Nat → Nat := sm_up (sm_up (sm_up (sm_up β 1 (β 0 0) 0) 2 (β 0 0) 0) 3 (β 0 0) 0) 0 0 (β 0 0 + 1)
theorem pn_0 : pn1 β 0 0 = β 0 0 + 1 := by unfold pn1; rw [up_same]
theorem pn_1 : pn1 β 1 k = if k = β 0 0 then 0 else β 1 k := by unfold pn1; rw [up_row (by decide), up_row (by decide), up_row (by decide), up_at]
theorem pn_2 : pn1 β 2 k = if k = β 0 0 then 0 else β 2 k := by unfold pn1; rw [up_row (by decide), up_row (by decide), up_at, up_row (by decide)]
theorem pn_3 : pn1 β 3 k = if k = β 0 0 then 0 else β 3 k := by unfold pn1; rw [up_row (by decide), up_at, up_row (by decide), up_row (by decide)]
theorem pn_4 (h : 4 ≤ a) : pn1 β a = β a := by unfold pn1; rw [up_row (by omega), up_row (by omega), up_row (by omega), up_row (by omega)]
/-- whole; a sign may come; a tenth or minute is wanting; a person may come -/
abbrev whl (β : Nat → Nat → Nat) : Prop := (if β 1 (β 0 0 - 1) = 1 then 3 else 2) ≤ β 3 (β 0 0 - 1)
abbrev frs (β : Nat → Nat → Nat) : Prop := β 1 (β 0 0 - 1) = 0 ∧ β 3 (β 0 0 - 1) = 0
abbrev wnt (β : Nat → Nat → Nat) : Prop := (β 1 (β 0 0 - 1) = 2 ∨ β 1 (β 0 0 - 1) = 3) ∧ β 2 (β 0 0 - 1) = 0
abbrev may (β : Nat → Nat → Nat) (q : Nat) : Prop := ¬ β 4 q < β 0 0 ∧ β 3 (β 0 0 - 1) < (if β 1 (β 0 0 - 1) = 1 then 4 else 2)
abbrev sg (c : Nat) : Prop := c = 111 ∨ c = 63 ∨ c = 43
def sgk (c : Nat) : Nat := if c = 111 then 1 else if c = 63 then 2 else 3
theorem ps_c1 (h1 : whl β) (h2 : β 0 0 < 5) : pst β 44 = some (pn1 β) := by unfold pst; rw [if_pos rfl, if_pos ⟨h1, h2⟩]; rfl
theorem ps_c0 (h : ¬ (whl β ∧ β 0 0 < 5)) : pst β 44 = none := by unfold pst; rw [if_pos rfl, if_neg h]
theorem ps_s1 (hc : sg c) (h : frs β) : pst β c = some (sm_up β 1 (β 0 0 - 1) (sgk c)) := by
  unfold pst sgk
  rcases hc with rfl | rfl | rfl
  · rw [if_neg (by decide), if_pos rfl, if_pos h, if_pos rfl]
  · rw [if_neg (by decide), if_neg (by decide), if_pos rfl, if_pos h, if_neg (by decide), if_pos rfl]
  · rw [if_neg (by decide), if_neg (by decide), if_neg (by decide), if_pos rfl, if_pos h, if_neg (by decide), if_neg (by decide)]
theorem ps_s0 (hc : sg c) (h : ¬ frs β) : pst β c = none := by
  unfold pst
  rcases hc with rfl | rfl | rfl
  · rw [if_neg (by decide), if_pos rfl, if_neg h]
  · rw [if_neg (by decide), if_neg (by decide), if_pos rfl, if_neg h]
  · rw [if_neg (by decide), if_neg (by decide), if_neg (by decide), if_pos rfl, if_neg h]
theorem ps_a1 (h1 : 48 < c) (h2 : c ≤ 57) (h : wnt β) : pst β c = some (sm_up β 2 (β 0 0 - 1) (c - 48)) := by
  unfold pst
  rw [if_neg (by omega), if_neg (by omega), if_neg (by omega), if_neg (by omega), if_pos (by omega), if_pos h, if_neg (by omega)]
theorem ps_a0 (h : wnt β) : pst β 48 = none := by
  unfold pst
  rw [if_neg (by omega), if_neg (by omega), if_neg (by omega), if_neg (by omega), if_pos (by omega), if_pos h, if_pos rfl]
theorem ps_p1 (h1 : 48 ≤ c) (h2 : c ≤ 57) (h : ¬ wnt β) (h3 : may β (c - 48)) : pst β c = some (pp1 β (c - 48)) := by
  unfold pst
  rw [if_neg (by omega), if_neg (by omega), if_neg (by omega), if_neg (by omega), if_pos (by omega), if_neg h, if_pos h3]; rfl
theorem ps_p0 (h1 : 48 ≤ c) (h2 : c ≤ 57) (h : ¬ wnt β) (h3 : ¬ may β (c - 48)) : pst β c = none := by
  unfold pst
  rw [if_neg (by omega), if_neg (by omega), if_neg (by omega), if_neg (by omega), if_pos (by omega), if_neg h, if_neg h3]
theorem ps_n (h1 : ¬ c = 44) (h2 : ¬ sg c) (h3 : ¬ (48 ≤ c ∧ c ≤ 57)) : pst β c = none := by
  unfold pst
  unfold sg at h2
  rw [if_neg h1, if_neg (by omega), if_neg (by omega), if_neg (by omega), if_neg h3]
theorem pst_PV (V : PV β) (h : pst β c = some β') : PV β' := by
  by_cases c1 : c = 44
  · subst c1
    by_cases q : whl β ∧ β 0 0 < 5
    · rw [ps_c1 q.1 q.2] at h; cases h; exact PV_44 V q.1 q.2
    · rw [ps_c0 q] at h; cases h
  · by_cases c2 : sg c
    · by_cases q : frs β
      · rw [ps_s1 c2 q] at h; cases h
        refine PV_sign V q.1 q.2 ?_
        unfold sgk
        rcases c2 with rfl | rfl | rfl <;> decide
      · rw [ps_s0 c2 q] at h; cases h
    · by_cases c3 : 48 ≤ c ∧ c ≤ 57
      · by_cases q : wnt β
        · by_cases c4 : c = 48
          · subst c4; rw [ps_a0 q] at h; cases h
          · rw [ps_a1 (by omega) c3.2 q] at h; cases h; exact PV_am V q.1 (by omega)
        · by_cases q2 : may β (c - 48)
          · rw [ps_p1 c3.1 c3.2 q q2] at h; cases h; exact PV_pp V (by omega) q2.1 q2.2 q
          · rw [ps_p0 c3.1 c3.2 q q2] at h; cases h
      · rw [ps_n c1 c2 c3] at h; cases h
theorem prun_PV (f : Nat → Nat) : ∀ g i β, PV β → PV (prun f g i β).2 := by
  intro g
  induction g with
  | zero => intro i β V; exact V
  | succ g ih =>
    intro i β V
    unfold prun
    split
    · rename_i β' h; exact ih (i + 1) β' (pst_PV V h)
    · exact V
theorem botx {c : Prop} {i : Decidable c} (h : c) : @bo c i = nI 1 := if_pos h
theorem bofx {c : Prop} {i : Decidable c} (h : ¬ c) : @bo c i = nI 0 := if_neg h
/-- nothing but the register's own cells is changed -/
def FR (r : Nat) (I J : sm_Im) : Prop := ∀ c, ¬ (r ≤ c ∧ c < r + 13) → J c = I c
theorem FR_rf : FR r I I := fun _ _ => rfl
theorem FR_up (h : FR r I J) (ha : r ≤ a ∧ a < r + 13) : FR r I (sm_up J a k x) := fun c hc => by
  rw [up_row (fun q => hc (by rw [q]; exact ha))]; exact h c hc
theorem FR_tr {K : sm_Im} (h : FR r I J) (h2 : FR r J K) : FR r I K := fun c hc => (h2 c hc).trans (h c hc)
theorem RB_44 (R : RB r J β) (V : PV β) (h5 : β 0 0 < 5) : RB r (sm_up (sm_up (sm_up (sm_up J (r + 3 + 2 * β 0 0) 1 (nI 0)) (r + 3 + 2 * β 0 0) 2 (nI 0)) (r + 3 + 2 * β 0 0) 3 (nI 0)) r 2 (nI (β 0 0 + 1))) (pn1 β) := by
  obtain ⟨R1, R2, R3⟩ := R
  obtain ⟨V1, V2, V3, V4⟩ := V
  refine ⟨by rw [pn_0, up_same], fun k hk => ?_, fun p hp => ?_⟩
  · rw [pn_0] at hk
    rw [pn_1, pn_2, pn_3, pn_4 (by omega)]
    by_cases e : k = β 0 0
    · subst e
      rw [up_row (by omega), up_row (a := r) (by omega), if_pos rfl, if_pos rfl, if_pos rfl]
      exact ⟨by rw [up_cell (by omega), up_cell (by omega), up_same], by rw [up_cell (by omega), up_same], by rw [up_same], fun j hj => by omega⟩
    · obtain ⟨q1, q2, q3, q4⟩ := R2 k (by omega)
      rw [if_neg e, if_neg e, if_neg e, up_row (by omega), up_row (by omega), up_row (by omega), up_row (by omega), up_row (a := r) (by omega), up_row (b := r + 3 + 2 * k + 1) (by omega), up_row (b := r + 3 + 2 * k + 1) (by omega), up_row (b := r + 3 + 2 * k + 1) (by omega)]
      exact ⟨q1, q2, q3, q4⟩
  · rw [up_row (by omega), up_row (by omega), up_row (by omega), up_row (by omega), pn_0, pn_4 (by omega), R3 p hp]
    by_cases e : β 4 p < β 0 0
    · rw [if_pos e, if_pos (by omega)]
    · rw [if_neg e, if_neg (show ¬ β 4 p < β 0 0 + 1 from by rcases V4 p hp with q | q <;> omega)]
theorem RB_sign (R : RB r J β) : RB r (sm_up J (r + 3 + 2 * k) 1 (nI v)) (sm_up β 1 k v) := by
  obtain ⟨R1, R2, R3⟩ := R
  refine ⟨by rw [up_row (by omega), up_row (by decide)]; exact R1, fun i hi => ?_, fun p hp => ?_⟩
  · rw [up_row (by decide)] at hi
    obtain ⟨q1, q2, q3, q4⟩ := R2 i hi
    rw [up_row (a := 1) (b := 2) (by decide), up_row (a := 1) (b := 3) (by decide), up_row (a := 1) (b := 6 + i) (by omega), up_row (b := r + 3 + 2 * i + 1) (by omega)]
    by_cases e : i = k
    · subst e
      rw [up_same, up_same, up_cell (by omega), up_cell (by omega)]
      exact ⟨rfl, q2, q3, q4⟩
    · rw [up_row (by omega), up_cell (by omega)]
      exact ⟨q1, q2, q3, q4⟩
  · rw [up_row (by omega), up_row (a := 1) (b := 4) (by decide), up_row (a := 1) (b := 0) (by decide)]; exact R3 p hp
theorem RB_am (R : RB r J β) : RB r (sm_up J (r + 3 + 2 * k) 2 (nI v)) (sm_up β 2 k v) := by
  obtain ⟨R1, R2, R3⟩ := R
  refine ⟨by rw [up_row (by omega), up_row (by decide)]; exact R1, fun i hi => ?_, fun p hp => ?_⟩
  · rw [up_row (by decide)] at hi
    obtain ⟨q1, q2, q3, q4⟩ := R2 i hi
    rw [up_row (a := 2) (b := 1) (by decide), up_row (a := 2) (b := 3) (by decide), up_row (a := 2) (b := 6 + i) (by omega), up_row (b := r + 3 + 2 * i + 1) (by omega)]
    by_cases e : i = k
    · subst e
      rw [up_same, up_same, up_cell (by omega), up_cell (by omega)]
      exact ⟨q1, rfl, q3, q4⟩
    · rw [up_row (by omega), up_cell (by omega)]
      exact ⟨q1, q2, q3, q4⟩
  · rw [up_row (by omega), up_row (a := 2) (b := 4) (by decide), up_row (a := 2) (b := 0) (by decide)]; exact R3 p hp
theorem RB_pp (R : RB r J β) (h0 : 1 ≤ β 0 0) (hm : β 3 (β 0 0 - 1) < 4) : RB r (sm_up (sm_up (sm_up J (r + 3 + 2 * (β 0 0 - 1) + 1) (β 3 (β 0 0 - 1)) (nI q)) (r + 3 + 2 * (β 0 0 - 1)) 3 (nI (β 3 (β 0 0 - 1) + 1))) (r + 2) q (nI (β 0 0 - 1))) (pp1 β q) := by
  obtain ⟨R1, R2, R3⟩ := R
  refine ⟨by rw [up_row (by omega), up_row (by omega), up_row (by omega), pp_0 (by decide)]; exact R1, fun i hi => ?_, fun p hp => ?_⟩
  · rw [pp_0 (by decide)] at hi
    obtain ⟨q1, q2, q3, q4⟩ := R2 i hi
    rw [pp_0 (show 1 ≤ 2 by decide), pp_0 (show 2 ≤ 2 by decide), pp_3, up_row (a := r + 2) (b := r + 3 + 2 * i) (by omega), up_row (a := r + 2) (b := r + 3 + 2 * i + 1) (by omega)]
    by_cases e : i = β 0 0 - 1
    · rw [if_pos e, e]
      rw [e] at q1 q2 q3 q4
      refine ⟨by rw [up_cell (by omega), up_row (by omega)]; exact q1, by rw [up_cell (by omega), up_row (by omega)]; exact q2, by rw [up_same], fun j hj => ?_⟩
      rw [up_row (by omega), pp_6, up_at]
      by_cases e2 : j = β 3 (β 0 0 - 1)
      · rw [if_pos e2, if_pos ⟨rfl, e2⟩]
      · rw [if_neg e2, if_neg (fun z => e2 z.2)]; exact q4 j (by omega)
    · rw [if_neg e, up_row (by omega), up_row (by omega)]
      refine ⟨q1, q2, q3, fun j hj => ?_⟩
      rw [up_row (by omega), up_row (by omega), pp_6, if_neg (fun z => e z.1)]; exact q4 j hj
  · rw [up_at, pp_0 (show 0 ≤ 2 by decide), pp_4]
    by_cases e : p = q
    · rw [if_pos e, if_pos e, if_pos (by omega)]
    · rw [if_neg e, if_neg e, up_row (by omega), up_row (by omega)]; exact R3 p hp
theorem dg : ∀ c, c < 127 → ((nI 0 ≤ nI c - nI 48 ∧ nI c - nI 48 ≤ nI 9) ↔ (48 ≤ c ∧ c ≤ 57)) := by decide +kernel
theorem bsome {α : Type} {o : Option α} {v : α} (h : o = some v) : bo (o.isSome = true) = nI 1 := by rw [h]; exact bo_t rfl
theorem bnone {α : Type} {o : Option α} (h : o = none) : bo (o.isSome = true) = nI 0 := by rw [h]; exact bo_f Bool.false_ne_true
theorem c_begin (A : RA r) (hn : J r 2 = nI n) (h : n < 5) : sm_ex (d + 2) 64 [.ref r] 81 J L (pX sw) = some (some (.int (nI 1)), 81, sm_up (sm_up (sm_up (sm_up J (r + 3 + 2 * n) 1 (nI 0)) (r + 3 + 2 * n) 2 (nI 0)) (r + 3 + 2 * n) 3 (nI 0)) r 2 (nI (n + 1)), L, pX sw) := by
  obtain ⟨A1, A2, A3, A4, A5, A6, A7, A8, A9, A10⟩ := A
  have A0 := A10 n h
  have a1 := A0.1
  have a2 := A0.2.1
  have c1 : ¬ 5 ≤ n := by omega
  have e1 : sm_up (sm_up (sm_up J (r + 3 + 2 * n) 1 (nI 0)) (r + 3 + 2 * n) 2 (nI 0)) (r + 3 + 2 * n) 3 (nI 0) r 2 = nI n := by rw [up_row (by omega), up_row (by omega), up_row (by omega)]; exact hn
  rw [e64]
  simp (discharger := first | omega | decide | assumption) only [s64_0, s64_1, s64_4, s64_5, s64_8, s64_9, s64_10, s64_11, s64_14, s64_15, s64_18, s64_19, s64_22, s64_23, s64_24, s64_27, s64_28, s64_29, s64_32, s64_33, ltI, geL, leL, not_true_eq_false, not_false_eq_true, if_true, if_false, and_self, and_true, true_and, and_false, false_and, or_self, or_true, true_or, or_false, false_or, bo_T, bo_F, bo_e0, nI10, nI00, nI11, nI01, bo_e1, nem, eqL, af_v, af_0, rf_s, rf_n, nn, ite_self, hn, leN, c1, A3, A9 sw n h, i_begin A0, e1, addN]
theorem c_begin_5 (A : RA r) (hn : J r 2 = nI 5) : sm_ex (d + 2) 64 [.ref r] 81 J L (pX sw) = some (some (.int (nI 0)), 81, J, L, pX sw) := by
  obtain ⟨A1, A2, A3, A4, A5, A6, A7, A8, A9, A10⟩ := A
  rw [e64]
  simp (discharger := first | omega | decide | assumption) only [s64_0, s64_1, s64_4, s64_5, s64_8, s64_9, s64_10, s64_11, s64_14, s64_15, s64_18, s64_19, s64_22, s64_23, s64_24, s64_27, s64_28, s64_29, s64_32, s64_33, ltI, geL, leL, not_true_eq_false, not_false_eq_true, if_true, if_false, and_self, and_true, true_and, and_false, false_and, or_self, or_true, true_or, or_false, false_or, bo_T, bo_F, bo_e0, nI10, nI00, nI11, nI01, bo_e1, nem, eqL, af_v, af_0, rf_s, rf_n, nn, ite_self, hn, Int32.le_refl]
theorem whl_e (R : RB r J β) (V : PV β) : ((if J (r + 3 + 2 * (β 0 0 - 1)) 1 = nI 1 then nI 3 else nI 2) ≤ J (r + 3 + 2 * (β 0 0 - 1)) 3) = whl β := by
  have V1 := V.1
  obtain ⟨q1, q2, q3, q4⟩ := R.2.1 (β 0 0 - 1) (by omega)
  obtain ⟨v1, v2, v3, -⟩ := V.2.1 (β 0 0 - 1) (by omega)
  unfold whl
  have e' : (J (r + 3 + 2 * (β 0 0 - 1)) 1 = nI 1) = (β 1 (β 0 0 - 1) = 1) := by rw [q1, eqN (by omega) (by decide)]
  by_cases e : β 1 (β 0 0 - 1) = 1
  · rw [if_pos (by rw [e']; exact e), if_pos e, q3, leN (by decide) (by omega)]
  · rw [if_neg (by rw [e']; exact e), if_neg e, q3, leN (by decide) (by omega)]
theorem wnt_e (R : RB r J β) (V : PV β) : ((J (r + 3 + 2 * (β 0 0 - 1)) 1 = nI 2 ∨ J (r + 3 + 2 * (β 0 0 - 1)) 1 = nI 3) ∧ J (r + 3 + 2 * (β 0 0 - 1)) 2 = 0) = wnt β := by
  have V1 := V.1
  obtain ⟨q1, q2, q3, q4⟩ := R.2.1 (β 0 0 - 1) (by omega)
  obtain ⟨v1, v2, v3, -⟩ := V.2.1 (β 0 0 - 1) (by omega)
  unfold wnt
  rw [q1, q2, eqN (by omega) (by decide), eqN (by omega) (by decide), eq00 (by omega)]
theorem frs_e (R : RB r J β) (V : PV β) : (J (r + 3 + 2 * (β 0 0 - 1)) 1 = 0 ∧ J (r + 3 + 2 * (β 0 0 - 1)) 3 = 0) = frs β := by
  have V1 := V.1
  obtain ⟨q1, q2, q3, q4⟩ := R.2.1 (β 0 0 - 1) (by omega)
  obtain ⟨v1, v2, v3, -⟩ := V.2.1 (β 0 0 - 1) (by omega)
  unfold frs
  rw [q1, q3, eq00 (by omega), eq00 (by omega)]
theorem c_digit (A : RA r) (R : RB r J β) (V : PV β) (hc : c ≤ 126) (h1 : ¬ c = 44) (h2 : ¬ sg c) : ∃ J1 : sm_Im, FR r J J1 ∧ (∀ β', pst β c = some β' → RB r J1 β') ∧ sm_ex (d + 3) 66 [.ref r, .ref (r + 3 + 2 * (β 0 0 - 1)), .int (nI c - nI 48)] 81 J L (pX sw) = some (some (.int (bo ((pst β c).isSome = true))), 81, J1, L, pX sw) := by
  have V1 := V.1
  have hk : β 0 0 - 1 < β 0 0 := by omega
  obtain ⟨q1, q2, q3, q4⟩ := R.2.1 (β 0 0 - 1) hk
  obtain ⟨v1, v2, v3, -⟩ := V.2.1 (β 0 0 - 1) hk
  obtain ⟨A1, A2, A3, A4, A5, A6, A7, A8, A9, A10⟩ := A
  have A0 := A10 (β 0 0 - 1) (by omega)
  have a1 := A0.1
  have a2 := A0.2.1
  have R1 := R.1
  have we := wnt_e R V
  have dq := dg c (by omega)
  have sb : nI (β 0 0) - nI 1 = nI (β 0 0 - 1) := subN (by omega)
  by_cases h3 : 48 ≤ c ∧ c ≤ 57
  · have ex : nI c - nI 48 = nI (c - 48) := subN h3.1
    have hip : (nI 0 ≤ nI (c - 48) ∧ nI (c - 48) ≤ nI 9) = True := ixt (by omega) (by decide)
    rw [ex]
    by_cases hw : wnt β
    · have hwt : wnt β = True := eq_true hw
      by_cases e0 : c = 48
      · have ep := ps_a0 hw
        refine ⟨sm_up J (r + 3 + 2 * (β 0 0 - 1)) 2 (nI 0), FR_up FR_rf (by omega), fun β' h => (by rw [e0, ep] at h; cases h), ?_⟩
        rw [bnone (by rw [e0]; exact ep), e0, e66]
        rw [e0] at hip
        simp (discharger := first | omega | decide | assumption) only [s66_0, s66_1, s66_4, s66_7, s66_8, s66_9, s66_9n, s66_10, s66_13, s66_16, s66_16n, s66_17, s66_18, s66_21, s66_22, s66_23, s66_26, s66_27, s66_28, s66_29, s66_32, s66_32n, s66_33, s66_34, s66_37, s66_40, s66_41, s66_42, s66_43, s66_46, s66_47, s66_48, s66_51, s66_52, s66_53, s66_54, s66_55, ltI, geL, leL, not_true_eq_false, not_false_eq_true, if_true, if_false, and_self, and_true, true_and, and_false, false_and, or_self, or_true, true_or, or_false, false_or, bo_T, bo_F, bo_e0, nI10, nI00, nI11, nI01, bo_e1, nem, eqL, af_v, af_0, rf_s, rf_n, nn, ite_self, h_isPerson, hip, i_needsAmount A0, we, hwt, i_takeAmount A0, Nat.sub_self]
      · have ep := ps_a1 (β := β) (by omega) h3.2 hw
        have ne : (nI (c - 48) = 0) = False := by rw [eq00 (by omega)]; exact eq_false (by omega)
        refine ⟨sm_up J (r + 3 + 2 * (β 0 0 - 1)) 2 (nI (c - 48)), FR_up FR_rf (by omega), fun β' h => ?_, ?_⟩
        · rw [ep] at h; cases h; exact RB_am R
        · rw [bsome ep, e66]
          simp (discharger := first | omega | decide | assumption) only [s66_0, s66_1, s66_4, s66_7, s66_8, s66_9, s66_9n, s66_10, s66_13, s66_16, s66_16n, s66_17, s66_18, s66_21, s66_22, s66_23, s66_26, s66_27, s66_28, s66_29, s66_32, s66_32n, s66_33, s66_34, s66_37, s66_40, s66_41, s66_42, s66_43, s66_46, s66_47, s66_48, s66_51, s66_52, s66_53, s66_54, s66_55, ltI, geL, leL, not_true_eq_false, not_false_eq_true, if_true, if_false, and_self, and_true, true_and, and_false, false_and, or_self, or_true, true_or, or_false, false_or, bo_T, bo_F, bo_e0, nI10, nI00, nI11, nI01, bo_e1, nem, eqL, af_v, af_0, rf_s, rf_n, nn, ite_self, h_isPerson, hip, i_needsAmount A0, we, hwt, i_takeAmount A0, ne]
    · have hwf : wnt β = False := eq_false hw
      have R3 := R.2.2 (c - 48) (by omega)
      by_cases hb : β 4 (c - 48) < β 0 0
      · have ep := ps_p0 h3.1 h3.2 hw (fun z => z.1 hb)
        have n1 : (nI (β 4 (c - 48)) = -1) = False := neN1 (by omega)
        refine ⟨J, FR_rf, fun β' h => (by rw [ep] at h; cases h), ?_⟩
        rw [if_pos hb] at R3
        rw [bnone ep, e66]
        simp (discharger := first | omega | decide | assumption) only [s66_0, s66_1, s66_4, s66_7, s66_8, s66_9, s66_9n, s66_10, s66_13, s66_16, s66_16n, s66_17, s66_18, s66_21, s66_22, s66_23, s66_26, s66_27, s66_28, s66_29, s66_32, s66_32n, s66_33, s66_34, s66_37, s66_40, s66_41, s66_42, s66_43, s66_46, s66_47, s66_48, s66_51, s66_52, s66_53, s66_54, s66_55, ltI, geL, leL, not_true_eq_false, not_false_eq_true, if_true, if_false, and_self, and_true, true_and, and_false, false_and, or_self, or_true, true_or, or_false, false_or, bo_T, bo_F, bo_e0, nI10, nI00, nI11, nI01, bo_e1, nem, eqL, af_v, af_0, rf_s, rf_n, nn, ite_self, h_isPerson, hip, i_needsAmount A0, we, hwf, A4, A8, R3, n1]
      · rw [if_neg hb] at R3
        have ek : (J (r + 3 + 2 * (β 0 0 - 1)) 1 = nI 1) = (β 1 (β 0 0 - 1) = 1) := by rw [q1, eqN (by omega) (by decide)]
        have tp := i_takePerson (d := d + 1) (L := L) (sw := sw) (x := nI (c - 48)) A0 q3 v3
        simp only [ek] at tp
        by_cases hm : β 3 (β 0 0 - 1) < (if β 1 (β 0 0 - 1) = 1 then 4 else 2)
        · rw [if_pos hm] at tp
          have hm4 : β 3 (β 0 0 - 1) < 4 := by
            by_cases e : β 1 (β 0 0 - 1) = 1
            · rw [if_pos e] at hm; exact hm
            · rw [if_neg e] at hm; omega
          have ep := ps_p1 h3.1 h3.2 hw ⟨hb, hm⟩
          have er : sm_up (sm_up J (r + 3 + 2 * (β 0 0 - 1) + 1) (β 3 (β 0 0 - 1)) (nI (c - 48))) (r + 3 + 2 * (β 0 0 - 1)) 3 (nI (β 3 (β 0 0 - 1) + 1)) r 2 = nI (β 0 0) := by rw [up_row (by omega), up_row (by omega)]; exact R1
          refine ⟨_, FR_up (a := r + 2) (k := c - 48) (x := nI (β 0 0 - 1)) (FR_up (a := r + 3 + 2 * (β 0 0 - 1)) (k := 3) (x := nI (β 3 (β 0 0 - 1) + 1)) (FR_up (a := r + 3 + 2 * (β 0 0 - 1) + 1) (k := β 3 (β 0 0 - 1)) (x := nI (c - 48)) FR_rf (by omega)) (by omega)) (by omega), fun β' h => ?_, ?_⟩
          · rw [ep] at h; cases h; exact RB_pp R V1.1 hm4
          · rw [bsome ep, e66]
            simp (discharger := first | omega | decide | assumption) only [s66_0, s66_1, s66_4, s66_7, s66_8, s66_9, s66_9n, s66_10, s66_13, s66_16, s66_16n, s66_17, s66_18, s66_21, s66_22, s66_23, s66_26, s66_27, s66_28, s66_29, s66_32, s66_32n, s66_33, s66_34, s66_37, s66_40, s66_41, s66_42, s66_43, s66_46, s66_47, s66_48, s66_51, s66_52, s66_53, s66_54, s66_55, ltI, geL, leL, not_true_eq_false, not_false_eq_true, if_true, if_false, and_self, and_true, true_and, and_false, false_and, or_self, or_true, true_or, or_false, false_or, bo_T, bo_F, bo_e0, nI10, nI00, nI11, nI01, bo_e1, nem, eqL, af_v, af_0, rf_s, rf_n, nn, ite_self, h_isPerson, hip, i_needsAmount A0, we, hwf, A4, A8, R3, tp, er, sb]
        · rw [if_neg hm] at tp
          have ep := ps_p0 h3.1 h3.2 hw (fun z => hm z.2)
          refine ⟨J, FR_rf, fun β' h => (by rw [ep] at h; cases h), ?_⟩
          rw [bnone ep, e66]
          simp (discharger := first | omega | decide | assumption) only [s66_0, s66_1, s66_4, s66_7, s66_8, s66_9, s66_9n, s66_10, s66_13, s66_16, s66_16n, s66_17, s66_18, s66_21, s66_22, s66_23, s66_26, s66_27, s66_28, s66_29, s66_32, s66_32n, s66_33, s66_34, s66_37, s66_40, s66_41, s66_42, s66_43, s66_46, s66_47, s66_48, s66_51, s66_52, s66_53, s66_54, s66_55, ltI, geL, leL, not_true_eq_false, not_false_eq_true, if_true, if_false, and_self, and_true, true_and, and_false, false_and, or_self, or_true, true_or, or_false, false_or, bo_T, bo_F, bo_e0, nI10, nI00, nI11, nI01, bo_e1, nem, eqL, af_v, af_0, rf_s, rf_n, nn, ite_self, h_isPerson, hip, i_needsAmount A0, we, hwf, A4, A8, R3, tp]
  · have ep := ps_n (β := β) h1 h2 h3
    have hip : ¬ (nI 0 ≤ nI c - nI 48 ∧ nI c - nI 48 ≤ nI 9) := fun z => h3 (dq.mp z)
    refine ⟨J, FR_rf, fun β' h => (by rw [ep] at h; cases h), ?_⟩
    rw [bnone ep, e66]
    simp (discharger := first | omega | decide | assumption) only [s66_0, s66_1, s66_4, s66_7, s66_8, s66_9, s66_9n, s66_10, s66_13, s66_16, s66_16n, s66_17, s66_18, s66_21, s66_22, s66_23, s66_26, s66_27, s66_28, s66_29, s66_32, s66_32n, s66_33, s66_34, s66_37, s66_40, s66_41, s66_42, s66_43, s66_46, s66_47, s66_48, s66_51, s66_52, s66_53, s66_54, s66_55, ltI, geL, leL, not_true_eq_false, not_false_eq_true, if_true, if_false, and_self, and_true, true_and, and_false, false_and, or_self, or_true, true_or, or_false, false_or, bo_T, bo_F, bo_e0, nI10, nI00, nI11, nI01, bo_e1, nem, eqL, af_v, af_0, rf_s, rf_n, nn, ite_self, h_isPerson, hip]
theorem c_take (A : RA r) (R : RB r J β) (V : PV β) (hc : c ≤ 126) : ∃ J1 : sm_Im, FR r J J1 ∧ (∀ β', pst β c = some β' → RB r J1 β') ∧ sm_ex (d + 4) 65 [.ref r, .int (nI c)] 81 J L (pX sw) = some (some (.int (bo ((pst β c).isSome = true))), 81, J1, L, pX sw) := by
  have V1 := V.1
  have hk : β 0 0 - 1 < β 0 0 := by omega
  have A' := A
  obtain ⟨A1, A2, A3, A4, A5, A6, A7, A8, A9, A10⟩ := A
  have A0 := A10 (β 0 0 - 1) (by omega)
  have a1 := A0.1
  have a2 := A0.2.1
  have R1 := R.1
  have sb : nI (β 0 0) - nI 1 = nI (β 0 0 - 1) := subN (by omega)
  have hf : sm_ex (d + 3) 60 [.ref r, .int (nI (β 0 0 - 1))] 81 J L (pX sw) = some (some (.ref (r + 3 + 2 * (β 0 0 - 1))), 81, J, L, pX sw) := r_find_1 A' R1 V1.2 hk
  by_cases c44 : c = 44
  · subst c44
    have iw := i_isWhole (d := d + 2) (I := J) (L := L) (sw := sw) A0
    simp only [whl_e R V] at iw
    by_cases hw : whl β
    · rw [botx hw] at iw
      by_cases h5 : β 0 0 < 5
      · have ep := ps_c1 hw h5
        have cb : sm_ex (d + 3) 64 [.ref r] 81 J L (pX sw) = _ := c_begin A' R1 h5
        refine ⟨_, FR_up (a := r) (k := 2) (x := nI (β 0 0 + 1)) (FR_up (a := r + 3 + 2 * β 0 0) (k := 3) (x := nI 0) (FR_up (a := r + 3 + 2 * β 0 0) (k := 2) (x := nI 0) (FR_up (a := r + 3 + 2 * β 0 0) (k := 1) (x := nI 0) FR_rf (by omega)) (by omega)) (by omega)) (by omega), fun β' h => ?_, ?_⟩
        · rw [ep] at h; cases h; exact RB_44 R V h5
        · rw [bsome ep, e65]
          simp (discharger := first | omega | decide | assumption) only [s65_0, s65_1, s65_2, s65_5, s65_6, s65_7, s65_10, s65_10n, s65_11, s65_11n, s65_12, s65_12n, s65_15, s65_16, s65_17, s65_18_0, s65_18_1, s65_18_2, s65_18_3, s65_18_d, s65_60, s65_60n, s65_61, s65_64, s65_67, s65_68, s65_71, s65_74, s65_75, s65_78, s65_79, s65_80, s65_80n, s65_81, s65_82, s65_85, s65_86, s65_86n, s65_87, s65_88, s65_91, s65_92, s65_92n, s65_93, s65_94, s65_97, s65_98, s65_99, s65_99n, s65_100, s65_101, s65_103, s65_104, s65_107, ltI, geL, leL, not_true_eq_false, not_false_eq_true, if_true, if_false, and_self, and_true, true_and, and_false, false_and, or_self, or_true, true_or, or_false, false_or, bo_T, bo_F, bo_e0, nI10, nI00, nI11, nI01, bo_e1, nem, eqL, af_v, af_0, rf_s, rf_n, nn, ite_self, R1, sb, hf, iw, cb, sm_cl]
      · have e5 : β 0 0 = 5 := by omega
        have ep := ps_c0 (β := β) (fun z => h5 z.2)
        have cb : sm_ex (d + 3) 64 [.ref r] 81 J L (pX sw) = _ := c_begin_5 A' (by rw [R1, e5])
        refine ⟨J, FR_rf, fun β' h => (by rw [ep] at h; cases h), ?_⟩
        rw [bnone ep, e65]
        simp (discharger := first | omega | decide | assumption) only [s65_0, s65_1, s65_2, s65_5, s65_6, s65_7, s65_10, s65_10n, s65_11, s65_11n, s65_12, s65_12n, s65_15, s65_16, s65_17, s65_18_0, s65_18_1, s65_18_2, s65_18_3, s65_18_d, s65_60, s65_60n, s65_61, s65_64, s65_67, s65_68, s65_71, s65_74, s65_75, s65_78, s65_79, s65_80, s65_80n, s65_81, s65_82, s65_85, s65_86, s65_86n, s65_87, s65_88, s65_91, s65_92, s65_92n, s65_93, s65_94, s65_97, s65_98, s65_99, s65_99n, s65_100, s65_101, s65_103, s65_104, s65_107, ltI, geL, leL, not_true_eq_false, not_false_eq_true, if_true, if_false, and_self, and_true, true_and, and_false, false_and, or_self, or_true, true_or, or_false, false_or, bo_T, bo_F, bo_e0, nI10, nI00, nI11, nI01, bo_e1, nem, eqL, af_v, af_0, rf_s, rf_n, nn, ite_self, R1, sb, hf, iw, cb, sm_cl]
    · rw [bofx hw] at iw
      have ep := ps_c0 (β := β) (fun z => hw z.1)
      refine ⟨J, FR_rf, fun β' h => (by rw [ep] at h; cases h), ?_⟩
      rw [bnone ep, e65]
      simp (discharger := first | omega | decide | assumption) only [s65_0, s65_1, s65_2, s65_5, s65_6, s65_7, s65_10, s65_10n, s65_11, s65_11n, s65_12, s65_12n, s65_15, s65_16, s65_17, s65_18_0, s65_18_1, s65_18_2, s65_18_3, s65_18_d, s65_60, s65_60n, s65_61, s65_64, s65_67, s65_68, s65_71, s65_74, s65_75, s65_78, s65_79, s65_80, s65_80n, s65_81, s65_82, s65_85, s65_86, s65_86n, s65_87, s65_88, s65_91, s65_92, s65_92n, s65_93, s65_94, s65_97, s65_98, s65_99, s65_99n, s65_100, s65_101, s65_103, s65_104, s65_107, ltI, geL, leL, not_true_eq_false, not_false_eq_true, if_true, if_false, and_self, and_true, true_and, and_false, false_and, or_self, or_true, true_or, or_false, false_or, bo_T, bo_F, bo_e0, nI10, nI00, nI11, nI01, bo_e1, nem, eqL, af_v, af_0, rf_s, rf_n, nn, ite_self, R1, sb, hf, iw, sm_cl]
  · by_cases hs : sg c
    · have ts : ∀ v, sm_ex (d + 3) 2 [.ref (r + 3 + 2 * (β 0 0 - 1)), .int v] 81 J L (pX sw) = _ := fun v => i_takeSign (x := v) A0
      by_cases hfr : frs β
      · have ep := ps_s1 hs hfr
        have ts' : ∀ v, sm_ex (d + 3) 2 [.ref (r + 3 + 2 * (β 0 0 - 1)), .int v] 81 J L (pX sw) = some (some (.int (nI 1)), 81, sm_up J (r + 3 + 2 * (β 0 0 - 1)) 1 v, L, pX sw) := fun v => by rw [ts v, if_pos (by rw [frs_e R V]; exact hfr)]
        refine ⟨sm_up J (r + 3 + 2 * (β 0 0 - 1)) 1 (nI (sgk c)), FR_up FR_rf (by omega), fun β' h => ?_, ?_⟩
        · rw [ep] at h; cases h; exact RB_sign R
        · rw [bsome ep, e65]
          rcases hs with rfl | rfl | rfl <;> simp (discharger := first | omega | decide | assumption) only [s65_0, s65_1, s65_2, s65_5, s65_6, s65_7, s65_10, s65_10n, s65_11, s65_11n, s65_12, s65_12n, s65_15, s65_16, s65_17, s65_18_0, s65_18_1, s65_18_2, s65_18_3, s65_18_d, s65_60, s65_60n, s65_61, s65_64, s65_67, s65_68, s65_71, s65_74, s65_75, s65_78, s65_79, s65_80, s65_80n, s65_81, s65_82, s65_85, s65_86, s65_86n, s65_87, s65_88, s65_91, s65_92, s65_92n, s65_93, s65_94, s65_97, s65_98, s65_99, s65_99n, s65_100, s65_101, s65_103, s65_104, s65_107, ltI, geL, leL, not_true_eq_false, not_false_eq_true, if_true, if_false, and_self, and_true, true_and, and_false, false_and, or_self, or_true, true_or, or_false, false_or, bo_T, bo_F, bo_e0, nI10, nI00, nI11, nI01, bo_e1, nem, eqL, af_v, af_0, rf_s, rf_n, nn, ite_self, R1, sb, hf, ts', sm_cl] <;> rfl
      · have ep := ps_s0 hs hfr
        have ts' : ∀ v, sm_ex (d + 3) 2 [.ref (r + 3 + 2 * (β 0 0 - 1)), .int v] 81 J L (pX sw) = some (some (.int (nI 0)), 81, J, L, pX sw) := fun v => by rw [ts v, if_neg (by rw [frs_e R V]; exact hfr)]
        refine ⟨J, FR_rf, fun β' h => (by rw [ep] at h; cases h), ?_⟩
        rw [bnone ep, e65]
        rcases hs with rfl | rfl | rfl <;> simp (discharger := first | omega | decide | assumption) only [s65_0, s65_1, s65_2, s65_5, s65_6, s65_7, s65_10, s65_10n, s65_11, s65_11n, s65_12, s65_12n, s65_15, s65_16, s65_17, s65_18_0, s65_18_1, s65_18_2, s65_18_3, s65_18_d, s65_60, s65_60n, s65_61, s65_64, s65_67, s65_68, s65_71, s65_74, s65_75, s65_78, s65_79, s65_80, s65_80n, s65_81, s65_82, s65_85, s65_86, s65_86n, s65_87, s65_88, s65_91, s65_92, s65_92n, s65_93, s65_94, s65_97, s65_98, s65_99, s65_99n, s65_100, s65_101, s65_103, s65_104, s65_107, ltI, geL, leL, not_true_eq_false, not_false_eq_true, if_true, if_false, and_self, and_true, true_and, and_false, false_and, or_self, or_true, true_or, or_false, false_or, bo_T, bo_F, bo_e0, nI10, nI00, nI11, nI01, bo_e1, nem, eqL, af_v, af_0, rf_s, rf_n, nn, ite_self, R1, sb, hf, ts', sm_cl]
    · obtain ⟨J1, g1, g2, g3⟩ := c_digit (d := d) (L := L) (sw := sw) A' R V hc c44 hs
      refine ⟨J1, g1, g2, ?_⟩
      have hs' := hs
      unfold sg at hs'
      have hb01 := bo_01 ((pst β c).isSome = true)
      have n0 : ¬ nI c = nI 43 := by rw [eqN (by omega) (by decide)]; omega
      have n1 : ¬ nI c = nI 44 := by rw [eqN (by omega) (by decide)]; omega
      have n2 : ¬ nI c = nI 63 := by rw [eqN (by omega) (by decide)]; omega
      have n3 : ¬ nI c = nI 111 := by rw [eqN (by omega) (by decide)]; omega
      rw [e65]
      simp (discharger := first | omega | decide | assumption) only [s65_0, s65_1, s65_2, s65_5, s65_6, s65_7, s65_10, s65_10n, s65_11, s65_11n, s65_12, s65_12n, s65_15, s65_16, s65_17, s65_18_0, s65_18_1, s65_18_2, s65_18_3, s65_18_d, s65_60, s65_60n, s65_61, s65_64, s65_67, s65_68, s65_71, s65_74, s65_75, s65_78, s65_79, s65_80, s65_80n, s65_81, s65_82, s65_85, s65_86, s65_86n, s65_87, s65_88, s65_91, s65_92, s65_92n, s65_93, s65_94, s65_97, s65_98, s65_99, s65_99n, s65_100, s65_101, s65_103, s65_104, s65_107, ltI, geL, leL, not_true_eq_false, not_false_eq_true, if_true, if_false, and_self, and_true, true_and, and_false, false_and, or_self, or_true, true_or, or_false, false_or, bo_T, bo_F, bo_e0, nI10, nI00, nI11, nI01, bo_e1, nem, eqL, af_v, af_0, rf_s, rf_n, nn, ite_self, R1, sb, hf, g3, sm_cl]
theorem c_rf_loop (A : RA r) (hr : 37 ≤ r) {f : Nat → Nat} (hn : I 1 1 = nI n) (hn2 : n ≤ 32) (hf : ∀ k, k < n → I 2 k = nI (f k) ∧ f k ≤ 126) : ∀ (g i : Nat), i + g = n → ∀ (J : sm_Im) (β : Nat → Nat → Nat), FR r I J → RB r J β → PV β → ∃ J1 : sm_Im, FR r I J1 ∧ ((prun f g i β).1 = n → RB r J1 (prun f g i β).2) ∧ sm_at (sm_ex (d + 4)) none 57 20 [some (.ref r), some (.ref 1), some (.int (nI i))] [] 81 J L (pX sw) = some (some (.int (nI (prun f g i β).1)), 81, J1, L, pX sw) := by
  obtain ⟨A1, A2, -⟩ := id A
  intro g
  induction g with
  | zero =>
    intro i hi J β hJ R V
    obtain rfl : i = n := by omega
    refine ⟨J, hJ, fun _ => R, ?_⟩
    have e1 : J 1 1 = nI i := by rw [hJ 1 (by omega)]; exact hn
    have cs : sm_ex (d + 4) 50 [.ref 1] 81 J L (pX sw) = _ := c_psize
    rw [s57_20]
    simp (discharger := (first | omega | decide | assumption | exact rg_lt | exact rg_ly | (simp only [ly1, p1_0]; omega))) only [s57_0, s57_1, s57_4, s57_5, s57_8, s57_9, s57_10, s57_13, s57_14, s57_17, s57_18, s57_19, s57_21, s57_21n, s57_22, s57_25, s57_28, s57_29, s57_29n, s57_30, s57_31, s57_34, s57_37, s57_40, s57_41, s57_42, s57_45, s57_48, s57_48n, s57_49, s57_52, ltI, geL, leL, not_true_eq_false, not_false_eq_true, if_true, if_false, and_self, and_true, true_and, and_false, false_and, or_self, or_true, true_or, or_false, false_or, bo_T, bo_F, bo_e0, nI10, nI00, nI11, nI01, bo_e1, nem, eqL, af_v, af_0, rf_s, rf_n, nn, ite_self, ly1, p1_0, cs, e1, Int32.le_refl, prun]
  | succ g ih =>
    intro i hi J β hJ R V
    have c1 : ¬ n ≤ i := by omega
    obtain ⟨f1, f2⟩ := hf i (by omega)
    have e1 : J 1 1 = nI n := by rw [hJ 1 (by omega)]; exact hn
    have e2 : J 2 i = nI (f i) := by rw [hJ 2 (by omega)]; exact f1
    have cs : sm_ex (d + 4) 50 [.ref 1] 81 J L (pX sw) = _ := c_psize
    have ca : sm_ex (d + 4) 51 [.ref 1, .int (nI i)] 81 J L (pX sw) = _ := c_pat e1 hn2 (by omega)
    obtain ⟨J1, g1, g2, g3⟩ := c_take (d := d) (L := L) (sw := sw) A R V f2
    have pe : prun f (g + 1) i β = match pst β (f i) with
      | some β' => prun f g (i + 1) β'
      | none => (i, β) := rfl
    cases hp : pst β (f i) with
    | none =>
      rw [hp] at pe
      dsimp only at pe
      refine ⟨J1, FR_tr hJ g1, fun h => (by rw [pe] at h; dsimp only at h; omega), ?_⟩
      rw [bnone hp] at g3
      rw [pe, s57_20]
      simp (discharger := (first | omega | decide | assumption | exact rg_lt | exact rg_ly | (simp only [ly1, p1_0]; omega))) only [s57_0, s57_1, s57_4, s57_5, s57_8, s57_9, s57_10, s57_13, s57_14, s57_17, s57_18, s57_19, s57_21, s57_21n, s57_22, s57_25, s57_28, s57_29, s57_29n, s57_30, s57_31, s57_34, s57_37, s57_40, s57_41, s57_42, s57_45, s57_48, s57_48n, s57_49, s57_52, ltI, geL, leL, not_true_eq_false, not_false_eq_true, if_true, if_false, and_self, and_true, true_and, and_false, false_and, or_self, or_true, true_or, or_false, false_or, bo_T, bo_F, bo_e0, nI10, nI00, nI11, nI01, bo_e1, nem, eqL, af_v, af_0, rf_s, rf_n, nn, ite_self, ly1, p1_0, cs, e1, leN, c1, ca, e2, g3]
    | some β' =>
      rw [hp] at pe
      dsimp only at pe
      rw [bsome hp] at g3
      obtain ⟨J2, k1, k2, k3⟩ := ih (i + 1) (by omega) J1 β' (FR_tr hJ g1) (g2 β' hp) (pst_PV V hp)
      rw [pe]
      refine ⟨J2, k1, k2, ?_⟩
      rw [← k3, s57_20]
      simp (discharger := (first | omega | decide | assumption | exact rg_lt | exact rg_ly | (simp only [ly1, p1_0]; omega))) only [s57_0, s57_1, s57_4, s57_5, s57_8, s57_9, s57_10, s57_13, s57_14, s57_17, s57_18, s57_19, s57_21, s57_21n, s57_22, s57_25, s57_28, s57_29, s57_29n, s57_30, s57_31, s57_34, s57_37, s57_40, s57_41, s57_42, s57_45, s57_48, s57_48n, s57_49, s57_52, ltI, geL, leL, not_true_eq_false, not_false_eq_true, if_true, if_false, and_self, and_true, true_and, and_false, false_and, or_self, or_true, true_or, or_false, false_or, bo_T, bo_F, bo_e0, nI10, nI00, nI11, nI01, bo_e1, nem, eqL, af_v, af_0, rf_s, rf_n, nn, ite_self, ly1, p1_0, cs, e1, leN, c1, ca, e2, g3, addN, sm_cl]
theorem c_readFrom (A : RA r) (hr : 37 ≤ r) {f : Nat → Nat} (hn : I 1 1 = nI n) (hn2 : n ≤ 32) (hf : ∀ k, k < n → I 2 k = nI (f k) ∧ f k ≤ 126) : ∃ J1 : sm_Im, FR r I J1 ∧ ((prun f n 0 be0).1 = n → RB r J1 (prun f n 0 be0).2) ∧ sm_ex (d + 5) 57 [.ref r, .ref 1] 81 I L (pX sw) = some (some (.int (nI (prun f n 0 be0).1)), 81, J1, L, pX sw) := by
  obtain ⟨A1, A2, A3, A4, A5, A6, A7, A8, A9, A10⟩ := id A
  have fa : sm_ex (d + 4) 215 [.ref (r + 2), .int (-1)] 81 I L (pX sw) = some (none, 81, lays I (r + 2) 0 (fun _ => -1) (sm_al (r + 2)), L, pX sw) := j_fill A7 (by rw [A8]; decide)
  rw [A8] at fa
  have cb : sm_ex (d + 4) 64 [.ref r] 81 (sm_up (lays I (r + 2) 0 (fun _ => -1) 10) r 2 (nI 0)) L (pX sw) = _ := c_begin A up_same (by decide)
  rw [Nat.mul_zero, Nat.add_zero, Nat.zero_add] at cb
  have F : FR r I (sm_up (sm_up (sm_up (sm_up (sm_up (lays I (r + 2) 0 (fun _ => -1) 10) r 2 (nI 0)) (r + 3) 1 (nI 0)) (r + 3) 2 (nI 0)) (r + 3) 3 (nI 0)) r 2 (nI 1)) := FR_up (FR_up (FR_up (FR_up (FR_up (fun c hc => lays_row (by omega) _) (by omega)) (by omega)) (by omega)) (by omega)) (by omega)
  have R0 : RB r (sm_up (sm_up (sm_up (sm_up (sm_up (lays I (r + 2) 0 (fun _ => -1) 10) r 2 (nI 0)) (r + 3) 1 (nI 0)) (r + 3) 2 (nI 0)) (r + 3) 3 (nI 0)) r 2 (nI 1)) be0 := by
    refine ⟨by rw [up_same]; rfl, fun k hk => ?_, fun p hp => ?_⟩
    · have : k < 1 := hk
      obtain rfl : k = 0 := by omega
      rw [Nat.mul_zero, Nat.add_zero, up_row (by omega)]
      exact ⟨by rw [up_cell (by omega), up_cell (by omega), up_same]; rfl, by rw [up_cell (by omega), up_same]; rfl, by rw [up_same]; rfl, fun j hj => absurd hj (Nat.not_lt_zero _)⟩
    · rw [up_row (by omega), up_row (by omega), up_row (by omega), up_row (by omega), up_row (by omega), lays_at0 hp]
      rfl
  obtain ⟨J1, k1, k2, k3⟩ := c_rf_loop (d := d) (L := L) (sw := sw) A hr hn hn2 hf n 0 (Nat.zero_add _) _ be0 F R0 PV_0
  refine ⟨J1, k1, k2, ?_⟩
  rw [← k3, e57]
  simp (discharger := first | omega | decide | assumption) only [s57_0, s57_1, s57_4, s57_5, s57_8, s57_9, s57_10, s57_13, s57_14, s57_17, s57_18, s57_19, s57_21, s57_21n, s57_22, s57_25, s57_28, s57_29, s57_29n, s57_30, s57_31, s57_34, s57_37, s57_40, s57_41, s57_42, s57_45, s57_48, s57_48n, s57_49, s57_52, ltI, geL, leL, not_true_eq_false, not_false_eq_true, if_true, if_false, and_self, and_true, true_and, and_false, false_and, or_self, or_true, true_or, or_false, false_or, bo_T, bo_F, bo_e0, nI10, nI00, nI11, nI01, bo_e1, nem, eqL, af_v, af_0, rf_s, rf_n, nn, ite_self, A4, fa, cb, sm_cl]
end TK
