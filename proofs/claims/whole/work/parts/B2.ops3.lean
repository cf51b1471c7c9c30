section OPB
variable {I J : sm_Im} {L : sm_Lm} {sw : Bool} {x y z u v : Int32} {a b m n q c k j p s t r : Nat} {β τ κ : Nat → Nat → Nat} {f : Nat → Nat}
theorem RB_r (h : ∀ b, r ≤ b → b < r + 13 → J b = I b) (B5 : β 0 0 ≤ 5) (R : RB r I β) : RB r J β := by
  obtain ⟨R1, R2, R3⟩ := R
  refine ⟨by rw [h _ (by omega) (by omega)]; exact R1, fun k hk => ?_, fun p hp => by rw [h _ (by omega) (by omega)]; exact R3 p hp⟩
  rw [h _ (by omega) (by omega), h (r + 3 + 2 * k + 1) (by omega) (by omega)]
  exact R2 k hk
theorem o_births (ht : t < 1000) (H : Inv sw t I) : OpI sw t I 99 158 [] := by
  obtain ⟨h1, h2, ⟨n, f, p1, p2, p3, p4⟩, -, -, h6, h7, ⟨br, kn, n1, n2, n3, n4, n5, n6⟩, h9⟩ := id H
  have pc : ∀ k, k < n → I 2 k = nI (f k) ∧ f k ≤ 126 := fun k hk => ⟨(p4 k hk).1, (p4 k hk).2.2⟩
  have pm : ∀ k, k < n → I 66 k = nI (f k) ∧ f k ≤ 126 := fun k hk => ⟨(p4 k hk).2.1, (p4 k hk).2.2⟩
  by_cases h : okB f n
  · intro L
    obtain ⟨J1, k1, kR, k2⟩ := c_births_2 (d := 34) (L := L) (sw := sw) p2 p1 pc h
    have a1 : ∀ c, (c ≤ 36 ∨ 63 ≤ c) → J1 c = I c := fun c hc => FR_e k1 hc
    obtain ⟨J2, g1, g2, g12, g9, g3, gM, m2⟩ := m_births_2 (d := 34) (L := L) (sw := !sw) (f := f) (I := sm_up (sm_up (sm_up (sm_up J1 1 1 (nI 0)) 3 3 (nI 0)) 23 4 (nI 0)) 0 10 (I 0 10 + nI 1)) (by rw [up_row (by decide), up_row (by decide), up_row (by decide), up_row (by decide), a1 63 (by decide)]; exact p3) p1 (fun k hk => by rw [up_row (by decide), up_row (by decide), up_row (by decide), up_row (by decide), a1 66 (by decide)]; exact pm k hk) h
    have V := prun_PV f n 0 be0 PV_0
    have B := PV_BOk V h.2
    refine ⟨_, !sw, _, J2, L, k2, m2, ?_⟩
    generalize (prun f n 0 be0).2 = β at *
    have e : ∀ c, (c ≤ 36 ∨ 63 ≤ c) → ¬ (c = 0 ∨ c = 1 ∨ c = 3 ∨ c = 23 ∨ c = 63 ∨ c = 67 ∨ c = 68 ∨ c = 69) → J2 c = I c := fun c q1 q2 => by rw [g1 c (by omega) (by omega) (by omega) (by omega), up_row (by omega), up_row (by omega), up_row (by omega), up_row (by omega), a1 c q1]
    have g63 : ∀ k, sm_up (sm_up (sm_up (sm_up J1 1 1 (nI 0)) 3 3 (nI 0)) 23 4 (nI 0)) 0 10 (I 0 10 + nI 1) 63 k = I 63 k := fun k => by rw [up_row (by decide), up_row (by decide), up_row (by decide), up_row (by decide), a1 63 (by decide)]
    have e63 : ∀ k, k ≠ 3 → k ≠ 4 → k ≠ 5 → k ≠ 6 → k ≠ 8 → k ≠ 9 → k ≠ 12 → J2 63 k = I 63 k := fun k q1 q2 q3 q4 q5 q6 q7 => by rw [g2 k q1 q2 q3 q4 q5 q6 q7, g63]
    have e9 : J2 63 9 = nI (br + 1) := by rw [g9, g63, n4, addN]
    refine ⟨by rw [e 8 (by decide) (by decide), e 64 (by decide) (by decide)]; exact h1, by rw [e 36 (by decide) (by decide), e 65 (by decide) (by decide)]; exact h2, ⟨0, f, by decide, ?_, g3, fun k hk => absurd hk (Nat.not_lt_zero _)⟩, ⟨β, RB_r (fun b q1 q2 => ?_) B.1 kR, gM, B⟩, ⟨fun _ _ => 0, ⟨?_, fun k hk => absurd hk (Nat.not_lt_zero _)⟩, ⟨g12, fun k hk => absurd hk (Nat.not_lt_zero _)⟩, TOk_0⟩, ?_, ?_, ?_, ?_⟩
    · rw [g1 1 (by decide) (by decide) (by decide) (by decide), up_row (by decide), up_row (by decide), up_row (by decide), up_same]
    · have := rg_rng q1 q2
      rw [g1 b (by omega) (by omega) (by omega) (by omega), up_row (by omega), up_row (by omega), up_row (by omega), up_row (by omega)]
    · rw [g1 3 (by decide) (by decide) (by decide) (by decide), up_row (by decide), up_row (by decide), up_same]
    · exact cBook_c (by rw [e 14 (by decide) (by decide)]) (e 15 (by decide) (by decide)) (e63 17 (by decide) (by decide) (by decide) (by decide) (by decide) (by decide) (by decide)) (e 73 (by decide) (by decide)) h6
    · exact cCrw_c (by rw [e 16 (by decide) (by decide)]) (by rw [e 16 (by decide) (by decide)]) (e 17 (by decide) (by decide)) (e 18 (by decide) (by decide)) (e63 19 (by decide) (by decide) (by decide) (by decide) (by decide) (by decide) (by decide)) (e63 21 (by decide) (by decide) (by decide) (by decide) (by decide) (by decide) (by decide)) (e 74 (by decide) (by decide)) h7
    · refine ⟨br + 1, kn, by omega, n2, ?_, e9, ?_, ?_⟩
      · rw [g1 0 (by decide) (by decide) (by decide) (by decide), up_same, n3, addN]
      · rw [g1 0 (by decide) (by decide) (by decide) (by decide), up_cell (by decide), up_row (by decide), up_row (by decide), up_row (by decide), a1 0 (by decide)]; exact n5
      · rw [e63 15 (by decide) (by decide) (by decide) (by decide) (by decide) (by decide) (by decide)]; exact n6
    · obtain ⟨br', cr, q1, q2, q3, q4, q5⟩ := h9
      have ebr : br' = br := by
        have := q1.symm.trans n4
        rw [eqN (by omega) (by omega)] at this
        exact this
      subst ebr
      have e234 : J2 23 4 = nI 0 := by rw [g1 23 (by decide) (by decide) (by decide) (by decide), up_row (by decide), up_same]
      refine ⟨br' + 1, cr, e9, by rw [e63 20 (by decide) (by decide) (by decide) (by decide) (by decide) (by decide) (by decide)]; exact q2, by omega, by omega, ?_⟩
      rw [e63 25 (by decide) (by decide) (by decide) (by decide) (by decide) (by decide) (by decide), e63 26 (by decide) (by decide) (by decide) (by decide) (by decide) (by decide) (by decide), e63 27 (by decide) (by decide) (by decide) (by decide) (by decide) (by decide) (by decide), e234]
      rcases q5 with q5 | ⟨kb, kc, kt, f1, f0, f2, f3, f4, f5, f6⟩
      · exact Or.inl ⟨q5.1, rfl⟩
      · exact Or.inr ⟨kb, kc, kt, f1, f0, f2, f3, by omega, f5, Or.inl ⟨rfl, Or.inl (by omega)⟩⟩
  · intro L
    obtain ⟨J1, k1, k2⟩ := c_births_1 (d := 34) (L := L) (sw := sw) p2 p1 pc h
    obtain ⟨J2, m1, m2⟩ := m_births_1 (d := 34) (L := L) (sw := sw) (f := f) (I := J1) (by rw [FR_e k1 (by decide)]; exact p3) p1 (fun k hk => by rw [FR_e k1 (by decide)]; exact pm k hk) h
    exact ⟨_, sw, J1, J2, L, k2, m2, Inv_t (Inv_SF (SF_tr (SF_FR k1) (SF_FM m1)) H)⟩
/-- the image, cell by cell -/
theorem iK_r (h : ¬ (c = 23 ∨ c = 24 ∨ c = 25 ∨ c = 26 ∨ c = 28 ∨ c = 29 ∨ c = 30 ∨ c = 31 ∨ c = 32 ∨ c = 33)) : imK I c = I c := by
  unfold imK
  rw [up_row (by omega), cpC_row (by omega) (by omega) (by omega), cpB_row (by omega) (by omega), cpR_row (by omega), cpT_row (by omega) (by omega) (by omega)]
theorem iK_23 : imK I 23 4 = nI 1 := by unfold imK; rw [up_same]
theorem iK_24 : imK I 24 3 = I 3 3 := by
  unfold imK
  rw [up_row (by decide), cpC_row (by decide) (by decide) (by decide), cpB_row (by decide) (by decide), cpR_row (by decide)]
  exact cpT_n (by decide) (by decide)
theorem iK_25 (h : k < 12) : imK I 25 k = I 4 k := by
  unfold imK
  rw [up_row (by decide), cpC_row (by decide) (by decide) (by decide), cpB_row (by decide) (by decide), cpR_row (by decide)]
  exact cpT_1 (a := 24) (b := 3) h
theorem iK_26 (h : k < 12) : imK I 26 k = I 5 k := by
  unfold imK
  rw [up_row (by decide), cpC_row (by decide) (by decide) (by decide), cpB_row (by decide) (by decide), cpR_row (by decide)]
  exact cpT_2 (a := 24) (b := 3) h (by decide)
theorem iK_28 (h : k < 10) : imK I 28 k = I 36 k := by
  unfold imK
  rw [up_row (by decide), cpC_row (by decide) (by decide) (by decide), cpB_row (by decide) (by decide), cpR_at h, cpT_row (by decide) (by decide) (by decide)]
theorem iK_29 : imK I 29 1 = I 14 1 := by
  unfold imK
  rw [up_row (by decide), cpC_row (by decide) (by decide) (by decide), cpB_n (by decide), cpR_row (by decide), cpT_row (by decide) (by decide) (by decide)]
theorem iK_30 (h : k < 4) : imK I 30 k = I 15 k := by
  unfold imK
  rw [up_row (by decide), cpC_row (by decide) (by decide) (by decide)]
  refine (cpB_1 (a := 29) (b := 14) h).trans ?_
  rw [cpR_row (by decide), cpT_row (by decide) (by decide) (by decide)]
theorem iK_314 : imK I 31 4 = I 16 4 := by
  unfold imK
  rw [up_row (by decide), cpC_s (by decide) (by decide), cpB_row (by decide) (by decide), cpR_row (by decide), cpT_row (by decide) (by decide) (by decide)]
theorem iK_315 : imK I 31 5 = I 16 5 := by
  unfold imK
  rw [up_row (by decide), cpC_n (by decide) (by decide) (by decide), cpB_row (by decide) (by decide), cpR_row (by decide), cpT_row (by decide) (by decide) (by decide)]
theorem iK_32 (h : k < 8) : imK I 32 k = I 17 k := by
  unfold imK
  rw [up_row (by decide)]
  refine (cpC_1 (a := 31) (b := 16) h).trans ?_
  rw [cpB_row (by decide) (by decide), cpR_row (by decide), cpT_row (by decide) (by decide) (by decide)]
theorem iK_33 (h : k < 8) : imK I 33 k = I 18 k := by
  unfold imK
  rw [up_row (by decide)]
  refine (cpC_2 (a := 31) (b := 16) h (by decide)).trans ?_
  rw [cpB_row (by decide) (by decide), cpR_row (by decide), cpT_row (by decide) (by decide) (by decide)]
theorem iL_r (h : ¬ (c = 77 ∨ c = 78 ∨ c = 79 ∨ c = 80)) : imL I c = I c := by
  unfold imL
  rw [lays_row (by omega), lays_row (by omega), lays_row (by omega), lays_row (by omega)]
theorem iL_77 (h : k < 24) : imL I 77 k = I 70 k := by
  unfold imL
  rw [lays_row (by decide), lays_row (by decide), lays_row (by decide), lays_at0 h]
theorem iL_78 (h : k < 10) : imL I 78 k = I 65 k := by
  unfold imL
  rw [lays_row (by decide), lays_row (by decide), lays_at0 h, lays_row (by decide)]
theorem iL_79 (h : k < 4) : imL I 79 k = I 73 k := by
  unfold imL
  rw [lays_row (by decide), lays_at0 h, lays_row (by decide), lays_row (by decide)]
theorem iL_80 (h : k < 16) : imL I 80 k = I 74 k := by
  unfold imL
  rw [lays_at0 h, lays_row (by decide), lays_row (by decide), lays_row (by decide)]
theorem iM_r (h : c ≠ 63) : imM I c = imL I c := by unfold imM; rw [up_row h, up_row h, up_row h, up_row h, up_row h]
theorem iM_k (h : k ≠ 25) (h2 : k ≠ 26) (h3 : k ≠ 27) (h4 : k ≠ 28) (h5 : k ≠ 29) : imM I 63 k = I 63 k := by unfold imM; rw [up_cell (by omega), up_cell (by omega), up_cell (by omega), up_cell (by omega), up_cell (by omega), imL_63]
theorem iM_25 : imM I 63 25 = I 63 12 := by unfold imM; rw [up_cell (by decide), up_cell (by decide), up_cell (by decide), up_cell (by decide), up_same]
theorem iM_28 : imM I 63 28 = I 63 17 := by unfold imM; rw [up_cell (by decide), up_cell (by decide), up_cell (by decide), up_same]
theorem iM_29 : imM I 63 29 = I 63 21 := by unfold imM; rw [up_cell (by decide), up_cell (by decide), up_same]
theorem iM_26 : imM I 63 26 = I 63 9 := by unfold imM; rw [up_cell (by decide), up_same]
theorem iM_27 : imM I 63 27 = I 63 20 := by unfold imM; rw [up_same]
theorem o_image (H : Inv sw t I) : OpI sw t I 121 205 [] := by
  obtain ⟨h1, ⟨f, hf⟩, h3, h4, ⟨τ, T, T2, O1, O2⟩, ⟨n, g, b1, b2, b3, b4⟩, ⟨κ, K1, K2, K3, K4, K5⟩, h8, ⟨br, cr, q1, q2, q3, q4, -⟩⟩ := Inv_t H
  have nk := n4_ok K3
  intro L
  have cc := c_image (d := 37) (I := I) (L := L) (sw := sw)
  have mm := m_image (d := 37) (I := imK I) (L := L) (sw := sw)
  rw [iK_r (c := 3) (by decide), T.1] at cc
  rw [iK_r (c := 63) (by decide), T2.1] at mm
  refine ⟨_, sw, _, _, L, cc, mm, ?_⟩
  have e : ∀ c, ¬ (c = 23 ∨ c = 24 ∨ c = 25 ∨ c = 26 ∨ c = 28 ∨ c = 29 ∨ c = 30 ∨ c = 31 ∨ c = 32 ∨ c = 33 ∨ c = 63 ∨ c = 77 ∨ c = 78 ∨ c = 79 ∨ c = 80) → imM (imK I) c = I c := fun c h => by rw [iM_r (by omega), iL_r (by omega), iK_r (by omega)]
  have i : ∀ c, ¬ (c = 63 ∨ c = 77 ∨ c = 78 ∨ c = 79 ∨ c = 80) → imM (imK I) c = imK I c := fun c h => by rw [iM_r (by omega), iL_r (by omega)]
  have e63 : ∀ k, k ≠ 25 → k ≠ 26 → k ≠ 27 → k ≠ 28 → k ≠ 29 → imM (imK I) 63 k = I 63 k := fun k z1 z2 z3 z4 z5 => by rw [iM_k z1 z2 z3 z4 z5, iK_r (by decide)]
  refine ⟨by rw [e 8 (by decide), e 64 (by decide)]; exact h1, by rw [e 36 (by decide), e 65 (by decide)]; exact ⟨f, hf⟩, by rw [e 1 (by decide), e 2 (by decide), e 66 (by decide), e63 3 (by decide) (by decide) (by decide) (by decide) (by decide)]; exact h3, cBir_c (fun b a1 a2 => e b (by have := rg_rng a1 a2; omega)) (e63 8 (by decide) (by decide) (by decide) (by decide) (by decide)) (e 68 (by decide)) (e 69 (by decide)) h4, cTou_c (by rw [e 3 (by decide)]) (e 4 (by decide)) (e 5 (by decide)) (e63 12 (by decide) (by decide) (by decide) (by decide) (by decide)) (e 70 (by decide)) ⟨τ, T, T2, O1, O2⟩, cBook_c (by rw [e 14 (by decide)]) (e 15 (by decide)) (e63 17 (by decide) (by decide) (by decide) (by decide) (by decide)) (e 73 (by decide)) ⟨n, g, b1, b2, b3, b4⟩, cCrw_c (by rw [e 16 (by decide)]) (by rw [e 16 (by decide)]) (e 17 (by decide)) (e 18 (by decide)) (e63 19 (by decide) (by decide) (by decide) (by decide) (by decide)) (e63 21 (by decide) (by decide) (by decide) (by decide) (by decide)) (e 74 (by decide)) ⟨κ, K1, K2, K3, K4, K5⟩, cNum_c (by rw [e 0 (by decide)]) (by rw [e 0 (by decide)]) (e63 9 (by decide) (by decide) (by decide) (by decide) (by decide)) (e63 15 (by decide) (by decide) (by decide) (by decide) (by decide)) h8, ?_⟩
  have k63 : ∀ k, imK I 63 k = I 63 k := fun k => by rw [iK_r (by decide)]
  refine ⟨br, cr, by rw [e63 9 (by decide) (by decide) (by decide) (by decide) (by decide)]; exact q1, by rw [e63 20 (by decide) (by decide) (by decide) (by decide) (by decide)]; exact q2, q3, q4, Or.inr ⟨br, cr, τ 0 0, by rw [iM_25, k63]; exact T2.1, O1, by rw [iM_26, k63]; exact q1, by rw [iM_27, k63]; exact q2, Nat.le_refl _, Nat.le_refl _, Or.inr ⟨by rw [i 23 (by decide)]; exact iK_23, rfl, rfl, ⟨τ, ⟨O1, O2⟩, ?_, by rw [iM_25, k63]; exact T2.1, fun k hk => ?_⟩, ⟨f, fun k hk => ?_⟩, ⟨n, g, b1, ?_, ?_, fun k hk => ?_⟩, ⟨κ, ⟨K3, K4, K5⟩, ?_, ?_, ?_, ?_, fun k hk => ?_⟩⟩⟩⟩
  · rw [i 24 (by decide), iK_24]; exact T.1
  · rw [i 25 (by decide), i 26 (by decide), iK_25 (by omega), iK_26 (by omega), iM_r (by decide), iL_77 (by omega), iL_77 (by omega), iK_r (by decide)]
    exact ⟨(T.2 k hk).1, (T.2 k hk).2, (T2.2 k hk).1, (T2.2 k hk).2⟩
  · rw [i 28 (by decide), iK_28 hk, iM_r (by decide), iL_78 hk, iK_r (by decide)]; exact hf k hk
  · rw [i 29 (by decide), iK_29]; exact b2
  · rw [iM_28, k63]; exact b3
  · rw [i 30 (by decide), iK_30 (by omega), iM_r (by decide), iL_79 (by omega), iK_r (by decide)]; exact b4 k hk
  · rw [e 16 (by decide)]; exact K1.1
  · rw [i 31 (by decide), iK_314]; exact K1.1
  · rw [i 31 (by decide), iK_315]; exact K1.2.1
  · rw [iM_29, k63]; exact K2.2.1
  · rw [i 32 (by decide), i 33 (by decide), iK_32 (by omega), iK_33 (by omega), iM_r (by decide), iL_80 (by omega), iL_80 (by omega), iK_r (by decide)]
    exact ⟨(K1.2.2 k hk).1, (K1.2.2 k hk).2, (K2.2.2 k hk).1, (K2.2.2 k hk).2⟩
/-- back from the image -/
theorem iG_r (h : ¬ (c = 3 ∨ c = 4 ∨ c = 5 ∨ c = 36 ∨ c = 14 ∨ c = 15 ∨ c = 16 ∨ c = 17 ∨ c = 18)) : imG I c = I c := by
  unfold imG
  rw [cpC_row (by omega) (by omega) (by omega), cpB_row (by omega) (by omega), cpR_row (by omega), cpT_row (by omega) (by omega) (by omega)]
theorem iG_3 : imG I 3 3 = I 24 3 := by
  unfold imG
  rw [cpC_row (by decide) (by decide) (by decide), cpB_row (by decide) (by decide), cpR_row (by decide)]
  exact cpT_n (by decide) (by decide)
theorem iG_4 (h : k < 12) : imG I 4 k = I 25 k := by
  unfold imG
  rw [cpC_row (by decide) (by decide) (by decide), cpB_row (by decide) (by decide), cpR_row (by decide)]
  exact cpT_1 (a := 3) (b := 24) h
theorem iG_5 (h : k < 12) : imG I 5 k = I 26 k := by
  unfold imG
  rw [cpC_row (by decide) (by decide) (by decide), cpB_row (by decide) (by decide), cpR_row (by decide)]
  exact cpT_2 (a := 3) (b := 24) h (by decide)
theorem iG_36 (h : k < 10) : imG I 36 k = I 28 k := by
  unfold imG
  rw [cpC_row (by decide) (by decide) (by decide), cpB_row (by decide) (by decide), cpR_at h, cpT_row (by decide) (by decide) (by decide)]
theorem iG_14 : imG I 14 1 = I 29 1 := by
  unfold imG
  rw [cpC_row (by decide) (by decide) (by decide), cpB_n (by decide), cpR_row (by decide), cpT_row (by decide) (by decide) (by decide)]
theorem iG_15 (h : k < 4) : imG I 15 k = I 30 k := by
  unfold imG
  rw [cpC_row (by decide) (by decide) (by decide)]
  refine (cpB_1 (a := 14) (b := 29) h).trans ?_
  rw [cpR_row (by decide), cpT_row (by decide) (by decide) (by decide)]
theorem iG_164 : imG I 16 4 = I 31 4 := by
  unfold imG
  rw [cpC_s (by decide) (by decide), cpB_row (by decide) (by decide), cpR_row (by decide), cpT_row (by decide) (by decide) (by decide)]
theorem iG_165 : imG I 16 5 = I 31 5 := by
  unfold imG
  rw [cpC_n (by decide) (by decide) (by decide), cpB_row (by decide) (by decide), cpR_row (by decide), cpT_row (by decide) (by decide) (by decide)]
theorem iG_17 (h : k < 8) : imG I 17 k = I 32 k := by
  unfold imG
  refine (cpC_1 (a := 16) (b := 31) h).trans ?_
  rw [cpB_row (by decide) (by decide), cpR_row (by decide), cpT_row (by decide) (by decide) (by decide)]
theorem iG_18 (h : k < 8) : imG I 18 k = I 33 k := by
  unfold imG
  refine (cpC_2 (a := 16) (b := 31) h (by decide)).trans ?_
  rw [cpB_row (by decide) (by decide), cpR_row (by decide), cpT_row (by decide) (by decide) (by decide)]
theorem rL_r (h : ¬ (c = 70 ∨ c = 65 ∨ c = 73 ∨ c = 74)) : reL I c = I c := by
  unfold reL
  rw [lays_row (by omega), lays_row (by omega), lays_row (by omega), lays_row (by omega)]
theorem rL_70 (h : k < 24) : reL I 70 k = I 77 k := by
  unfold reL
  rw [lays_row (by decide), lays_row (by decide), lays_row (by decide), lays_at0 h]
theorem rL_65 (h : k < 10) : reL I 65 k = I 78 k := by
  unfold reL
  rw [lays_row (by decide), lays_row (by decide), lays_at0 h, lays_row (by decide)]
theorem rL_73 (h : k < 4) : reL I 73 k = I 79 k := by
  unfold reL
  rw [lays_row (by decide), lays_at0 h, lays_row (by decide), lays_row (by decide)]
theorem rL_74 (h : k < 16) : reL I 74 k = I 80 k := by
  unfold reL
  rw [lays_at0 h, lays_row (by decide), lays_row (by decide), lays_row (by decide)]
theorem rM_r (h : c ≠ 63) : reM I c = reL I c := by unfold reM; rw [up_row h, up_row h, up_row h]
theorem rM_k (h : k ≠ 12) (h2 : k ≠ 17) (h3 : k ≠ 21) : reM I 63 k = I 63 k := by unfold reM; rw [up_cell (by omega), up_cell (by omega), up_cell (by omega), reL_63]
theorem rM_12 : reM I 63 12 = I 63 25 := by unfold reM; rw [up_cell (by decide), up_cell (by decide), up_same]
theorem rM_17 : reM I 63 17 = I 63 28 := by unfold reM; rw [up_cell (by decide), up_same]
theorem rM_21 : reM I 63 21 = I 63 29 := by unfold reM; rw [up_same]
theorem o_restore (ht : t < 1000) (H : Inv sw t I) : OpI sw t I 122 206 [] := by
  obtain ⟨-, -, -, -, -, -, -, -, ⟨br, cr, q1, q2, q3, q4, q5⟩⟩ := id H
  rcases q5 with q5 | ⟨kb, kc, kt, f1, f0, f2, f3, f4, f5, f6⟩
  · exact OpI_s H _ (fun L => c_restore_1 (by rw [q5.2]; rfl)) (fun L => m_restore_1 (fun z => z.1 q5.1))
  · rcases f6 with ⟨e1, e2⟩ | ⟨e1, rfl, rfl, c1, c2, c3, c4⟩
    · refine OpI_s H _ (fun L => c_restore_1 (by rw [e1]; rfl)) (fun L => m_restore_1 (fun z => ?_))
      have z1 := z.2.1
      have z2 := z.2.2
      rw [f2, q1, eqN (by omega) (by omega)] at z1
      rw [f3, q2, eqN (by omega) (by omega)] at z2
      omega
    · obtain ⟨h1, -, h3, h4, -, -, ⟨κ0, K1, K2, K3⟩, h8, h9⟩ := Inv_t H
      obtain ⟨τ, ⟨O1, O2⟩, t1, t2, t3⟩ := id c1
      obtain ⟨f, hf⟩ := id c2
      obtain ⟨n, g, b1, b2, b3, b4⟩ := id c3
      obtain ⟨κ, ⟨k0, k4, k5⟩, k1, k2, k3, k6, k7⟩ := id c4
      have nk := n4_ok k0
      intro L
      have cc := c_restore_2 (d := 37) (I := I) (L := L) (sw := sw) (by rw [e1]; rfl)
      have g63 : ∀ k, imG I 63 k = I 63 k := fun k => by rw [iG_r (by decide)]
      have mm := m_restore_2 (d := 37) (I := imG I) (L := L) (sw := sw) (by rw [g63, f1, neN1 (by omega)]; exact id) (by rw [g63, g63, f2, q1]) (by rw [g63, g63, f3, q2])
      rw [iG_3, t1] at cc
      rw [g63, t2] at mm
      refine ⟨_, sw, _, _, L, cc, mm, ?_⟩
      have e : ∀ c, ¬ (c = 3 ∨ c = 4 ∨ c = 5 ∨ c = 36 ∨ c = 14 ∨ c = 15 ∨ c = 16 ∨ c = 17 ∨ c = 18 ∨ c = 63 ∨ c = 70 ∨ c = 65 ∨ c = 73 ∨ c = 74) → reM (imG I) c = I c := fun c h => by rw [rM_r (by omega), rL_r (by omega), iG_r (by omega)]
      have i : ∀ c, ¬ (c = 63 ∨ c = 70 ∨ c = 65 ∨ c = 73 ∨ c = 74) → reM (imG I) c = imG I c := fun c h => by rw [rM_r (by omega), rL_r (by omega)]
      have e63 : ∀ k, k ≠ 12 → k ≠ 17 → k ≠ 21 → reM (imG I) 63 k = I 63 k := fun k z1 z2 z3 => by rw [rM_k z1 z2 z3, g63]
      refine ⟨by rw [e 8 (by decide), e 64 (by decide)]; exact h1, ⟨f, fun k hk => ?_⟩, by rw [e 1 (by decide), e 2 (by decide), e 66 (by decide), e63 3 (by decide) (by decide) (by decide)]; exact h3, cBir_c (fun b a1 a2 => e b (by have := rg_rng a1 a2; omega)) (e63 8 (by decide) (by decide) (by decide)) (e 68 (by decide)) (e 69 (by decide)) h4, ⟨τ, ⟨?_, fun k hk => ?_⟩, ⟨?_, fun k hk => ?_⟩, O1, O2⟩, ⟨n, g, b1, ?_, ?_, fun k hk => ?_⟩, ⟨κ, ⟨?_, ?_, fun k hk => ?_⟩, ⟨?_, ?_, fun k hk => ?_⟩, k0, k4, k5⟩, cNum_c (by rw [e 0 (by decide)]) (by rw [e 0 (by decide)]) (e63 9 (by decide) (by decide) (by decide)) (e63 15 (by decide) (by decide) (by decide)) h8, cImg_c (e63 9 (by decide) (by decide) (by decide)) (e63 20 (by decide) (by decide) (by decide)) (e63 26 (by decide) (by decide) (by decide)) (e63 27 (by decide) (by decide) (by decide)) (by rw [e 23 (by decide)]) ⟨by rw [e 24 (by decide)], e 25 (by decide), e 26 (by decide), e 28 (by decide), by rw [e 29 (by decide)], e 30 (by decide), by rw [e 31 (by decide)], by rw [e 31 (by decide)], e 32 (by decide), e 33 (by decide), e 77 (by decide), e 78 (by decide), e 79 (by decide), e 80 (by decide), e63 25 (by decide) (by decide) (by decide), e63 28 (by decide) (by decide) (by decide), e63 29 (by decide) (by decide) (by decide), by rw [i 16 (by decide), iG_164, k1, k2]⟩ h9⟩
      · rw [i 36 (by decide), iG_36 hk, rM_r (by decide), rL_65 hk, iG_r (by decide)]; exact hf k hk
      · rw [i 3 (by decide), iG_3]; exact t1
      · rw [i 4 (by decide), i 5 (by decide), iG_4 (by omega), iG_5 (by omega)]; exact ⟨(t3 k hk).1, (t3 k hk).2.1⟩
      · rw [rM_12, g63]; exact t2
      · rw [rM_r (by decide), rL_70 (by omega), rL_70 (by omega), iG_r (by decide)]; exact ⟨(t3 k hk).2.2.1, (t3 k hk).2.2.2⟩
      · rw [i 14 (by decide), iG_14]; exact b2
      · rw [rM_17, g63]; exact b3
      · rw [i 15 (by decide), iG_15 (by omega), rM_r (by decide), rL_73 (by omega), iG_r (by decide)]; exact b4 k hk
      · rw [i 16 (by decide), iG_164]; exact k2
      · rw [i 16 (by decide), iG_165]; exact k3
      · rw [i 17 (by decide), i 18 (by decide), iG_17 (by omega), iG_18 (by omega)]; exact ⟨(k7 k hk).1, (k7 k hk).2.1⟩
      · rw [e63 19 (by decide) (by decide) (by decide), K2.1, ← K1.1]; exact k1
      · rw [rM_21, g63]; exact k6
      · rw [rM_r (by decide), rL_74 (by omega), rL_74 (by omega), iG_r (by decide)]; exact ⟨(k7 k hk).2.2.1, (k7 k hk).2.2.2⟩
end OPB
