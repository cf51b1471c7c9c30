section OPS
variable {I J : sm_Im} {L : sm_Lm} {sw : Bool} {x y z u v : Int32} {a b m n q c k j p s t : Nat} {β τ κ : Nat → Nat → Nat} {r : Nat → Nat}
theorem ixr {i : Nat} (h : nI i ≤ x ∧ x ≤ nI n) (hi : i ≤ n) (hn : n < 2147483647) : ∃ j, i ≤ j ∧ j ≤ n ∧ x = nI j := by
  have h0 : nI 0 ≤ nI i := by rw [leN (by omega) (by omega)]; omega
  rcases ix x n hn with e | ⟨j, hj, rfl⟩
  · exact absurd ⟨Int32.le_trans h0 h.1, h.2⟩ e
  · have h1 := h.1
    rw [leN (by omega) (by omega)] at h1
    exact ⟨j, h1, hj, rfl⟩
theorem o_birth (H : Inv sw t I) : OpI sw t I 100 159 [.int x, .int y] := by
  obtain ⟨-, -, -, ⟨β, R, M, B⟩, -⟩ := id H
  have B5 := B.1
  rcases ixb x (β 0 0) (by omega) with ⟨k, hk, rfl⟩ | h
  · rcases ix y 6 (by decide) with q | ⟨j, hj, rfl⟩
    · exact OpI_s H _ (fun L => c_birth_2 R B hk q) (fun L => m_birth_2 M B hk q)
    · exact OpI_s H _ (fun L => c_birth_3 R B hk (by omega)) (fun L => m_birth_3 M B hk (by omega))
  · exact OpI_s H _ (fun L => c_birth_1 R B h) (fun L => m_birth_1 M B h)
theorem o_as (H : Inv sw t I) : OpI sw t I 101 160 [.int x, .int y] := by
  obtain ⟨-, -, -, ⟨β, R, M, B⟩, -⟩ := id H
  have B5 := B.1
  rcases ixb x (β 0 0) (by omega) with ⟨k, hk, rfl⟩ | h
  · by_cases q : nI 0 ≤ y ∧ y ≤ nI 3
    · exact OpI_s H _ (fun L => c_as_3 R B hk q) (fun L => m_as_3 M B hk q)
    · exact OpI_s H _ (fun L => c_as_2 R B hk q) (fun L => m_as_2 M B hk q)
  · exact OpI_s H _ (fun L => c_as_1 R B h) (fun L => m_as_1 M B h)
theorem o_about (H : Inv sw t I) : OpI sw t I 102 163 [.int x, .int y] := by
  obtain ⟨-, ⟨f, hf⟩, -, ⟨β, R, M, B⟩, ⟨τ, T, T2, O⟩, -⟩ := id H
  by_cases h : nI 0 ≤ x ∧ x ≤ nI 9
  · rcases ix y 2 (by decide) with q | ⟨j, hj, rfl⟩
    · exact OpI_s H _ (fun L => c_about_2 h q) (fun L => m_about_2 h q)
    · obtain ⟨p, -, hp, rfl⟩ := ixr h (by decide) (by decide)
      have e : I 36 p = I 65 p := by rw [(hf p (by omega)).1, (hf p (by omega)).2.1]
      exact OpI_s H _ (fun L => c_about_3 R T O (by omega) (by omega)) (fun L => by rw [e]; exact m_about_3 M T2 O (by omega) (by omega))
  · exact OpI_s H _ (fun L => c_about_1 h) (fun L => m_about_1 h)
theorem o_felt (H : Inv sw t I) : OpI sw t I 105 170 [.int x, .int u, .int v] := by
  obtain ⟨-, -, -, ⟨β, R, M, B⟩, ⟨τ, T, T2, O⟩, -⟩ := id H
  by_cases h : nI 0 ≤ x ∧ x ≤ nI 9
  · by_cases q : (nI 0 ≤ u ∧ u ≤ nI 1999) ∧ u ≤ v ∧ v ≤ nI 1999
    · obtain ⟨p, -, hp, rfl⟩ := ixr h (by decide) (by decide)
      exact OpI_s H _ (fun L => c_felt_3 R B T O (by omega) q) (fun L => m_felt_3 M B T2 O (by omega) q)
    · exact OpI_s H _ (fun L => c_felt_2 h q) (fun L => m_felt_2 h q)
  · exact OpI_s H _ (fun L => c_felt_1 h) (fun L => m_felt_1 h)
theorem o_surely (H : Inv sw t I) : OpL sw t I 106 173 [.int x, .int u, .int v, .int y] := by
  obtain ⟨-, -, -, ⟨β, R, M, B⟩, ⟨τ, T, T2, O⟩, -⟩ := id H
  by_cases h : nI 0 ≤ x ∧ x ≤ nI 9
  · by_cases q : ((nI 0 ≤ u ∧ u ≤ nI 1999) ∧ u ≤ v ∧ v ≤ nI 1999) ∧ nI 0 ≤ y ∧ y ≤ nI 1
    · obtain ⟨p, -, hp, rfl⟩ := ixr h (by decide) (by decide)
      obtain ⟨j, -, hj, rfl⟩ := ixr q.2 (by decide) (by decide)
      exact OpL_s H _ (fun L => c_surely_3 R B T O (by omega) q.1 hj) (fun L => m_surely_3 M B T2 O (by omega) q.1 hj)
    · exact OpL_s H _ (fun L => c_surely_2 h q) (fun L => m_surely_2 h q)
  · exact OpL_s H _ (fun L => c_surely_1 h) (fun L => m_surely_1 h)
theorem o_words (H : Inv sw t I) : OpI sw t I 111 190 [.int x, .int y, .int z] := by
  by_cases h : (nI 1 ≤ x ∧ x ≤ nI 8) ∧ (nI 1 ≤ y ∧ y ≤ nI 3) ∧ nI 0 ≤ z ∧ z ≤ nI 8
  · obtain ⟨m, h1, h2, rfl⟩ := ixr h.1 (by decide) (by decide)
    obtain ⟨p, h3, h4, rfl⟩ := ixr h.2.1 (by decide) (by decide)
    obtain ⟨q, -, h5, rfl⟩ := ixr h.2.2 (by decide) (by decide)
    exact OpI_s H _ (fun L => c_words_2 h1 h2 h3 h4 h5) (fun L => m_words_2 h1 h2 h3 h4 h5)
  · exact OpI_s H _ (fun L => c_words_1 h) (fun L => m_words_1 h)
theorem o_least (H : Inv sw t I) : OpI sw t I 112 191 [.int x, .int y, .int z] := by
  by_cases h : (nI 1 ≤ x ∧ x ≤ nI 99999) ∧ (nI 1 ≤ y ∧ y ≤ nI 3) ∧ nI 0 ≤ z ∧ z ≤ nI 8
  · obtain ⟨p, h3, h4, rfl⟩ := ixr h.2.1 (by decide) (by decide)
    obtain ⟨q, -, h5, rfl⟩ := ixr h.2.2 (by decide) (by decide)
    exact OpI_s H _ (fun L => c_least_2 h.1 h3 h4 h5) (fun L => m_least_2 h.1 h3 h4 h5)
  · exact OpI_s H _ (fun L => c_least_1 h) (fun L => m_least_1 h)
theorem o_read (H : Inv sw t I) : OpL sw t I 115 195 [.int x, .int y, .int z, .int u] := by
  obtain ⟨-, -, -, -, -, ⟨n, g, b1, b2, b3, b4⟩, -⟩ := id H
  rcases ixb x n (by omega) with ⟨k, hk, rfl⟩ | h
  · by_cases q : (nI 0 ≤ y ∧ y ≤ nI 255) ∧ (nI 0 ≤ z ∧ z ≤ nI 9) ∧ (nI 0 ≤ u ∧ u ≤ nI 1)
    · obtain ⟨c, -, hc, rfl⟩ := ixr q.1 (by decide) (by decide)
      obtain ⟨o, -, ho, rfl⟩ := ixr q.2.1 (by decide) (by decide)
      obtain ⟨p, -, hp, rfl⟩ := ixr q.2.2 (by decide) (by decide)
      exact OpL_s H _ (fun L => c_read_3 b2 b1 (fun k hk => ⟨(b4 k hk).1, (b4 k hk).2.2⟩) (by omega) ho hk hp) (fun L => m_read_3 b3 b1 (fun k hk => ⟨(b4 k hk).2.1, (b4 k hk).2.2⟩) (by omega) ho hk hp)
    · have hi : 0 ≤ nI k ∧ ¬ nI n ≤ nI k := by rw [inbt hk (by omega)]; trivial
      exact OpL_s H _ (fun L => c_read_2 b2 b1 hi q) (fun L => m_read_2 b3 b1 hi q)
  · exact OpL_s H _ (fun L => c_read_1 b2 b1 h) (fun L => m_read_1 b3 b1 h)
theorem o_round (H : Inv sw t I) : OpL sw t I 120 204 [.int x, .int y, .int z] := by
  by_cases h : (nI 2 ≤ x ∧ x ≤ nI 9) ∧ (nI 0 ≤ y ∧ y ≤ nI 9) ∧ nI 0 ≤ z ∧ z ≤ nI 1
  · obtain ⟨m, h1, h2, rfl⟩ := ixr h.1 (by decide) (by decide)
    obtain ⟨p, -, h4, rfl⟩ := ixr h.2.1 (by decide) (by decide)
    obtain ⟨q, -, h5, rfl⟩ := ixr h.2.2 (by decide) (by decide)
    exact OpL_s H _ (fun L => c_round_2 h1 h2 h4 h5) (fun L => m_round_2 h1 h2 h4 h5)
  · exact OpL_s H _ (fun L => c_round_1 h) (fun L => m_round_1 h)
theorem ct_same (H : Inv sw t I) (h2 : ∀ a b, a < 6 → b < 6 → r (6 * a + b) = r (6 * b + a)) (h3 : ∀ a, a < 6 → r (7 * a) = 0) : ctC sw I r = ctM I r := by
  obtain ⟨-, -, ⟨pn, pc, p1, p2, p3, -⟩, ⟨β, R, M, B⟩, ⟨τ, T, T2, O⟩, ⟨n, g, b1, b2, b3, b4⟩, ⟨κ, K1, K2, K3⟩, ⟨br, kn, n1, n2, n3, n4, n5, n6⟩, -⟩ := H
  funext j
  unfold ctC ctM
  rw [R.1, M.1, T.1, T2.1, b2, b3, K1.1, K2.1, K1.2.1, K2.2.1, p2, p3, n3, n4, n5, n6, rc_same h2 h3]
theorem o_count (H : Inv sw t I) : OpI sw t I 123 209 [.int y] := by
  obtain ⟨⟨r, h1, h2, h3⟩, -⟩ := id H
  rcases ix y 8 (by decide) with q | ⟨j, hj, rfl⟩
  · exact OpI_s H _ (fun L => c_count_1 q) (fun L => m_count_1 q)
  · exact OpI_s H _ (fun L => c_count_2 (fun k hk => ⟨(h1 k hk).1, (h1 k hk).2.2⟩) (by omega)) (fun L => by rw [ct_same H h2 h3]; exact m_count_2 (fun k hk => ⟨(h1 k hk).2.1, (h1 k hk).2.2⟩) (by omega))
/-- those that lay things anew -/
theorem FR_e (k1 : FR (rg (!sw)) I J) (hc : c ≤ 36 ∨ 63 ≤ c) : J c = I c := k1 c (by rcases rgs sw with e | e <;> rw [e.2] <;> omega)
theorem o_fault (H : Inv sw t I) : OpI sw t I 98 157 [] := by
  obtain ⟨-, -, ⟨n, f, p1, p2, p3, p4⟩, -⟩ := id H
  intro L
  obtain ⟨J1, k1, k2⟩ := c_fault (d := 34) (L := L) (sw := sw) (f := f) p2 p1 (fun k hk => ⟨(p4 k hk).1, (p4 k hk).2.2⟩)
  obtain ⟨J2, m1, m2⟩ := m_fault (d := 34) (L := L) (sw := sw) (f := f) (I := J1) (by rw [FR_e k1 (by decide)]; exact p3) p1 (fun k hk => by rw [FR_e k1 (by decide)]; exact ⟨(p4 k hk).2.1, (p4 k hk).2.2⟩)
  exact ⟨_, sw, J1, J2, L, k2, m2, Inv_t (Inv_SF (SF_tr (SF_FR k1) (SF_FM m1)) H)⟩
theorem RMB_c (h8 : J 63 = I 63) (h68 : J 68 = I 68) (h69 : J 69 = I 69) (M : RMB I β) : RMB J β := by
  unfold RMB at *
  rw [h8, h68, h69]; exact M
theorem RTM_c (h8 : J 63 = I 63) (h70 : J 70 = I 70) (M : RTM I τ) : RTM J τ := by
  unfold RTM at *
  rw [h8, h70]; exact M
theorem o_over (H : Inv sw t I) : OpI sw t I 107 176 [] := by
  obtain ⟨-, -, -, ⟨β, R, M, B⟩, ⟨τ, T, T2, O⟩, -⟩ := id H
  intro L
  obtain ⟨J1, k1, k2⟩ := c_over (d := 34) (L := L) (sw := sw) R B T O
  have m2 := m_over (d := 34) (L := L) (sw := sw) (I := J1) (RMB_c (k1 63 (by decide)) (k1 68 (by decide)) (k1 69 (by decide)) M) B (RTM_c (k1 63 (by decide)) (k1 70 (by decide)) T2) O
  rw [← over_same B O] at m2
  exact ⟨_, sw, J1, J1, L, k2, m2, Inv_t (Inv_SF (SF_of (fun c hc => k1 c (fun e => hc (by unfold scr; omega)))) H)⟩
theorem o_soonest (H : Inv sw t I) : OpI sw t I 108 182 [.int x, .int y] := by
  obtain ⟨⟨r, r1, r2, r3⟩, ⟨f, hf⟩, -, ⟨β, R, M, B⟩, -⟩ := id H
  by_cases h : (nI 0 ≤ x ∧ x ≤ nI 5) ∧ (nI 0 ≤ y ∧ y ≤ nI 5)
  · obtain ⟨a, -, ha, rfl⟩ := ixr h.1 (by decide) (by decide)
    obtain ⟨b, -, hb, rfl⟩ := ixr h.2 (by decide) (by decide)
    intro L
    obtain ⟨J1, W, k1, kW, k2⟩ := c_soonest_2 (d := 34) (L := L) (sw := sw) (a := a) (b := b) R B (fun p hp => ⟨(hf p hp).1, (hf p hp).2.2⟩) (fun k hk => ⟨(r1 k hk).1, (r1 k hk).2.2⟩) r3 (by omega) (by omega)
    obtain ⟨J2, V, m1, mV, m2⟩ := m_soonest_2 (d := 34) (L := L) (sw := sw) (I := J1) (a := a) (b := b) (RMB_c (k1 63 (by decide)) (k1 68 (by decide)) (k1 69 (by decide)) M) B (t := f) (fun p hp => by rw [k1 65 (by decide)]; exact ⟨(hf p hp).2.1, (hf p hp).2.2⟩) (r := r) (fun k hk => by rw [k1 64 (by decide)]; exact ⟨(r1 k hk).2.1, (r1 k hk).2.2⟩) (by omega) (by omega)
    rw [← soon_same B kW mV (fun k hk => (r1 k hk).2.2) (by omega) (by omega)] at m2
    exact ⟨_, sw, J1, J2, L, k2, m2, Inv_t (Inv_SF (SF_of (fun c hc => (m1 c (fun e => hc (by unfold scr; omega))).trans (k1 c (fun e => hc (by unfold scr; omega))))) H)⟩
  · exact OpI_s H _ (fun L => c_soonest_1 h) (fun L => m_soonest_1 h)
theorem o_unseen (H : Inv sw t I) : OpI sw t I 109 183 [.int x, .int y, .int z] := by
  obtain ⟨⟨r, r1, r2, r3⟩, ⟨f, hf⟩, -, ⟨β, R, M, B⟩, -⟩ := id H
  by_cases h : (nI 0 ≤ x ∧ x ≤ nI 5) ∧ (nI 0 ≤ y ∧ y ≤ nI 5)
  · by_cases hz : nI 0 ≤ z ∧ z ≤ nI 1023
    · obtain ⟨a, -, ha, rfl⟩ := ixr h.1 (by decide) (by decide)
      obtain ⟨b, -, hb, rfl⟩ := ixr h.2 (by decide) (by decide)
      intro L
      obtain ⟨J1, W, k1, kW, k2⟩ := c_unseen_3 (d := 34) (L := L) (sw := sw) (a := a) (b := b) R B (fun p hp => ⟨(hf p hp).1, (hf p hp).2.2⟩) (fun k hk => ⟨(r1 k hk).1, (r1 k hk).2.2⟩) r3 (by omega) (by omega) hz
      obtain ⟨J2, V, m1, mV, m2⟩ := m_unseen_3 (d := 34) (L := L) (sw := sw) (I := J1) (a := a) (b := b) (RMB_c (k1 63 (by decide)) (k1 68 (by decide)) (k1 69 (by decide)) M) B (t := f) (fun p hp => by rw [k1 65 (by decide)]; exact ⟨(hf p hp).2.1, (hf p hp).2.2⟩) (r := r) (fun k hk => by rw [k1 64 (by decide)]; exact ⟨(r1 k hk).2.1, (r1 k hk).2.2⟩) (by omega) (by omega) hz
      rw [← soon_same B kW mV (fun k hk => (r1 k hk).2.2) (by omega) (by omega)] at m2
      exact ⟨_, sw, J1, J2, L, k2, m2, Inv_t (Inv_SF (SF_of (fun c hc => (m1 c (fun e => hc (by unfold scr; omega))).trans (k1 c (fun e => hc (by unfold scr; omega))))) H)⟩
    · exact OpI_s H _ (fun L => c_unseen_2 h.1 h.2 hz) (fun L => m_unseen_2 h.1 h.2 hz)
  · exact OpI_s H _ (fun L => c_unseen_1 h) (fun L => m_unseen_1 h)
theorem o_missed (H : Inv sw t I) : OpI sw t I 113 192 [.int x, .int y, .int z] := by
  by_cases h : (nI 1 ≤ x ∧ x ≤ nI 4) ∧ (nI 0 ≤ y ∧ y ≤ nI 4) ∧ nI 0 ≤ z ∧ z ≤ nI 1
  · obtain ⟨m, h1, h2, rfl⟩ := ixr h.1 (by decide) (by decide)
    obtain ⟨q, -, h4, rfl⟩ := ixr h.2.1 (by decide) (by decide)
    obtain ⟨p, -, h5, rfl⟩ := ixr h.2.2 (by decide) (by decide)
    intro L
    obtain ⟨J1, k1, k2⟩ := c_missed_2 (d := 20) (I := I) (L := L) (sw := sw) h1 h2 h4 h5
    obtain ⟨J2, m1, m2⟩ := m_missed_2 (d := 20) (I := J1) (L := L) (sw := sw) h1 h2 h4 h5
    exact ⟨_, sw, J1, J2, L, k2, m2, Inv_t (Inv_SF (SF_of (fun c hc => (m1 c (fun e => hc (by unfold scr; omega))).trans (k1 c (fun e => hc (by unfold scr; omega)) (fun e => hc (by unfold scr; omega))))) H)⟩
  · exact OpI_s H _ (fun L => c_missed_1 (d := 20) h) (fun L => m_missed_1 (d := 20) h)
theorem RCM_c2 (h8 : J 63 = I 63) (h70 : J 74 = I 74) (M : RCM I κ) : RCM J κ := by
  unfold RCM at *
  rw [h8, h70]; exact M
theorem o_pairings (H : Inv sw t I) : OpI sw t I 118 201 [] := by
  obtain ⟨-, -, -, -, -, -, ⟨κ, K1, K2, K3⟩, -⟩ := id H
  intro L
  obtain ⟨J1, k1, k2⟩ := c_pairings (d := 31) (L := L) (sw := sw) K1 K3
  obtain ⟨J2, m1, m2⟩ := m_pairings (d := 37) (L := L) (sw := sw) (I := J1) (RCM_c2 (k1 63 (by decide) (by decide)) (k1 74 (by decide) (by decide)) K2) K3
  exact ⟨_, sw, J1, J2, L, k2, m2, Inv_t (Inv_SF (SF_of (fun c hc => (m1 c (fun e => hc (by unfold scr; omega)) (fun e => hc (by unfold scr; omega))).trans (k1 c (fun e => hc (by unfold scr; omega)) (fun e => hc (by unfold scr; omega))))) H)⟩
theorem o_twin (H : Inv sw t I) : OpI sw t I 119 203 [.int x] := by
  obtain ⟨-, -, -, -, -, -, ⟨κ, K1, K2, K3⟩, -⟩ := id H
  have nk := n4_ok K3.1
  rcases ixb x (κ 0 0) (by omega) with ⟨a, ha, rfl⟩ | h
  · intro L
    obtain ⟨J1, k1, k2⟩ := c_twin_2 (d := 31) (L := L) (sw := sw) K1 K3 ha
    obtain ⟨J2, m1, m2⟩ := m_twin_2 (d := 37) (L := L) (sw := sw) (I := J1) (RCM_c2 (k1 63 (by decide) (by decide)) (k1 74 (by decide) (by decide)) K2) K3 ha
    exact ⟨_, sw, J1, J2, L, k2, m2, Inv_t (Inv_SF (SF_of (fun c hc => (m1 c (fun e => hc (by unfold scr; omega)) (fun e => hc (by unfold scr; omega))).trans (k1 c (fun e => hc (by unfold scr; omega)) (fun e => hc (by unfold scr; omega))))) H)⟩
  · exact OpI_s H _ (fun L => c_twin_1 (d := 31) K1.1 nk.1 h) (fun L => m_twin_1 (d := 37) K2.1 nk.1 h)
theorem dgs_cong {f1 f2 f3 f4 f5 g1 g2 g3 g4 g5 : Nat → Int32} {o1 o2 : Int32} (h1 : ∀ p, p < 10 → f1 p = g1 p) (h2 : ∀ k, k < 36 → f2 k = g2 k) (h3 : ∀ k, k < n → f3 k = g3 k) (h4 : ∀ k, k < m → f4 k = g4 k) (h5 : f5 = g5) (ho : o1 = o2) : dgs β τ κ f1 f2 f3 f4 f5 o1 n m = dgs β τ κ g1 g2 g3 g4 g5 o2 n m := by
  unfold dgs
  rw [h5, ho, hf_cong 36 h2, hf_cong n h3, hf_cong m h4, hf_cong (f := fP β τ f1) (g := fP β τ g1) 40 (fun k hk => by unfold fP; rw [h1 (k / 4) (by omega)])]
theorem o_digest (H : Inv sw t I) : OpL sw t I 124 212 [] := by
  obtain ⟨⟨r, r1, r2, r3⟩, ⟨f, hf⟩, ⟨pn, pf, p1, p2, p3, p4⟩, ⟨β, R, M, B⟩, ⟨τ, T, T2, O⟩, ⟨n, g, b1, b2, b3, b4⟩, ⟨κ, K1, K2, K3⟩, -⟩ := id H
  intro L
  obtain ⟨J1, W, k1, kW, k2⟩ := c_digest (d := 30) (L := L) (sw := sw) R B T O (fun p hp => ⟨(hf p hp).1, (hf p hp).2.2⟩) (fun k hk => ⟨(r1 k hk).1, (r1 k hk).2.2⟩) r3 b2 b1 p2 p1 K1 K3
  have e : ∀ c, 63 ≤ c → J1 c = I c := fun c hc => k1 c (by omega) (by omega) (by omega) (by omega)
  obtain ⟨J2, V, L2, m1, mV, m2⟩ := m_digest (d := 30) (L := L) (sw := sw) (I := J1) (RMB_c (e 63 (by decide)) (e 68 (by decide)) (e 69 (by decide)) M) B (RTM_c (e 63 (by decide)) (e 70 (by decide)) T2) O (t := f) (fun p hp => by rw [e 65 (by decide)]; exact ⟨(hf p hp).2.1, (hf p hp).2.2⟩) (r := r) (fun k hk => by rw [e 64 (by decide)]; exact ⟨(r1 k hk).2.1, (r1 k hk).2.2⟩) (n := n) (by rw [e 63 (by decide)]; exact b3) b1 (m := pn) (by rw [e 63 (by decide)]; exact p3) p1 (RCM_c2 (e 63 (by decide)) (e 74 (by decide)) K2) K3
  have S1 : SF sw I J1 := SF_of (fun c hc => k1 c (fun e => hc (by unfold scr; omega)) (fun e => hc (by unfold scr; omega)) (fun e => hc (by unfold scr; omega)) (fun e => hc (by unfold scr; omega)))
  have hct : ctM J1 r = ctM I r := by funext j; unfold ctM; rw [e 63 (by decide)]
  rw [← dgs_cong (β := β) (τ := τ) (κ := κ) (n := n) (m := pn) (f1 := I 36) (g1 := J1 65) (f2 := fN (fw W 6)) (g2 := fM (fw V 6)) (f3 := I 15) (g3 := J1 73) (f4 := I 2) (g4 := J1 66) (f5 := ctC sw I r) (g5 := ctM J1 r) (o1 := oI (firstF (fun k => anyN (ovA β τ k) 10) (τ 0 0) 0)) (fun p hp => by rw [e 65 (by decide), (hf p hp).1, (hf p hp).2.1]) (fun k hk => soon_same B kW mV (fun k hk => (r1 k hk).2.2) (by omega) (by omega)) (fun k hk => by rw [e 73 (by decide), (b4 k hk).1, (b4 k hk).2.1]) (fun k hk => by rw [e 66 (by decide), (p4 k hk).1, (p4 k hk).2.1]) (by rw [hct]; exact ct_same H r2 r3) (by rw [over_same B O])] at m2
  exact ⟨_, sw, J1, J2, L2, k2, m2, Inv_t (Inv_SF (SF_tr S1 (SF_of (fun c hc => m1 c (fun e => hc (by unfold scr; omega)) (fun e => hc (by unfold scr; omega)) (fun e => hc (by unfold scr; omega))))) H)⟩
end OPS
