section INV
variable {I J : sm_Im} {L : sm_Lm} {sw : Bool} {x y z u v : Int32} {a b m n q c k j p s t : Nat} {β τ κ : Nat → Nat → Nat}
def cBir (sw : Bool) (I : sm_Im) : Prop := ∃ β : Nat → Nat → Nat, RB (rg sw) I β ∧ RMB I β ∧ BOk β
def cTou (I : sm_Im) : Prop := ∃ τ : Nat → Nat → Nat, RTC I τ ∧ RTM I τ ∧ TOk τ
def BK (n : Nat) (g : Nat → Nat) (u v : Int32) (f h : Nat → Int32) : Prop := n ≤ 4 ∧ u = nI n ∧ v = nI n ∧ ∀ k, k < n → f k = nI (g k) ∧ h k = nI (g k) ∧ g k < 256
def cBook (I : sm_Im) : Prop := ∃ (n : Nat) (g : Nat → Nat), BK n g (I 14 1) (I 63 17) (I 15) (I 73)
def cCrw (I : sm_Im) : Prop := ∃ κ : Nat → Nat → Nat, RCC I κ ∧ RCM I κ ∧ COk κ
def cNum (t : Nat) (I : sm_Im) : Prop := ∃ br kn : Nat, br ≤ t ∧ kn ≤ 20 ∧ I 0 10 = nI br ∧ I 63 9 = nI br ∧ I 0 11 = nI kn ∧ I 63 15 = nI kn
/-- the image's own things: touches, towns, book, crowd -/
def iTou (I : sm_Im) : Prop := ∃ τ : Nat → Nat → Nat, TOk τ ∧ I 24 3 = nI (τ 0 0) ∧ I 63 25 = nI (τ 0 0) ∧ ∀ k, k < τ 0 0 → I 25 k = nI (τ 1 k) ∧ I 26 k = nI (τ 2 k) ∧ I 77 (2 * k) = nI (τ 1 k) ∧ I 77 (2 * k + 1) = nI (τ 2 k)
def iBook (I : sm_Im) : Prop := ∃ (n : Nat) (g : Nat → Nat), BK n g (I 29 1) (I 63 28) (I 30) (I 79)
def iCrw (I : sm_Im) : Prop := ∃ κ : Nat → Nat → Nat, COk κ ∧ I 16 4 = nI (κ 0 0) ∧ I 31 4 = nI (κ 0 0) ∧ I 31 5 = nI (κ 0 1) ∧ I 63 29 = nI (κ 0 1) ∧ ∀ k, k < κ 0 1 → I 32 k = nI (κ 1 k) ∧ I 33 k = nI (κ 2 k) ∧ I 80 (2 * k) = nI (κ 1 k) ∧ I 80 (2 * k + 1) = nI (κ 2 k)
def imC (I : sm_Im) : Prop := iTou I ∧ RTown (I 28) (I 78) ∧ iBook I ∧ iCrw I
def cImg (t : Nat) (I : sm_Im) : Prop := ∃ br cr : Nat, I 63 9 = nI br ∧ I 63 20 = nI cr ∧ br ≤ t ∧ cr ≤ t ∧ ((I 63 25 = -1 ∧ I 23 4 = nI 0) ∨ ∃ kb kc kt : Nat, I 63 25 = nI kt ∧ kt ≤ 12 ∧ I 63 26 = nI kb ∧ I 63 27 = nI kc ∧ kb ≤ br ∧ kc ≤ cr ∧ ((I 23 4 = nI 0 ∧ (kb < br ∨ kc < cr)) ∨ (I 23 4 = nI 1 ∧ kb = br ∧ kc = cr ∧ imC I)))
/-- what holds between two calls, t calls behind the start -/
def Inv (sw : Bool) (t : Nat) (I : sm_Im) : Prop := RRoad (I 8) (I 64) ∧ RTown (I 36) (I 65) ∧ RPage (I 1 1) (I 63 3) (I 2) (I 66) ∧ cBir sw I ∧ cTou I ∧ cBook I ∧ cCrw I ∧ cNum t I ∧ cImg t I
theorem cBir_c (h : ∀ b, rg sw ≤ b → b < rg sw + 13 → J b = I b) (h8 : J 63 8 = I 63 8) (h68 : J 68 = I 68) (h69 : J 69 = I 69) (H : cBir sw I) : cBir sw J := by
  obtain ⟨β, ⟨R1, R2, R3⟩, ⟨M1, M2, M3⟩, B⟩ := H
  have B5 := B.1
  refine ⟨β, ⟨by rw [h _ (by omega) (by omega)]; exact R1, fun k hk => ?_, fun p hp => by rw [h _ (by omega) (by omega)]; exact R3 p hp⟩, ⟨by rw [h8]; exact M1, by rw [h68]; exact M2, by rw [h69]; exact M3⟩, B⟩
  rw [h _ (by omega) (by omega), h (rg sw + 3 + 2 * k + 1) (by omega) (by omega)]
  exact R2 k hk
theorem cTou_c (h1 : J 3 3 = I 3 3) (h2 : J 4 = I 4) (h3 : J 5 = I 5) (h4 : J 63 12 = I 63 12) (h5 : J 70 = I 70) (H : cTou I) : cTou J := by
  unfold cTou RTC RTM at *
  rw [h1, h2, h3, h4, h5]; exact H
theorem cBook_c (h1 : J 14 1 = I 14 1) (h2 : J 15 = I 15) (h3 : J 63 17 = I 63 17) (h4 : J 73 = I 73) (H : cBook I) : cBook J := by
  unfold cBook at *
  rw [h1, h2, h3, h4]; exact H
theorem cCrw_c (h1 : J 16 4 = I 16 4) (h2 : J 16 5 = I 16 5) (h3 : J 17 = I 17) (h4 : J 18 = I 18) (h5 : J 63 19 = I 63 19) (h6 : J 63 21 = I 63 21) (h7 : J 74 = I 74) (H : cCrw I) : cCrw J := by
  unfold cCrw RCC RCM at *
  rw [h1, h2, h3, h4, h5, h6, h7]; exact H
theorem cNum_c (h1 : J 0 10 = I 0 10) (h2 : J 0 11 = I 0 11) (h3 : J 63 9 = I 63 9) (h4 : J 63 15 = I 63 15) (H : cNum t I) : cNum t J := by
  unfold cNum at *
  rw [h1, h2, h3, h4]; exact H
def imS (I J : sm_Im) : Prop := J 24 3 = I 24 3 ∧ J 25 = I 25 ∧ J 26 = I 26 ∧ J 28 = I 28 ∧ J 29 1 = I 29 1 ∧ J 30 = I 30 ∧ J 31 4 = I 31 4 ∧ J 31 5 = I 31 5 ∧ J 32 = I 32 ∧ J 33 = I 33 ∧ J 77 = I 77 ∧ J 78 = I 78 ∧ J 79 = I 79 ∧ J 80 = I 80 ∧ J 63 25 = I 63 25 ∧ J 63 28 = I 63 28 ∧ J 63 29 = I 63 29 ∧ J 16 4 = I 16 4
theorem imC_c (h : imS I J) (H : imC I) : imC J := by
  obtain ⟨h1, h2, h3, h4, h5, h6, h7, h8, h9, h10, h11, h12, h13, h14, h15, h16, h17, h18⟩ := h
  unfold imC iTou iBook iCrw at *
  rw [h1, h2, h3, h4, h5, h6, h7, h8, h9, h10, h11, h12, h13, h14, h15, h16, h17, h18]; exact H
theorem cImg_c (h1 : J 63 9 = I 63 9) (h2 : J 63 20 = I 63 20) (h4 : J 63 26 = I 63 26) (h5 : J 63 27 = I 63 27) (h6 : J 23 4 = I 23 4) (h : imS I J) (H : cImg t I) : cImg t J := by
  have h3 := h.2.2.2.2.2.2.2.2.2.2.2.2.2.2.1
  obtain ⟨br, cr, k1, k2, k3, k4, k5⟩ := H
  refine ⟨br, cr, by rw [h1]; exact k1, by rw [h2]; exact k2, k3, k4, ?_⟩
  rw [h3, h4, h5, h6]
  rcases k5 with k5 | ⟨kb, kc, kt, e1, e0, e2, e3, e4, e5, e6⟩
  · exact Or.inl k5
  · refine Or.inr ⟨kb, kc, kt, e1, e0, e2, e3, e4, e5, ?_⟩
    rcases e6 with e6 | ⟨f1, f2, f3, f4⟩
    · exact Or.inl e6
    · exact Or.inr ⟨f1, f2, f3, imC_c h f4⟩
theorem cNum_t (H : cNum t I) : cNum (t + 1) I := by
  obtain ⟨br, kn, h1, h2⟩ := H
  exact ⟨br, kn, by omega, h2⟩
theorem cImg_t (H : cImg t I) : cImg (t + 1) I := by
  obtain ⟨br, cr, k1, k2, k3, k4, k5⟩ := H
  exact ⟨br, cr, k1, k2, by omega, by omega, k5⟩
theorem Inv_t (H : Inv sw t I) : Inv sw (t + 1) I := by
  obtain ⟨h1, h2, h3, h4, h5, h6, h7, h8, h9⟩ := H
  exact ⟨h1, h2, h3, h4, h5, h6, h7, cNum_t h8, cImg_t h9⟩
/-- nothing is changed but what is laid anew at each use -/
def scr (sw : Bool) (c : Nat) : Prop := c = 6 ∨ c = 10 ∨ c = 12 ∨ c = 13 ∨ c = 19 ∨ c = 20 ∨ c = 21 ∨ c = 22 ∨ c = 67 ∨ c = 71 ∨ c = 72 ∨ c = 75 ∨ c = 76 ∨ (rg (!sw) ≤ c ∧ c < rg (!sw) + 13)
def SF (sw : Bool) (I J : sm_Im) : Prop := (∀ c, c ≠ 63 → ¬ scr sw c → J c = I c) ∧ ∀ k, k ≠ 4 → k ≠ 5 → k ≠ 6 → J 63 k = I 63 k
theorem rgs (sw : Bool) : (rg sw = 37 ∧ rg (!sw) = 50) ∨ (rg sw = 50 ∧ rg (!sw) = 37) := by cases sw; exact Or.inl ⟨rfl, rfl⟩; exact Or.inr ⟨rfl, rfl⟩
theorem SF_tr {K : sm_Im} (h : SF sw I J) (h2 : SF sw J K) : SF sw I K := ⟨fun c a b => (h2.1 c a b).trans (h.1 c a b), fun k a b c => (h2.2 k a b c).trans (h.2 k a b c)⟩
theorem SF_of (h : ∀ c, ¬ scr sw c → J c = I c) : SF sw I J := ⟨fun c _ b => h c b, fun k _ _ _ => by rw [h 63 (by unfold scr; rcases rgs sw with e | e <;> rw [e.2] <;> decide)]⟩
theorem SF_FR (h : FR (rg (!sw)) I J) : SF sw I J := SF_of fun c hc => h c (fun q => hc (by unfold scr; exact Or.inr (Or.inr (Or.inr (Or.inr (Or.inr (Or.inr (Or.inr (Or.inr (Or.inr (Or.inr (Or.inr (Or.inr (Or.inr q))))))))))))))
theorem SF_FM (h : FM I J) : SF sw I J := ⟨fun c a b => h.1 c a (fun q => b (by unfold scr; omega)), h.2⟩
theorem nsc (hc : c ≤ 36 ∨ 63 ≤ c) (h : ¬ (c = 6 ∨ c = 10 ∨ c = 12 ∨ c = 13 ∨ c = 19 ∨ c = 20 ∨ c = 21 ∨ c = 22 ∨ c = 67 ∨ c = 71 ∨ c = 72 ∨ c = 75 ∨ c = 76)) : ¬ scr sw c := by
  unfold scr
  rcases rgs sw with e | e <;> rw [e.2] <;> omega
theorem Inv_SF (h : SF sw I J) (H : Inv sw t I) : Inv sw t J := by
  obtain ⟨f, g⟩ := h
  have e : ∀ c, (c ≤ 36 ∨ 63 < c) → ¬ (c = 6 ∨ c = 10 ∨ c = 12 ∨ c = 13 ∨ c = 19 ∨ c = 20 ∨ c = 21 ∨ c = 22 ∨ c = 67 ∨ c = 71 ∨ c = 72 ∨ c = 75 ∨ c = 76) → J c = I c := fun c a b => f c (by omega) (nsc (by omega) b)
  obtain ⟨h1, h2, h3, h4, h5, h6, h7, h8, h9⟩ := H
  refine ⟨by rw [e 8 (by decide) (by decide), e 64 (by decide) (by decide)]; exact h1, by rw [e 36 (by decide) (by decide), e 65 (by decide) (by decide)]; exact h2, by rw [e 1 (by decide) (by decide), e 2 (by decide) (by decide), e 66 (by decide) (by decide), g 3 (by decide) (by decide) (by decide)]; exact h3, ?_, ?_, ?_, ?_, ?_, ?_⟩
  · refine cBir_c (fun b a1 a2 => f b ?_ ?_) (g 8 (by decide) (by decide) (by decide)) (e 68 (by decide) (by decide)) (e 69 (by decide) (by decide)) h4
    · rcases rgs sw with q | q <;> rw [q.1] at a1 a2 <;> omega
    · unfold scr; rcases rgs sw with q | q <;> rw [q.1] at a1 a2 <;> rw [q.2] <;> omega
  · exact cTou_c (by rw [e 3 (by decide) (by decide)]) (e 4 (by decide) (by decide)) (e 5 (by decide) (by decide)) (g 12 (by decide) (by decide) (by decide)) (e 70 (by decide) (by decide)) h5
  · exact cBook_c (by rw [e 14 (by decide) (by decide)]) (e 15 (by decide) (by decide)) (g 17 (by decide) (by decide) (by decide)) (e 73 (by decide) (by decide)) h6
  · exact cCrw_c (by rw [e 16 (by decide) (by decide)]) (by rw [e 16 (by decide) (by decide)]) (e 17 (by decide) (by decide)) (e 18 (by decide) (by decide)) (g 19 (by decide) (by decide) (by decide)) (g 21 (by decide) (by decide) (by decide)) (e 74 (by decide) (by decide)) h7
  · exact cNum_c (by rw [e 0 (by decide) (by decide)]) (by rw [e 0 (by decide) (by decide)]) (g 9 (by decide) (by decide) (by decide)) (g 15 (by decide) (by decide) (by decide)) h8
  · exact cImg_c (g 9 (by decide) (by decide) (by decide)) (g 20 (by decide) (by decide) (by decide)) (g 26 (by decide) (by decide) (by decide)) (g 27 (by decide) (by decide) (by decide)) (by rw [e 23 (by decide) (by decide)]) ⟨by rw [e 24 (by decide) (by decide)], e 25 (by decide) (by decide), e 26 (by decide) (by decide), e 28 (by decide) (by decide), by rw [e 29 (by decide) (by decide)], e 30 (by decide) (by decide), by rw [e 31 (by decide) (by decide)], by rw [e 31 (by decide) (by decide)], e 32 (by decide) (by decide), e 33 (by decide) (by decide), e 77 (by decide) (by decide), e 78 (by decide) (by decide), e 79 (by decide) (by decide), e 80 (by decide) (by decide), g 25 (by decide) (by decide) (by decide), g 28 (by decide) (by decide) (by decide), g 29 (by decide) (by decide) (by decide), by rw [e 16 (by decide) (by decide)]⟩ h9
/-- one call of both -/
def OpI (sw : Bool) (t : Nat) (I : sm_Im) (ci mi : Nat) (as : List Value) : Prop := ∀ L : sm_Lm, ∃ (w : Int32) (s2 : Bool) (I1 I2 : sm_Im) (L2 : sm_Lm), sm_ex 40 ci (.ref 0 :: as) 81 I L (pX sw) = some (some (.int w), 81, I1, L, pX s2) ∧ sm_ex 40 mi (.ref 63 :: as) 81 I1 L (pX s2) = some (some (.int w), 81, I2, L2, pX s2) ∧ Inv s2 (t + 1) I2
def OpL (sw : Bool) (t : Nat) (I : sm_Im) (ci mi : Nat) (as : List Value) : Prop := ∀ L : sm_Lm, ∃ (w : Int64) (s2 : Bool) (I1 I2 : sm_Im) (L2 : sm_Lm), sm_ex 40 ci (.ref 0 :: as) 81 I L (pX sw) = some (some (.long w), 81, I1, L, pX s2) ∧ sm_ex 40 mi (.ref 63 :: as) 81 I1 L (pX s2) = some (some (.long w), 81, I2, L2, pX s2) ∧ Inv s2 (t + 1) I2
theorem OpI_s {ci mi : Nat} {as : List Value} (H : Inv sw t I) (w : Int32) (hc : ∀ L, sm_ex 40 ci (.ref 0 :: as) 81 I L (pX sw) = some (some (.int w), 81, I, L, pX sw)) (hm : ∀ L, sm_ex 40 mi (.ref 63 :: as) 81 I L (pX sw) = some (some (.int w), 81, I, L, pX sw)) : OpI sw t I ci mi as := fun L => ⟨w, sw, I, I, L, hc L, hm L, Inv_t H⟩
theorem OpL_s {ci mi : Nat} {as : List Value} (H : Inv sw t I) (w : Int64) (hc : ∀ L, sm_ex 40 ci (.ref 0 :: as) 81 I L (pX sw) = some (some (.long w), 81, I, L, pX sw)) (hm : ∀ L, sm_ex 40 mi (.ref 63 :: as) 81 I L (pX sw) = some (some (.long w), 81, I, L, pX sw)) : OpL sw t I ci mi as := fun L => ⟨w, sw, I, I, L, hc L, hm L, Inv_t H⟩
end INV
