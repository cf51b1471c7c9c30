/-! THE CLAIM OUT OF ONE WALK OF THE LAW'S BODY. Your part is whole_start (and what it stands on); all else here is the same for every law, but numbers. -/
def R_law : String := "FeltByTwinLaw"
def lw_P (b : Addr) (xs : List Int32) (args : Array Value) (s : State) : Prop := args = #[.ref b] ∧ s.IntsAt b xs ∧ xs.length ≤ 320 ∧ (Jvm.Cond.and given_1 narrow_1).before args s = true
def lw_Q (_ : Array Value) (s : State) (o : Outcome) (t : State) : Prop := o = .returned (some (.int 1)) ∧ Framed s o t [] 600000 7302250
def lw_Z (below : List Frame) (a : Array Value) (s : State) : State → Prop := fun t => ∃ o, t.status = .running ∧ Ended t below o ∧ lw_Q a s o t
/-- the law's own end, with 1 on the stack, nothing written that was there before, its room as the claim has it -/
theorem lw_ret {p : Program} {l : Launch} {e : Env} {s : State} {m : MethodId} {below : List Frame} {meth : Method} {c : Code} {b : Nat} (hx : p.tables.exec = Jvm.exec) (hb : c.code = code) (hr : meth.sig.returnType = ret) (hlocks : meth.locks = false) {pc : Nat} {H : Heap} {ls : Array Slot} (hdg : decode code pc = .ok (.ireturn, 1)) : W p l e room_1 s m #[Value.ref b] below meth c H [] 600000 7302250 (lw_Z below #[Value.ref b] s) (F0 m pc ls [.int 1]) := by
  intro T hT X
  obtain ⟨fs, hret, hrun, hended, hW, hframe⟩ := X.leave (v := some (.int 1)) (hlocks := hlocks) (fun h => by rw [hr] at h; cases h)
  have hmeth' : T.vm.method? m = some meth := X.method'
  refine ⟨T.setFrames fs, ?_, .returned (some (.int 1)), hrun, hended, rfl, ⟨_, rfl⟩, hW, hframe⟩
  jvm_step X.here [X.here.top, hx, hb, hdg, hmeth', hr, ret, narrow_b1]
  (try refine ⟨rfl, ?_⟩); (try refine ⟨rfl, ?_⟩)
  first | (intro acts; rw [hret _ acts rfl rfl rfl]) | rw [hret _ _ rfl rfl rfl]
  exact Steps.refl _
/-- what holds at the law's entry: the machine, the code, the tables' words (any of lw_tbl by 'hts w (by decide +kernel)'), the script of L ints xs at the cell b, what the Statement gives of the start (any of its parts by flat_of_before) -/
def lw_At (p : Program) (s : State) (m : MethodId) (meth : Method) (c : Code) (b L : Nat) (xs : Nat → Int32) : Prop :=
  p.tables.exec = Jvm.exec ∧ c.code = code ∧ meth.sig.returnType = ret ∧ c.maxLocals = 4 ∧ s.vm.findClass R_law = some m.cls ∧ (∀ w ∈ lw_tbl, w.before #[Value.ref b] s = true) ∧ va_X b L xs s s.heap ∧ b < s.heap.size ∧ meth.locks = false ∧ (Jvm.Cond.and given_1 narrow_1).before #[Value.ref b] s = true
set_option maxHeartbeats 4000000 in
theorem law_go {p : Program} {l : Launch} {e : Env} {s : State} {m : MethodId} {below : List Frame} {meth : Method} {c : Code} {D : va_G} {cyI cyB : ClassId} {tL tG b : Nat} {X : sm_Xs} {d : Nat} (hx : p.tables.exec = Jvm.exec) (hb : c.code = code) (hr : meth.sig.returnType = ret) (hml : c.maxLocals = 4) (hlocks : meth.locks = false) (hown : s.vm.findClass R_law = some m.cls) (hts : ∀ w ∈ sm_W, w.before #[Value.ref b] s = true) (hE : sm_En s.heap.size tL tG s) (hX : ∀ q, X = some q → va_X b q.1 q.2 s s.heap ∧ b < s.heap.size) (hd1 : d ≤ 1000) (r : sm_Rs) (hr1 : r.1 = some (.int 1)) (hrN : r.2.1 ≤ 1000) (hsl : sm_sl r.2.1 ≤ 7302250) :
    ∀ (n : Nat) (t : sm_St), sm_run (sm_ex d) X 216 n t = some r → sm_Go p l e room_1 s m #[Value.ref b] below meth c (lw_Z below #[Value.ref b] s) D cyI cyB s.heap.size (sm_rho s.heap.size tL tG b) (sm_ml 216) 0 t := by
  intro n
  induction n with
  | zero => intro t h; cases h
  | succ n ih =>
    intro t h
    unfold sm_run at h
    cases hS1 : sm_S (sm_ex d) X 216 t with
    | none => rw [hS1] at h; cases h
    | some q =>
      rw [hS1] at h
      cases q with
      | inr t1 =>
        exact sm_step (R := room_1) (i := 216) (d := d) (Nf := r.2.1) hx hb hml hown hts hE hX (fun q => by cases q) rfl ⟨by show d + 1 ≤ 2048; omega, by show 64 * (d + 1) ≤ 84000; omega⟩ ⟨by show r.2.1 - 0 ≤ 600000; omega, by show sm_sl r.2.1 - 0 ≤ 7302250; omega⟩ (sm_met l D cyI cyB s.heap.size tL tG b d) hS1 (sm_run_N (sm_ex_N d) n t1 r h).1 (ih t1 h)
      | inl r1 =>
        obtain rfl := Option.some.inj h
        obtain ⟨pc, ls, st, N, I, L, P⟩ := t
        obtain ⟨o, M⟩ := r1
        obtain ⟨e1, e2⟩ := sm_ret_S hS1
        dsimp only at e1 hr1
        subst e1
        subst hr1
        intro H locs lsr hk hl hn
        obtain ⟨hK, hP, hS, hN⟩ := hk
        dsimp only at hK hP hS hN e2 hrN hsl ⊢
        rcases e2 with ⟨v, hd, rfl, hv, hrt⟩ | ⟨v, hd, rfl, hv, hrt⟩ | ⟨v, hd, rfl, hv, hrt⟩ | ⟨hd, rfl, hv, hrt⟩
        · cases hv
          refine va_forget (fun q hq => hS.2.2 q hq) ?_
          refine W.widen (k := 600000) (n := 7302250) (by omega) (by show sm_sl N - 0 ≤ _; omega) ?_
          exact lw_ret hx hb hr hlocks hd
        · cases hv
        · cases v <;> cases hv
        · cases hv
set_option maxRecDepth 100000 in
theorem law_flat0 : ∀ j, j < 15 → Cond.eq (.elem (.static "FeltByTwin$News" "LESSER" "[I") (.int (Int32.ofNat j))) (.int (sm_tab 0 j)) ∈ flatC (Jvm.Cond.and given_1 narrow_1) := by decide +kernel
set_option maxRecDepth 100000 in
theorem law_flat1 : ∀ j, j < 15 → Cond.eq (.elem (.static "FeltByTwin$News" "GREATER" "[I") (.int (Int32.ofNat j))) (.int (sm_tab 1 j)) ∈ flatC (Jvm.Cond.and given_1 narrow_1) := by decide +kernel
set_option maxRecDepth 100000 in
theorem law_flat2 : Cond.arrayOf (.static "FeltByTwin$News" "LESSER" "[I") .int ∈ flatC (Jvm.Cond.and given_1 narrow_1) ∧ Cond.arrayOf (.static "FeltByTwin$News" "GREATER" "[I") .int ∈ flatC (Jvm.Cond.and given_1 narrow_1) ∧ Cond.eq (.length (.static "FeltByTwin$News" "LESSER" "[I")) (.int 15) ∈ flatC (Jvm.Cond.and given_1 narrow_1) ∧ Cond.eq (.length (.static "FeltByTwin$News" "GREATER" "[I")) (.int 15) ∈ flatC (Jvm.Cond.and given_1 narrow_1) := by decide +kernel
set_option maxRecDepth 100000 in
theorem law_w1 : lw_tbl[617]? = some (.laysStatic "FeltByTwin$News" "LESSER" "[I") ∧ lw_tbl[619]? = some (.laysStatic "FeltByTwin$News" "GREATER" "[I") ∧ lw_tbl[49]? = some (.initialized "FeltByTwin$News") ∧ lw_tbl[221]? = some (.arrayOver (.object "FeltByTwin$Birth")) ∧ lw_tbl[83]? = some (.arrayClass .int) := by decide +kernel
theorem sm_sl_81 : ∀ N, N ≤ 1000 → sm_sl N ≤ 7302250 := by
  have h : (List.range 1001).all (fun n => decide (sm_sz n ≤ 300)) = true := by decide +kernel
  have key : ∀ N, N ≤ 1000 → sm_sl N ≤ 300 * N := by
    intro N
    induction N with
    | zero => intro _; exact Nat.le_refl _
    | succ N ih =>
      intro hN
      have h1 := of_decide_eq_true (List.all_eq_true.mp h N (List.mem_range.mpr (by omega)))
      have h2 := ih (by omega)
      show sm_sl N + sm_sz N ≤ _
      omega
  intro N hN
  have := key N hN
  omega
set_option maxHeartbeats 4000000 in
theorem whole_start {p : Program} {e : Env} {s : State} {m : MethodId} {below : List Frame} {meth : Method} {c : Code} (l : Launch) {b L : Nat} {xs : Nat → Int32} (hL : L ≤ 320) (C0 : lw_At p s m meth c b L xs) : W p l e room_1 s m #[Value.ref b] below meth c s.heap [] 0 0 (lw_Z below #[Value.ref b] s) (entryFrame m ([Value.ref b] : List Value).toArray 4) := by
  obtain ⟨hx, hb, hr, hml, hown, hts0, hX, hbl, hlocks, hgv⟩ := C0
  have hts : ∀ w ∈ sm_W, w.before #[Value.ref b] s = true := fun w hw => hts0 w (List.mem_filter.mp hw).1
  obtain ⟨w1, w2, w3, w4, w5⟩ := law_w1
  have hfl := flat_of_before _ hgv
  have hA : ∀ a : Nat, a < s.heap.size → ¬ (fun q => s.heap.size ≤ q) a := fun a h1 h2 => absurd h2 (Nat.not_le.mpr h1)
  obtain ⟨tL, hvL, hTL⟩ := va_Tof (ty := .int) (N := 15) (f := fun j => .int (sm_tab 0 j)) (A := fun q => s.heap.size ≤ q) (by decide) (hfl _ law_flat2.1) (va_eqt (hfl _ law_flat2.2.2.1)) (fun j hj => va_eqt (hfl _ (law_flat0 j hj))) hA
  obtain ⟨tG, hvG, hTG⟩ := va_Tof (ty := .int) (N := 15) (f := fun j => .int (sm_tab 1 j)) (A := fun q => s.heap.size ≤ q) (by decide) (hfl _ law_flat2.2.1) (va_eqt (hfl _ law_flat2.2.2.2)) (fun j hj => va_eqt (hfl _ (law_flat1 j hj))) hA
  have hini := hts0 _ (List.mem_of_getElem? w3)
  have hZL := va_Zref (A := fun q => s.heap.size ≤ q) (hts0 _ (List.mem_of_getElem? w1)) hini hvL hA
  have hZG := va_Zref (A := fun q => s.heap.size ≤ q) (hts0 _ (List.mem_of_getElem? w2)) hini hvG hA
  have hE : sm_En s.heap.size tL tG s := by
    refine ⟨va_AO.of (hts0 _ (List.mem_of_getElem? w4)), fun w hw => ?_, Nat.le_refl _, ⟨hZL, hTL⟩, hZG, hTG⟩
    obtain ⟨h1, h2⟩ := List.mem_filter.mp hw
    cases w with
    | methodLinkNest a i y h => exact va_Nw.of rfl (hts0 _ h1)
    | _ => cases h2
  have hcl : ∀ k, k < 12 → ∃ (cC : ClassId) (iS : Nat → Nat), ∀ q : vw_C, vwCl[k]? = some q → u_Kn s q.1 q.2.1 q.2.2 cC iS := by
    intro k hk
    obtain ⟨q, hq⟩ := sm_vw hk
    obtain ⟨e1, e2, e3, e4, e5, e6, -⟩ := sm_cls_ok hq
    obtain ⟨cC, iS, h⟩ := u_known (C := q.1) (T := q.2.1) (N := q.2.2) (n := sm_nf k) hts e2 (hts _ e3)
    exact ⟨cC, iS, fun q' hq' => by rw [hq] at hq'; cases hq'; exact h⟩
  obtain ⟨dC, dI, hKc⟩ : ∃ (dC : Nat → ClassId) (dI : Nat → Nat → Nat), ∀ (k : Nat) (q : vw_C), vwCl[k]? = some q → u_Kn s q.1 q.2.1 q.2.2 (dC k) (dI k) := by
    refine ⟨fun k => if h : k < 12 then (hcl k h).choose else 0, fun k => if h : k < 12 then (hcl k h).choose_spec.choose else fun _ => 0, fun k q hq => ?_⟩
    have hk := sm_cl12 hq
    simp only [dif_pos hk]
    exact (hcl k hk).choose_spec.choose_spec q hq
  obtain ⟨cyI, kI, compI, i1, i2, i3⟩ := Cond.arrayClass_spec (hts0 _ (List.mem_of_getElem? w5))
  obtain ⟨comp, cyB, kB, b1, b2, b3, b4, b5⟩ := Cond.arrayOver_spec (hts0 _ (List.mem_of_getElem? w4))
  have hK : va_K (dC, dI) vwCl (sm_ty cyI cyB) s := by
    refine ⟨hKc, fun k q hq => ?_⟩
    match k, hq with
    | 0, hq => cases hq; exact ⟨fun n z => ⟨fun k h => (by cases h), kI, i2, compI, i3⟩, i1⟩
    | 1, hq => cases hq; exact ⟨fun n z => ⟨fun k h => (by cases h), kB, by assumption, comp, by assumption⟩, kB, comp, by assumption, by assumption, by assumption, by assumption⟩
    | k + 2, hq => simp [sm_ty] at hq
  obtain ⟨r, hr0, hr1⟩ := law_pure L xs hL
  obtain ⟨n, hn⟩ := sm_lim_iff.mp hr0
  have hrN := (sm_run_N (sm_ex_N 40) n _ r hn).2 (Nat.zero_le _)
  rw [lg_entry_eq]
  have hl := lv_entry ([Value.ref b]) (n := 4) (Nat.le_of_ble_eq_true rfl)
  have key := law_go (p := p) (l := l) (e := e) (below := below) (D := (dC, dI)) (cyI := cyI) (cyB := cyB) (tL := tL) (tG := tG) (d := 40) hx hb hr hml hlocks hown hts hE (X := some (L, xs)) (fun q hq => by cases hq; exact ⟨hX, hbl⟩) (by decide) r hr1 hrN (sm_sl_81 _ hrN) n _ hn s.heap [] ((lg_sl ([Value.ref b]) ++ List.replicate (4 - (lg_sl ([Value.ref b])).length) Slot.unset).toArray) ⟨hK, fun k q h => by simp [sm_cw] at h, va_S.rf, Nat.zero_le _⟩ ⟨hl.1, hl.2.1, fun k v hk => ?_⟩ (Nat.le_refl 0)
  · exact key
  · match k, hk with
    | 0, hk => cases hk; rfl
    | 1, hk => cases hk
    | 2, hk => cases hk
    | 3, hk => cases hk
    | k + 4, hk => cases hk
