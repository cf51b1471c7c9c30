/-! what the tables say is so: each row of them against the words of the claim -/
def sm_W : List Cond := lw_tbl.filter goodWord
def sm_wd (i : Nat) (w : Cond) : Bool := decide (lw_tbl[i]? = some w) && goodWord w
theorem sm_wd_in {i : Nat} {w : Cond} (h : sm_wd i w = true) : w ∈ sm_W := by
  unfold sm_wd at h
  rw [Bool.and_eq_true, decide_eq_true_eq] at h
  exact List.mem_filter.mpr ⟨List.mem_of_getElem? h.1, h.2⟩
def sm_mOk (r : sm_MT) : Bool :=
  sm_wd r.2.2.2.2.2.2.2.1 (.code r.2.1 r.2.2.1 r.2.2.2.1 r.2.2.2.2.1) &&
  (if r.2.2.2.2.2.1 = 0 then sm_wd r.2.2.2.2.2.2.2.2.1 (.static r.2.1) else sm_wd r.2.2.2.2.2.2.2.2.1 (.instanceMethod r.2.1)) &&
  (if r.2.2.2.2.2.1 = 1 then sm_wd r.2.2.2.2.2.2.2.2.2.1 (.selects r.2.1.cls r.2.1 r.2.1) else true) &&
  sm_wd r.2.2.2.2.2.2.2.2.2.2 (.initialized r.2.1.cls) && decide (r.2.1.cls = sm_cn r.1) && plainFor r.2.1 &&
  decide (r.2.1.cls ≠ "java/lang/invoke/MethodHandle" ∧ r.2.1.cls ≠ "java/lang/invoke/VarHandle" ∧ (parseMethodDescriptor r.2.1.desc).map (fun d => d.parameters.length) = some r.2.2.2.2.2.2.1) &&
  (if r.2.2.2.2.2.1 = 2 then decide (r.2.1.name = "<init>" ∧ r.2.2.2.2.1 = none) else true)
set_option maxRecDepth 100000 in
theorem sm_mt0_ok : sm_mt0.all sm_mOk = true := by decide +kernel
set_option maxRecDepth 100000 in
theorem sm_mt1_ok : sm_mt1.all sm_mOk = true := by decide +kernel
set_option maxRecDepth 100000 in
theorem sm_mt2_ok : sm_mt2.all sm_mOk = true := by decide +kernel
set_option maxRecDepth 100000 in
theorem sm_mt3_ok : sm_mt3.all sm_mOk = true := by decide +kernel
set_option maxRecDepth 100000 in
theorem sm_mt4_ok : sm_mt4.all sm_mOk = true := by decide +kernel
set_option maxRecDepth 100000 in
theorem sm_mt5_ok : sm_mt5.all sm_mOk = true := by decide +kernel
set_option maxRecDepth 100000 in
theorem sm_mt6_ok : sm_mt6.all sm_mOk = true := by decide +kernel
set_option maxRecDepth 100000 in
theorem sm_mt7_ok : (sm_mt7.take 6).all sm_mOk = true := by decide +kernel
def sm_clOk (c : Nat) : Bool := match vwCl[c]? with
  | none => false
  | some q => decide (q.2.2 = sm_nf c) && (List.range (sm_nf c)).all (fun k => sm_wd ((sm_lpT.getD c []).getD k 0) (u_lay q.1 q.2.1 k)) && sm_wd (sm_inT.getD c 0) (.instantiable q.1 (sm_nf c)) && sm_wd (sm_ipT.getD c 0) (.initialized q.1) && decide (q.1 = sm_cn c) &&
    (List.range (sm_nf c)).all (fun k => decide ((q.2.1 k).1 = q.1 ∧ (q.2.1 k).2.2.2 = sm_ff c k) && (match parseFieldDescriptor (q.2.1 k).2.2.1 with | some .int => sm_fk c k == 0 | some .boolean => sm_fk c k == 1 | some .long => sm_fk c k == 2 | some (.object _) => sm_fk c k == 3 | some (.array _) => sm_fk c k == 3 | _ => false) && (List.range (sm_nf c)).all (fun j => k == j || decide ((q.2.1 k).2.1 ≠ (q.2.1 j).2.1)))
set_option maxRecDepth 100000 in
theorem sm_cl_ok : (List.range 12).all sm_clOk = true := by decide +kernel
def sm_flOk (r : Nat × Nat × Nat × Nat × Nat) : Bool := match vwCl[r.2.2.1]? with
  | none => false
  | some q => decide (r.2.2.2.1 < q.2.2) && sm_wd r.2.2.2.2 (.fieldLink (sm_cn r.1) r.2.1 q.1 (q.2.1 r.2.2.2.1).2.1 (q.2.1 r.2.2.2.1).2.2.1)
set_option maxRecDepth 100000 in
theorem sm_fl_ok : sm_flT.all sm_flOk = true := by decide +kernel
def sm_caOk (r : Nat × Nat × Nat × Nat × Nat) : Bool := decide (r.2.2.1 < 216) && (if r.2.2.2.2 = 0 then sm_wd r.2.2.2.1 (.methodLink (sm_cn r.1) r.2.1 (sm_y r.2.2.1)) else decide (lw_tbl[r.2.2.2.1]? = some (.methodLinkNest (sm_cn r.1) r.2.1 (sm_y r.2.2.1) "FeltByTwin")))
set_option maxRecDepth 100000 in
theorem sm_ca_ok : sm_caT.all sm_caOk = true := by decide +kernel
set_option maxRecDepth 100000 in
theorem sm_ob_ok : sm_obT.all (fun r => sm_wd r.2.2 (.methodLink (sm_cn r.1) r.2.1 objectInit)) = true := by decide +kernel
set_option maxRecDepth 100000 in
theorem sm_ac_ok : sm_acT.all (fun r => sm_wd r.2.2 (.methodLink (sm_cn r.1) r.2.1 arraycopyName)) = true := by decide +kernel
set_option maxRecDepth 100000 in
theorem sm_ki_ok : sm_kiT.all (fun r => sm_wd r.2.2.2 (.constant (sm_cn r.1) r.2.1 r.2.2.1)) = true := by decide +kernel
set_option maxRecDepth 100000 in
theorem sm_kl_ok : sm_klT.all (fun r => sm_wd r.2.2.2 (.constantLong (sm_cn r.1) r.2.1 r.2.2.1)) = true := by decide +kernel
set_option maxRecDepth 100000 in
theorem sm_nw_ok : sm_nwT.all (fun r => decide (r.2.2.1 < 12) && sm_wd r.2.2.2 (.classLink (sm_cn r.1) r.2.1 (sm_cn r.2.2.1))) = true := by decide +kernel
set_option maxRecDepth 100000 in
theorem sm_st_ok : sm_stT.all (fun r => decide (r.2.2.1 < 2) && sm_wd r.2.2.2 (.fieldLink (sm_cn r.1) r.2.1 "FeltByTwin$News" (if r.2.2.1 = 0 then "LESSER" else "GREATER") "[I")) = true := by decide +kernel
