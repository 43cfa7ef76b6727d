/-! THE CLAIM OUT OF ONE WALK OF THE LAW'S BODY. Your part is whole_start (and what it stands on); all else here is the same for every law, but numbers. -/
def R_law : String := "GuestViewLaw"
def lw_P (b : Addr) (xs : List Int32) (args : Array Value) (s : State) : Prop := args = #[.ref b] ∧ s.IntsAt b xs ∧ xs.length ≤ 3072 ∧ (Jvm.Cond.and given_1 narrow_1).before args s = true
def lw_Q (_ : Array Value) (s : State) (o : Outcome) (t : State) : Prop := o = .returned (some (.int 1)) ∧ Framed s o t [] 601024 7293034
def lw_Z (below : List Frame) (a : Array Value) (s : State) : State → Prop := fun t => ∃ o, t.status = .running ∧ Ended t below o ∧ lw_Q a s o t
/-- the law's own end, with 1 on the stack, nothing written that was there before, its room as the claim has it -/
theorem lw_ret {p : Program} {l : Launch} {e : Env} {s : State} {m : MethodId} {below : List Frame} {meth : Method} {c : Code} {b : Nat} (hx : p.tables.exec = Jvm.exec) (hb : c.code = code) (hr : meth.sig.returnType = ret) (hlocks : meth.locks = false) {pc : Nat} {H : Heap} {ls : Array Slot} (hdg : decode code pc = .ok (.ireturn, 1)) : W p l e room_1 s m #[Value.ref b] below meth c H [] 601024 7293034 (lw_Z below #[Value.ref b] s) (F0 m pc ls [.int 1]) := by
  intro T hT X
  obtain ⟨fs, hret, hrun, hended, hW, hframe⟩ := X.leave (v := some (.int 1)) (hlocks := hlocks) (fun h => by rw [hr] at h; cases h)
  have hmeth' : T.vm.method? m = some meth := X.method'
  refine ⟨T.setFrames fs, ?_, .returned (some (.int 1)), hrun, hended, rfl, ⟨_, rfl⟩, hW, hframe⟩
  jvm_step X.here [X.here.top, hx, hb, hdg, hmeth', hr, ret, narrow_b1]
  (try refine ⟨rfl, ?_⟩); (try refine ⟨rfl, ?_⟩)
  first | (intro acts; rw [hret _ acts rfl rfl rfl]) | rw [hret _ _ rfl rfl rfl]
  exact Steps.refl _
/-- what holds at the law's entry: the machine, the code, the tables' words (any of lw_tbl by 'hts w (by decide +kernel)'), the script of L ints xs at the cell b, what the Statement gives of the start (any of its parts by flat_of_before) -/
def lw_At (p : Program) (s : State) (m : MethodId) (meth : Method) (c : Code) (b L : Nat) (xs : Nat → Int32) : Prop :=
  p.tables.exec = Jvm.exec ∧ c.code = code ∧ meth.sig.returnType = ret ∧ c.maxLocals = 7 ∧ s.vm.findClass R_law = some m.cls ∧ (∀ w ∈ lw_tbl, w.before #[Value.ref b] s = true) ∧ va_X b L xs s s.heap ∧ b < s.heap.size ∧ meth.locks = false ∧ (Jvm.Cond.and given_1 narrow_1).before #[Value.ref b] s = true
/-! the law begins: what is there -/
def gv_rpT : List (Nat × Nat) := [(0, 38), (0, 68), (0, 81), (3, 43), (3, 60), (3, 72), (3, 81), (3, 83), (3, 95), (3, 100), (12, 131), (12, 133), (12, 135), (12, 137), (12, 139), (12, 141), (12, 143), (12, 145), (12, 147), (12, 149), (12, 151), (12, 175), (12, 180), (12, 185), (12, 189), (12, 191), (12, 196), (12, 198), (12, 200), (12, 205), (12, 207), (12, 209), (12, 211), (12, 213), (12, 215), (12, 230), (12, 232), (12, 258), (12, 260)]
def gv_eqT : List (Nat × Nat × Nat × Nat) := [(0, 68, 12, 160), (3, 60, 12, 262), (3, 72, 12, 256), (3, 81, 12, 251), (3, 83, 12, 240)]
abbrev gv_FL : List Cond := flatC (Jvm.Cond.and given_1 narrow_1)
def gv_tm (k : Nat) : Term := .string (gv_on (gv_rpT.getD k (0, 0)).1) (gv_rpT.getD k (0, 0)).2
def gv_sw (k : Nat) : List Cond := [Cond.exactly (gv_tm k) "java/lang/String", Cond.eq (.field (gv_tm k) "java/lang/String" "coder" "B") (.int 0), Cond.arrayOf (.field (gv_tm k) "java/lang/String" "value" "[B") .byte, Cond.eq (.length (.field (gv_tm k) "java/lang/String" "value" "[B")) (.int (Int32.ofNat (gv_txT.getD k []).length))] ++ (List.range (gv_txT.getD k []).length).map (fun j => Cond.eq (.elem (.field (gv_tm k) "java/lang/String" "value" "[B") (.int (Int32.ofNat j))) (.int ((gv_txT.getD k []).getD j 0)))
set_option maxRecDepth 100000 in
set_option maxHeartbeats 4000000 in
theorem gv_sw_c : (List.range 39).all (fun k => gv_scan gv_FL (gv_sw k)) = true := by decide +kernel
theorem gv_tx39 : gv_txT.length = 39 := by decide +kernel
set_option maxRecDepth 100000 in
set_option maxHeartbeats 4000000 in
theorem gv_eq_c : gv_scan gv_FL (gv_eqT.map (fun x => Cond.eq (.string (gv_on x.1) x.2.1) (.string (gv_on x.2.2.1) x.2.2.2))) = true ∨ gv_eqT.all (fun x => gv_FL.elem (Cond.eq (.string (gv_on x.1) x.2.1) (.string (gv_on x.2.2.1) x.2.2.2))) = true := Or.inr (by decide +kernel)
set_option maxRecDepth 100000 in
set_option maxHeartbeats 4000000 in
theorem gv_thr_c : gv_thrs.all (fun x => gv_FL.elem (Cond.exactly (.string x.1 x.2.2.1) "java/lang/String") && lw_tbl.elem (Cond.stringRef x.1 x.2.2.1 x.2.2.2.2.2)) = true := by decide +kernel
set_option maxRecDepth 100000 in
set_option maxHeartbeats 4000000 in
theorem gv_str_c : gv_strs.all (fun x => lw_tbl.elem (Cond.stringRef x.1 x.2.1 x.2.2.1)) = true := by decide +kernel
set_option maxRecDepth 100000 in
set_option maxHeartbeats 4000000 in
theorem gv_nest_c : gv_nests.all (fun x => lw_tbl.elem (Cond.methodLinkNest x.1 x.2.1 x.2.2.1 x.2.2.2)) = true := by decide +kernel
def gv_isC (w : Cond) : Bool := match w with
  | .code .. => true
  | .codeWith .. => true
  | _ => false
/-- the code words of the throws -/
def gv_jc : List Cond := [tables_1_1[36]?, tables_1_5[11]?, tables_1_5[32]?, tables_1_5[35]?, tables_1_5[38]?, tables_1_5[41]?, tables_1_5[68]?, tables_1_5[167]?, tables_1_5[187]?].flatMap Option.toList
theorem gv_jc_in : ∀ w ∈ gv_jc, w ∈ lw_tbl := by
  intro w hw
  obtain ⟨o, ho, hw⟩ := List.mem_flatMap.mp hw
  have hw : o = some w := by
    cases o with
    | none => cases hw
    | some y => rw [List.mem_singleton.mp hw]
  subst hw
  simp only [List.mem_cons, List.not_mem_nil, or_false] at ho
  rcases ho with ho | ho | ho | ho | ho | ho | ho | ho | ho
  · exact gv_tb1 _ (List.mem_of_getElem? ho.symm)
  · exact gv_tb5 _ (List.mem_of_getElem? ho.symm)
  · exact gv_tb5 _ (List.mem_of_getElem? ho.symm)
  · exact gv_tb5 _ (List.mem_of_getElem? ho.symm)
  · exact gv_tb5 _ (List.mem_of_getElem? ho.symm)
  · exact gv_tb5 _ (List.mem_of_getElem? ho.symm)
  · exact gv_tb5 _ (List.mem_of_getElem? ho.symm)
  · exact gv_tb5 _ (List.mem_of_getElem? ho.symm)
  · exact gv_tb5 _ (List.mem_of_getElem? ho.symm)
def gv_pre : List Cond := (Bundle.throwableAtoms ++ Bundle.throwableSAtoms ++ Bundle.chainSAtoms gv_Y1 gv_chain ++ [Cond.fieldLink Bundle.tN 198 Bundle.tN "backtrace" "Ljava/lang/Object;", Cond.lays Bundle.tN Bundle.tN "backtrace" "Ljava/lang/Object;", Cond.isRef (.static Bundle.tN "UNASSIGNED_STACK" Bundle.steD), Cond.isRef (.static Bundle.tN "SUPPRESSED_SENTINEL" Bundle.listD)]).filter vx_no
def gv_fix (e : Nat) : List Cond := (Bundle.passSAtoms (gv_exn e) gv_Y1 (gv_k1 e) (gv_b1 e) ++ [Cond.instantiable (gv_exn e) 6, Cond.castable (gv_exn e) (gv_exn e), Cond.selects (gv_exn e) Bundle.tFill0 Bundle.tFill0, Cond.selects (gv_exn e) Bundle.tFill Bundle.tFill, Cond.lays (gv_exn e) Bundle.tN "cause" "Ljava/lang/Throwable;", Cond.lays (gv_exn e) Bundle.tN "stackTrace" Bundle.steD, Cond.lays (gv_exn e) Bundle.tN "suppressedExceptions" Bundle.listD, Cond.lays (gv_exn e) Bundle.tN "detailMessage" "Ljava/lang/String;", Cond.lays (gv_exn e) Bundle.tN "backtrace" "Ljava/lang/Object;"]).filter vx_no
theorem gv_wS_sub {own : String} {ic e : Nat} {w : Cond} (h : w ∈ gv_wS own ic e) : w = .methodLink own ic (Bundle.initS (gv_exn e)) ∨ w ∈ gv_pre ∨ w ∈ gv_fix e := by
  obtain ⟨h, hv⟩ := List.mem_filter.mp h
  simp only [gv_oat, List.mem_append, List.mem_cons, List.not_mem_nil, or_false] at h
  simp only [gv_pre, gv_fix, List.mem_filter, List.mem_append, List.mem_cons, List.not_mem_nil, or_false]
  rcases h with (((h | h) | h) | h) | h | h | h | h | h | h | h | h | h | h | h | h | h | h
  all_goals first
    | exact Or.inl h
    | (refine Or.inr (Or.inl ⟨?_, hv⟩); simp only [h, true_or, or_true]; done)
    | (refine Or.inr (Or.inr ⟨?_, hv⟩); simp only [h, true_or, or_true]; done)
theorem gv_chunk {l : List Cond} {P : Cond → Bool} (n : Nat) (hl : l.length ≤ 8 * n) (h : ∀ i, i < n → ((l.drop (8 * i)).take 8).all P = true) : ∀ w ∈ l, P w = true := by
  intro w hw
  obtain ⟨k, hk, rfl⟩ := List.mem_iff_getElem.mp hw
  refine List.all_eq_true.mp (h (k / 8) (by omega)) _ (List.mem_iff_getElem?.mpr ⟨k % 8, ?_⟩)
  rw [List.getElem?_take_of_lt (by omega), List.getElem?_drop, Nat.div_add_mod]
  exact List.getElem?_eq_getElem hk
def gv_tI (w : Cond) : Bool := bif gv_isC w then gv_jc.elem w else lw_tbl.elem w
theorem gv_tI_in {w : Cond} (h : gv_tI w = true) : w ∈ lw_tbl := by
  unfold gv_tI at h
  cases hc : gv_isC w with
  | true => rw [hc] at h; exact gv_jc_in w (List.elem_iff.mp h)
  | false => rw [hc] at h; exact List.elem_iff.mp h
set_option maxRecDepth 100000 in
set_option maxHeartbeats 4000000 in
theorem gv_pre_l : gv_pre.length ≤ 64 := by decide +kernel
set_option maxRecDepth 100000 in
set_option maxHeartbeats 4000000 in
theorem gv_pre_0 : ((gv_pre.drop (8 * 0)).take 8).all gv_tI = true := by decide +kernel
set_option maxRecDepth 100000 in
set_option maxHeartbeats 4000000 in
theorem gv_pre_1 : ((gv_pre.drop (8 * 1)).take 8).all gv_tI = true := by decide +kernel
set_option maxRecDepth 100000 in
set_option maxHeartbeats 4000000 in
theorem gv_pre_2 : ((gv_pre.drop (8 * 2)).take 8).all gv_tI = true := by decide +kernel
set_option maxRecDepth 100000 in
set_option maxHeartbeats 4000000 in
theorem gv_pre_3 : ((gv_pre.drop (8 * 3)).take 8).all gv_tI = true := by decide +kernel
set_option maxRecDepth 100000 in
set_option maxHeartbeats 4000000 in
theorem gv_pre_4 : ((gv_pre.drop (8 * 4)).take 8).all gv_tI = true := by decide +kernel
set_option maxRecDepth 100000 in
set_option maxHeartbeats 4000000 in
theorem gv_pre_5 : ((gv_pre.drop (8 * 5)).take 8).all gv_tI = true := by decide +kernel
set_option maxRecDepth 100000 in
set_option maxHeartbeats 4000000 in
theorem gv_pre_6 : ((gv_pre.drop (8 * 6)).take 8).all gv_tI = true := by decide +kernel
set_option maxRecDepth 100000 in
set_option maxHeartbeats 4000000 in
theorem gv_pre_7 : ((gv_pre.drop (8 * 7)).take 8).all gv_tI = true := by decide +kernel
theorem gv_pre_c : ∀ w ∈ gv_pre, gv_tI w = true := gv_chunk 8 gv_pre_l (fun i hi => match i, hi with | 0, _ => gv_pre_0 | 1, _ => gv_pre_1 | 2, _ => gv_pre_2 | 3, _ => gv_pre_3 | 4, _ => gv_pre_4 | 5, _ => gv_pre_5 | 6, _ => gv_pre_6 | 7, _ => gv_pre_7 | i + 8, hi => absurd hi (by omega))
set_option maxRecDepth 100000 in
set_option maxHeartbeats 4000000 in
theorem gv_fix0_l : (gv_fix 0).length ≤ 24 := by decide +kernel
set_option maxRecDepth 100000 in
set_option maxHeartbeats 4000000 in
theorem gv_fix0_0 : (((gv_fix 0).drop (8 * 0)).take 8).all gv_tI = true := by decide +kernel
set_option maxRecDepth 100000 in
set_option maxHeartbeats 4000000 in
theorem gv_fix0_1 : (((gv_fix 0).drop (8 * 1)).take 8).all gv_tI = true := by decide +kernel
set_option maxRecDepth 100000 in
set_option maxHeartbeats 4000000 in
theorem gv_fix0_2 : (((gv_fix 0).drop (8 * 2)).take 8).all gv_tI = true := by decide +kernel
theorem gv_fix0_c : ∀ w ∈ gv_fix 0, gv_tI w = true := gv_chunk 3 gv_fix0_l (fun i hi => match i, hi with | 0, _ => gv_fix0_0 | 1, _ => gv_fix0_1 | 2, _ => gv_fix0_2 | i + 3, hi => absurd hi (by omega))
set_option maxRecDepth 100000 in
set_option maxHeartbeats 4000000 in
theorem gv_fix1_l : (gv_fix 1).length ≤ 24 := by decide +kernel
set_option maxRecDepth 100000 in
set_option maxHeartbeats 4000000 in
theorem gv_fix1_0 : (((gv_fix 1).drop (8 * 0)).take 8).all gv_tI = true := by decide +kernel
set_option maxRecDepth 100000 in
set_option maxHeartbeats 4000000 in
theorem gv_fix1_1 : (((gv_fix 1).drop (8 * 1)).take 8).all gv_tI = true := by decide +kernel
set_option maxRecDepth 100000 in
set_option maxHeartbeats 4000000 in
theorem gv_fix1_2 : (((gv_fix 1).drop (8 * 2)).take 8).all gv_tI = true := by decide +kernel
theorem gv_fix1_c : ∀ w ∈ gv_fix 1, gv_tI w = true := gv_chunk 3 gv_fix1_l (fun i hi => match i, hi with | 0, _ => gv_fix1_0 | 1, _ => gv_fix1_1 | 2, _ => gv_fix1_2 | i + 3, hi => absurd hi (by omega))
set_option maxRecDepth 100000 in
set_option maxHeartbeats 4000000 in
theorem gv_fix2_l : (gv_fix 2).length ≤ 24 := by decide +kernel
set_option maxRecDepth 100000 in
set_option maxHeartbeats 4000000 in
theorem gv_fix2_0 : (((gv_fix 2).drop (8 * 0)).take 8).all gv_tI = true := by decide +kernel
set_option maxRecDepth 100000 in
set_option maxHeartbeats 4000000 in
theorem gv_fix2_1 : (((gv_fix 2).drop (8 * 1)).take 8).all gv_tI = true := by decide +kernel
set_option maxRecDepth 100000 in
set_option maxHeartbeats 4000000 in
theorem gv_fix2_2 : (((gv_fix 2).drop (8 * 2)).take 8).all gv_tI = true := by decide +kernel
theorem gv_fix2_c : ∀ w ∈ gv_fix 2, gv_tI w = true := gv_chunk 3 gv_fix2_l (fun i hi => match i, hi with | 0, _ => gv_fix2_0 | 1, _ => gv_fix2_1 | 2, _ => gv_fix2_2 | i + 3, hi => absurd hi (by omega))
set_option maxRecDepth 100000 in
set_option maxHeartbeats 4000000 in
theorem gv_fix3_l : (gv_fix 3).length ≤ 24 := by decide +kernel
set_option maxRecDepth 100000 in
set_option maxHeartbeats 4000000 in
theorem gv_fix3_0 : (((gv_fix 3).drop (8 * 0)).take 8).all gv_tI = true := by decide +kernel
set_option maxRecDepth 100000 in
set_option maxHeartbeats 4000000 in
theorem gv_fix3_1 : (((gv_fix 3).drop (8 * 1)).take 8).all gv_tI = true := by decide +kernel
set_option maxRecDepth 100000 in
set_option maxHeartbeats 4000000 in
theorem gv_fix3_2 : (((gv_fix 3).drop (8 * 2)).take 8).all gv_tI = true := by decide +kernel
theorem gv_fix3_c : ∀ w ∈ gv_fix 3, gv_tI w = true := gv_chunk 3 gv_fix3_l (fun i hi => match i, hi with | 0, _ => gv_fix3_0 | 1, _ => gv_fix3_1 | 2, _ => gv_fix3_2 | i + 3, hi => absurd hi (by omega))
theorem gv_fix_c : ∀ e, e < 4 → ∀ w ∈ gv_fix e, gv_tI w = true := fun e he => match e, he with | 0, _ => gv_fix0_c | 1, _ => gv_fix1_c | 2, _ => gv_fix2_c | 3, _ => gv_fix3_c | e + 4, he => absurd he (by omega)
theorem gv_thr_e : gv_thrs.all (fun x => Nat.blt x.2.2.2.2.1 4) = true := by decide +kernel
set_option maxRecDepth 100000 in
set_option maxHeartbeats 4000000 in
theorem gv_thr_m : gv_thrs.all (fun x => gv_tI (.methodLink x.1 x.2.2.2.1 (Bundle.initS (gv_exn x.2.2.2.2.1)))) = true := by decide +kernel
set_option maxRecDepth 100000 in
set_option maxHeartbeats 4000000 in
theorem gv_thr_k : gv_thrs.all (fun x => gv_tI (.classLink x.1 x.2.1 (gv_exn x.2.2.2.2.1)) && gv_tI (.initialized (gv_exn x.2.2.2.2.1))) = true := by decide +kernel
set_option maxRecDepth 100000 in
set_option maxHeartbeats 4000000 in
theorem gv_hnd_k : (gv_hnds.map (fun x => Cond.classLink x.1 x.2.1 (gv_exn x.2.2)) ++ [0, 1, 2, 3].map (fun k => Cond.castable (gv_exn k) (gv_exn k))).all gv_tI = true := by decide +kernel
theorem gv_Xw_m : ∀ w ∈ gv_Xw, w ∈ lw_tbl := by
  intro w hw
  rcases List.mem_append.mp hw with h | h
  · obtain ⟨x, hx, h⟩ := List.mem_flatMap.mp h
    have hk := List.all_eq_true.mp gv_thr_k x hx
    rw [Bool.and_eq_true] at hk
    rcases List.mem_cons.mp h with h | h
    · rw [h]; exact gv_tI_in hk.1
    rcases List.mem_cons.mp h with h | h
    · rw [h]; exact gv_tI_in hk.2
    have he := List.all_eq_true.mp gv_thr_e x hx
    rcases gv_wS_sub h with h | h | h
    · rw [h]; exact gv_tI_in (List.all_eq_true.mp gv_thr_m x hx)
    · exact gv_tI_in (gv_pre_c w h)
    · exact gv_tI_in (gv_fix_c _ (Nat.blt_eq.mp he) w h)
  · exact gv_tI_in (List.all_eq_true.mp gv_hnd_k w h)
set_option maxRecDepth 100000 in
set_option maxHeartbeats 4000000 in
theorem gv_ncs_c : gv_ncs.all (fun x => gv_FL.elem (Cond.not (Cond.castable (gv_exn x.1) (gv_exn x.2)))) = true := by decide +kernel
/-- the first of a text's constants, or another that is the same object -/
theorem gv_str_rep : gv_stT.all (fun x => (Nat.beq (gv_rpT.getD x.2.2 (0, 0)).1 x.1 && Nat.beq (gv_rpT.getD x.2.2 (0, 0)).2 x.2.1) || gv_eqT.any (fun y => Nat.beq y.1 (gv_rpT.getD x.2.2 (0, 0)).1 && Nat.beq y.2.1 (gv_rpT.getD x.2.2 (0, 0)).2 && Nat.beq y.2.2.1 x.1 && Nat.beq y.2.2.2 x.2.1)) = true := by decide +kernel
theorem gv_st_lt : gv_stT.all (fun x => Nat.blt x.2.2 39) = true := by decide +kernel
theorem gv_txlen : ∀ i, i < 39 → (gv_txT.getD i []).length < 2 ^ 31 := by decide +kernel
section Entry
variable {args : Array Value} {s : State}
theorem gv_strings {A : Nat → Prop} (hgv : ∀ w ∈ gv_FL, w.before args s = true) (hA : ∀ a : Nat, a < s.heap.size → ¬ A a) :
    ∃ ad : Nat → Nat × Nat, ∀ i, i < 39 → (gv_tm i).eval args s none [] s = some (.ref (ad i).1) ∧ va_O "java/lang/String" (ad i).1 A s s.heap ∧ va_OF "java/lang/String" "coder" "B" (.int 0) (ad i).1 A s s.heap ∧ va_OF "java/lang/String" "value" "[B" (.ref (ad i).2) (ad i).1 A s s.heap ∧ va_T .byte (ad i).2 (gv_txT.getD i []).length (fun j => .int ((gv_txT.getD i []).getD j 0)) A s s.heap := by
  have h0 : ∀ i : Nat, ∃ q : Nat × Nat, i < 39 → (gv_tm i).eval args s none [] s = some (.ref q.1) ∧ va_O "java/lang/String" q.1 A s s.heap ∧ va_OF "java/lang/String" "coder" "B" (.int 0) q.1 A s s.heap ∧ va_OF "java/lang/String" "value" "[B" (.ref q.2) q.1 A s s.heap ∧ va_T .byte q.2 (gv_txT.getD i []).length (fun j => .int ((gv_txT.getD i []).getD j 0)) A s s.heap := by
    intro i
    by_cases hi : i < 39
    · have hs : ∀ w ∈ gv_sw i, w.before args s = true := fun w hw => hgv w (gv_scan_in _ _ (List.all_eq_true.mp gv_sw_c i (List.mem_range.mpr hi)) w hw)
      have m0 : Cond.exactly (gv_tm i) "java/lang/String" ∈ gv_sw i := List.mem_append_left _ List.mem_cons_self
      have m1 : Cond.eq (.field (gv_tm i) "java/lang/String" "coder" "B") (.int 0) ∈ gv_sw i := List.mem_append_left _ (List.mem_cons_of_mem _ List.mem_cons_self)
      have m2 : Cond.arrayOf (.field (gv_tm i) "java/lang/String" "value" "[B") .byte ∈ gv_sw i := List.mem_append_left _ (List.mem_cons_of_mem _ (List.mem_cons_of_mem _ List.mem_cons_self))
      have m3 : Cond.eq (.length (.field (gv_tm i) "java/lang/String" "value" "[B")) (.int (Int32.ofNat (gv_txT.getD i []).length)) ∈ gv_sw i := List.mem_append_left _ (List.mem_cons_of_mem _ (List.mem_cons_of_mem _ (List.mem_cons_of_mem _ List.mem_cons_self)))
      have m4 : ∀ j, j < (gv_txT.getD i []).length → Cond.eq (.elem (.field (gv_tm i) "java/lang/String" "value" "[B") (.int (Int32.ofNat j))) (.int ((gv_txT.getD i []).getD j 0)) ∈ gv_sw i := fun j hj => List.mem_append_right _ (List.mem_map.mpr ⟨j, List.mem_range.mpr hj, rfl⟩)
      obtain ⟨a, c, cA, kA, q1, q2, q3, q4, q5, q6, -⟩ := Cond.exactly_spec (args := args) (first := s) (o := none) (s := s) (idx := []) (t := gv_tm i) (cls := "java/lang/String") (hs _ m0)
      obtain ⟨t, ht, hT⟩ := va_Tof (f := fun j => .int ((gv_txT.getD i []).getD j 0)) (A := A) (gv_txlen i hi) (hs _ m2) (va_eqt (hs _ m3)) (fun j hj => va_eqt (hs _ (m4 j hj))) hA
      exact ⟨(a, t), fun _ => ⟨q1, ⟨cA, q3, q5, by rw [q6]; exact q2, hA a (Array.getElem?_eq_some_iff.mp q3).1⟩, vk_OFof q1 (va_eqt (hs _ m1)) hA, vk_OFof q1 ht hA, hT⟩⟩
    · exact ⟨(0, 0), fun h => absurd h hi⟩
  obtain ⟨ad, had⟩ := Classical.axiomOfChoice h0
  exact ⟨ad, had⟩
theorem gv_eq_in : ∀ x ∈ gv_eqT, Cond.eq (.string (gv_on x.1) x.2.1) (.string (gv_on x.2.2.1) x.2.2.2) ∈ gv_FL := by
  intro x hx
  rcases gv_eq_c with h | h
  · exact gv_scan_in _ _ h _ (List.mem_map.mpr ⟨x, hx, rfl⟩)
  · exact List.elem_iff.mp (List.all_eq_true.mp h x hx)
set_option maxRecDepth 100000 in
set_option maxHeartbeats 4000000 in
theorem gv_sts_c : (lw_tbl.elem (Cond.laysStatic Bundle.tN "UNASSIGNED_STACK" Bundle.steD) && lw_tbl.elem (Cond.laysStatic Bundle.tN "SUPPRESSED_SENTINEL" Bundle.listD) && lw_tbl.elem (Cond.initialized Bundle.tN) && gv_FL.elem (Cond.isRef (.static Bundle.tN "UNASSIGNED_STACK" Bundle.steD)) && gv_FL.elem (Cond.isRef (.static Bundle.tN "SUPPRESSED_SENTINEL" Bundle.listD)) && lw_tbl.elem (Cond.laysStatic "java/lang/String" "COMPACT_STRINGS" "Z") && lw_tbl.elem (Cond.initialized "java/lang/String") && gv_FL.elem (Cond.eq (.static "java/lang/String" "COMPACT_STRINGS" "Z") (.int 1)) && lw_tbl.elem (Cond.laysStatic "jdk/internal/util/Preconditions" "SIOOBE_FORMATTER" "Ljava/util/function/BiFunction;") && lw_tbl.elem (Cond.initialized "jdk/internal/util/Preconditions") && gv_FL.elem (Cond.isRef (.static "jdk/internal/util/Preconditions" "SIOOBE_FORMATTER" "Ljava/util/function/BiFunction;")) && lw_tbl.elem (Cond.arrayOver (.object "GuestView$World"))) = true := by decide +kernel
theorem gv_ot_c : gv_nests.all (fun x => (Cond.methodLinkNest x.1 x.2.1 x.2.2.1 x.2.2.2).onTables) = true := by decide +kernel
theorem gv_ext (hgv : ∀ w ∈ gv_FL, w.before args s = true) (hts : ∀ w ∈ lw_tbl, w.before args s = true) {b L : Nat} {xs : Nat → Int32} (hX : va_X b L xs s s.heap) (hb : b < s.heap.size) : ∃ ex adV : Nat → Nat, ex 0 = b ∧ gv_Ext (xs, L) s.heap.size ex adV s := by
  have hA : ∀ a : Nat, a < s.heap.size → ¬ (fun q : Nat => s.heap.size ≤ q) a := fun a ha h => absurd ha (Nat.not_lt.mpr h)
  obtain ⟨ad, had⟩ := gv_strings hgv hA
  have sts := gv_sts_c
  simp only [Bool.and_eq_true] at sts
  obtain ⟨⟨⟨⟨⟨⟨⟨⟨⟨⟨⟨t1, t2⟩, t3⟩, t4⟩, t5⟩, t6⟩, t7⟩, t8⟩, t9⟩, t10⟩, t11⟩, t12⟩ := sts
  have u : ∀ {w : Cond}, lw_tbl.elem w = true → w.before args s = true := fun h => hts _ (List.elem_iff.mp h)
  have v : ∀ {w : Cond}, gv_FL.elem w = true → w.before args s = true := fun h => hgv _ (List.elem_iff.mp h)
  refine ⟨fun k => match k with
    | 0 => b
    | k + 1 => (ad k).1, fun k => (ad k).2, rfl, ⟨hX, hb, hb, va_AO.of (u t12), fun o i y h hm => va_Nw.of (List.all_eq_true.mp gv_ot_c _ hm) (u (List.all_eq_true.mp gv_nest_c _ hm)), fun o i t a hm => ?_⟩, fun w hw => ?_, fun x hx => ?_, vx_Zqof (u t1) (u t3) (v t4) hA, vx_Zqof (u t2) (u t3) (v t5) hA, fun x hx => va_Nc.of (v (List.all_eq_true.mp gv_ncs_c x hx)), fun k hk => ?_, va_Zof (u t6) (u t7) (va_eqt (v t8)) hA, va_Zqof (u t9) (u t10) (v t11) hA⟩
  · obtain ⟨x, hx, he⟩ := List.mem_map.mp hm
    have hc := u (List.all_eq_true.mp gv_str_c _ hm)
    injection he with e1 he
    injection he with e2 he
    injection he with e3 e4
    subst e1 e2 e3 e4
    have hlt : x.2.2 < 39 := Nat.le_of_ble_eq_true (List.all_eq_true.mp gv_st_lt x hx)
    have h1 := (had _ hlt).1
    refine vk_R.of hc ?_
    have hr := List.all_eq_true.mp gv_str_rep x hx
    simp only [Bool.or_eq_true] at hr
    unfold gv_tm at h1
    rcases hr with hr | hr
    · simp only [Bool.and_eq_true] at hr
      rw [Nat.eq_of_beq_eq_true hr.1, Nat.eq_of_beq_eq_true hr.2] at h1
      exact h1
    · obtain ⟨y, hy, hr⟩ := List.any_eq_true.mp hr
      simp only [Bool.and_eq_true] at hr
      have hq := hgv _ (gv_eq_in y hy)
      rw [Nat.eq_of_beq_eq_true hr.1.1.1, Nat.eq_of_beq_eq_true hr.1.1.2, Nat.eq_of_beq_eq_true hr.1.2, Nat.eq_of_beq_eq_true hr.2] at hq
      exact va_eqR hq h1
  · have h1 := u (List.elem_iff.mpr (gv_Xw_m w hw))
    have h2 := List.all_eq_true.mp gv_Xw_mv w hw
    simp only [gv_mv, Bool.and_eq_true] at h2
    exact va_tabs h2.1.1 rfl h1
  · have h1 := List.all_eq_true.mp gv_thr_c x hx
    simp only [Bool.and_eq_true] at h1
    obtain ⟨a, c, cA, kA, q1, -⟩ := Cond.exactly_spec (args := args) (first := s) (o := none) (s := s) (idx := []) (v h1.1)
    exact ⟨a, vk_R.of (u h1.2) q1⟩
  · rw [gv_tx39] at hk
    exact (had k hk).2
theorem gv_ct_has : (List.range 13).all (fun a => gv_ctT.any (fun x => Nat.beq x.2.2 a)) = true := by decide +kernel
theorem gv_vaK (hts : ∀ w ∈ gv_Ts, w.before args s = true) (hAO : va_AO "GuestView$World" s) : ∃ (D : va_G) (ta : Nat → ClassId), va_K D gv_cl [(ta 100, .int), (ta 101, .byte), (ta 102, .long), (ta 103, .object "GuestView$World")] s := by
  have h0 : ∀ a : Nat, ∃ z : ClassId × (Nat → Nat), a < 13 → u_Kn s (gv_cr a).1 (gv_cr a).2.1 (gv_cr a).2.2 z.1 z.2 := by
    intro a
    by_cases ha : a < 13
    · obtain ⟨x, hx, he⟩ := List.any_eq_true.mp (List.all_eq_true.mp gv_ct_has a (List.mem_range.mpr ha))
      have he := Nat.eq_of_beq_eq_true he
      obtain ⟨cC, iS, h⟩ := u_known (n := (gv_cr a).2.2) hts (gv_cl_ws ha) (hts _ (gv_inT10 _ (List.mem_flatMap.mpr ⟨x, hx, by rw [he]; exact List.mem_cons_of_mem _ List.mem_cons_self⟩)))
      exact ⟨(cC, iS), fun _ => h⟩
    · exact ⟨(0, fun _ => 0), fun h => absurd h ha⟩
  obtain ⟨z, hz⟩ := Classical.axiomOfChoice h0
  have prim : ∀ ty : FieldType, Cond.arrayClass ty ∈ gv_Ts → ∃ c : ClassId, s.vm.findClass ("[" ++ ty.toString) = some c ∧ ArrOfT s c ty := by
    intro ty h
    obtain ⟨c, k, comp, h1, h2, h3⟩ := Cond.arrayClass_spec (hts _ h)
    exact ⟨c, h1, fun n zz => ⟨fun k h => (by cases h), k, h2, comp, h3⟩⟩
  obtain ⟨cI, i1, i2⟩ := prim .int (gv_inT16 _ (List.mem_append_left _ (List.mem_append_left _ (List.mem_cons_of_mem _ (List.mem_cons_of_mem _ (List.mem_cons_of_mem _ (List.mem_cons_of_mem _ List.mem_cons_self)))))))
  obtain ⟨cB, b1, b2⟩ := prim .byte (gv_inT16 _ (List.mem_append_left _ (List.mem_append_left _ (List.mem_cons_of_mem _ (List.mem_cons_of_mem _ (List.mem_cons_of_mem _ (List.mem_cons_of_mem _ (List.mem_cons_of_mem _ List.mem_cons_self))))))))
  obtain ⟨cJ, j1, j2⟩ := prim .long (gv_inT16 _ (List.mem_append_left _ (List.mem_append_left _ (List.mem_cons_of_mem _ (List.mem_cons_of_mem _ (List.mem_cons_of_mem _ (List.mem_cons_of_mem _ (List.mem_cons_of_mem _ (List.mem_cons_of_mem _ List.mem_cons_self)))))))))
  obtain ⟨comp, cW, kW, w1, w2, w3, w4, w5⟩ := Cond.arrayOver_spec hAO
  refine ⟨(fun a => (z a).1, fun a => (z a).2), fun k => match k with
    | 100 => cI
    | 101 => cB
    | 102 => cJ
    | _ => cW, fun c q hq => ?_, fun k q hq => ?_⟩
  · have hc : c < 13 := by
      have := (List.getElem?_eq_some_iff.mp hq).1
      exact this
    rw [gv_cl_at c hc] at hq
    cases hq
    exact hz c hc
  · match k, hq with
    | 0, hq => cases hq; exact ⟨i2, i1⟩
    | 1, hq => cases hq; exact ⟨b2, b1⟩
    | 2, hq => cases hq; exact ⟨j2, j1⟩
    | 3, hq => cases hq; exact ⟨fun N zz => ⟨(fun k h => by cases h), kW, w3, comp, w4⟩, kW, comp, w3, w4, w1, w5⟩
    | k + 4, hq => cases hq
end Entry
/-- where the walker begins -/
def gv_S0 : gv_S := ((0, fun _ => (999, 0), fun _ _ => none), (fun _ _ => 0, fun _ _ => 0), (0, 0, 0))
/-- WHAT IS LEFT: the walker comes to 1, for every script -/
def gv_goal : Prop := ∀ (L : Nat) (xs : Nat → Int32), L ≤ 3072 → ∃ (n : Nat) (S' : gv_S), gv_run gv_fkT gv_txT gv_meth (xs, L) n 1390 gv_law 0 (gv_enter [.retAddr 0] 7) [] gv_S0 = some (.inl (some (.int 1)), S') ∧ S'.2.2.2.1 ≤ 601024 ∧ S'.2.2.2.2 ≤ 7293034
theorem gv_drop {s t : State} {L : List Loc} {k n k' n' : Nat} (h : s.sameButNew t L k n) (hL : ∀ q ∈ L, s.heap.size ≤ q.base) (hk : k ≤ k') (hn : n ≤ n') : s.sameButNew t [] k' n' := by
  obtain ⟨h1, h2, h3, h4, h5, h6⟩ := h
  refine ⟨h1, h2, Nat.le_trans h3 (Nat.add_le_add_left hk _), h4, Nat.le_trans h5 hn, fun a c hc => ?_⟩
  obtain ⟨c', a1, a2, a3, a4⟩ := h6 a c hc
  refine ⟨c', a1, a2, a3, fun i _ => a4 i fun hm => ?_⟩
  exact absurd (hL _ hm) (Nat.not_le.mpr (Array.getElem?_eq_some_iff.mp hc).1)
set_option maxHeartbeats 4000000 in
set_option maxRecDepth 100000 in
theorem gv_start (H : gv_goal) {p : Program} {e : Env} {s : State} {m : MethodId} {below : List Frame} {meth : Method} {c : Code} (l : Launch) (hl : l.stackTraces = false) {b L : Nat} {xs : Nat → Int32} (hL : L ≤ 3072) (C0 : lw_At p s m meth c b L xs) (hTb : c.exceptionTable.toList = []) (hnm : meth.name = "law") :
    W p l e room_1 s m #[Value.ref b] below meth c s.heap [] 0 0 (lw_Z below #[Value.ref b] s) (entryFrame m ([Value.ref b] : List Value).toArray 7) := by
  obtain ⟨hx, hb, hr, hml, hown, hts, hX, hbl, hlk, hgv⟩ := C0
  have hfl : ∀ w ∈ gv_FL, w.before #[Value.ref b] s = true := flat_of_before _ hgv
  obtain ⟨ex, adV, hex, hE⟩ := gv_ext hfl hts hX hbl
  obtain ⟨D, ta, hK⟩ := gv_vaK (fun w hw => hts w (gv_Ts_in w hw)) hE.1.2.2.2.1
  obtain ⟨n, S', hrun, hc, hs⟩ := H L xs hL
  have cl := gv_sound (D := D) (ta := ta) gv_OK gv_Ts_good (fun U h => h.1) (fun s U h hz hk hW => gv_Ext_move s U h hz hk hW) (gv_lengths l (xs, L) s.heap.size ex adV) (gv_chars l (xs, L) s.heap.size ex adV) (gv_throws l hl (xs, L) s.heap.size ex adV) (gv_catches l (xs, L) s.heap.size ex adV) n 1390 gv_law 0 (gv_enter [.retAddr 0] 7) [] gv_S0 _ S' gvo_law hrun
  have h0 := cl p e room_1 s m #[Value.ref b] below meth c s.heap [] _ 0 0 0 ⟨hx, hb, hml, hown, fun w h => hts w (gv_Ts_in w h), hr, hlk, hnm⟩ hTb hE (Nat.le_refl _) ⟨hK, fun k q hq => (by cases hq), fun q _ => rfl, fun q => Or.inr (Or.inr rfl)⟩ va_S.rf (gv_entry (as := [.retAddr 0]) (n := 7) (by decide)) (Nat.le_refl _) (Nat.le_refl _) (fun _ => ⟨rfl, rfl⟩) (by decide) (by decide) (by show S'.2.2.2.1 - 0 ≤ 601024; omega) (by show S'.2.2.2.2 - 0 ≤ 7293034; omega)
  rw [lg_entry_eq]
  have hfr : ([Value.retAddr 0] : List Value).map (gv_cv s.heap.size ex) = [Value.ref b] := by
    show [Value.ref (ex 0)] = _
    rw [hex]
  rw [hfr] at h0
  intro T hT X
  obtain ⟨t, a1, o, b1, b2, b3⟩ := h0 T hT X
  refine ⟨t, a1, o, b1, b2, ?_⟩
  rcases b3 with ⟨⟨⟨w, hw, ho⟩, -⟩, L1, ⟨f1, f2, f3⟩, f4⟩ | ⟨q, -, E, ce, L1, ⟨⟨k, hk, -⟩, -⟩, -⟩
  · cases hw
    refine ⟨ho, ⟨_, ho⟩, f2, gv_drop f3 f4 ?_ ?_⟩
    · show S'.2.2.2.1 - 0 ≤ 601024; omega
    · show S'.2.2.2.2 - 0 ≤ 7293034; omega
  · cases hk
