section Step
variable {p : Program} {l : Launch} {e : Env} {R : Room} {s : State} {m : MethodId} {args : Array Value} {below : List Frame} {meth : Method} {c : Code}
variable {fk : List (List Nat)} {cl : List vw_C} {D : va_G} {ta : Nat → ClassId} {base : Nat} {ex : Nat → Nat} {P : Nat → gv_Mt} {Ts : List Cond} {M : gv_Mt} {tf : Nat → Nat → FieldType} {tx : List (List Int32)} {X : gv_X}
set_option maxHeartbeats 4000000 in
set_option maxRecDepth 100000 in
/-- arithmetic -/
theorem gv_step_arith (C : gv_Cx p s m args meth c M Ts) {pc : Nat} (ok : gv_okE cl fk tf P Ts M pc) {H : Heap} {locs : List Loc} {c0 s0 : Nat} {ls : Array Slot} {lo : gv_L} {st : List Value} {S : gv_S} (hW : gv_Wd fk cl D ta base S s H) (hS : va_S (fun q : Nat => base ≤ q) s.heap H locs) (hL : gv_Lo base ex ls M.2.2.1 lo) {act : gv_A} (h : gv_step fk tx X M pc lo st S = some act)
    (hi : ∀ i a b k, M.2.2.2.2.2 pc = (i, a, b, k) → match i with
      | .iadd | .isub | .imul | .iand | .ior | .ixor | .ishl | .ishr | .iushr | .idiv | .irem | .ineg | .ladd | .lmul | .ldiv | .lcmp | .i2l | .l2i | .i2b => True
      | _ => False) :
    gv_rule p l e R s m args below meth c fk cl D ta base ex P H locs c0 s0 ls M.2.2.1 lo S (F0 m pc ls (st.map (gv_cv base ex))) act := by
  obtain ⟨hx, hb, hml, hown, hts, hr, hlocks, hnm⟩ := C
  unfold gv_step at h
  unfold gv_okE at ok
  rcases hE : M.2.2.2.2.2 pc with ⟨i, a, b, k⟩
  have hi := hi i a b k hE
  rw [hE] at h ok
  cases i with
  | iadd =>
    obtain ⟨y, r1, rfl, g⟩ := gv_pi_some h
    obtain ⟨x, r, rfl, g1⟩ := gv_pi_some g
    obtain rfl := gv_go_some g1
    exact fun Q _ _ K => lv_iadd hx hb ok (K H locs ls hW hS hL)
  | isub =>
    obtain ⟨y, r1, rfl, g⟩ := gv_pi_some h
    obtain ⟨x, r, rfl, g1⟩ := gv_pi_some g
    obtain rfl := gv_go_some g1
    exact fun Q _ _ K => lv_isub hx hb ok (K H locs ls hW hS hL)
  | imul =>
    obtain ⟨y, r1, rfl, g⟩ := gv_pi_some h
    obtain ⟨x, r, rfl, g1⟩ := gv_pi_some g
    obtain rfl := gv_go_some g1
    exact fun Q _ _ K => lv_imul hx hb ok (K H locs ls hW hS hL)
  | iand =>
    obtain ⟨y, r1, rfl, g⟩ := gv_pi_some h
    obtain ⟨x, r, rfl, g1⟩ := gv_pi_some g
    obtain rfl := gv_go_some g1
    exact fun Q _ _ K => lv_iand hx hb ok (K H locs ls hW hS hL)
  | ior =>
    obtain ⟨y, r1, rfl, g⟩ := gv_pi_some h
    obtain ⟨x, r, rfl, g1⟩ := gv_pi_some g
    obtain rfl := gv_go_some g1
    exact fun Q _ _ K => lv_ior hx hb ok (K H locs ls hW hS hL)
  | ixor =>
    obtain ⟨y, r1, rfl, g⟩ := gv_pi_some h
    obtain ⟨x, r, rfl, g1⟩ := gv_pi_some g
    obtain rfl := gv_go_some g1
    exact fun Q _ _ K => lv_ixor hx hb ok (K H locs ls hW hS hL)
  | ishl =>
    obtain ⟨y, r1, rfl, g⟩ := gv_pi_some h
    obtain ⟨x, r, rfl, g1⟩ := gv_pi_some g
    obtain rfl := gv_go_some g1
    exact fun Q _ _ K => lv_ishl hx hb ok (K H locs ls hW hS hL)
  | ishr =>
    obtain ⟨y, r1, rfl, g⟩ := gv_pi_some h
    obtain ⟨x, r, rfl, g1⟩ := gv_pi_some g
    obtain rfl := gv_go_some g1
    exact fun Q _ _ K => lv_ishr hx hb ok (K H locs ls hW hS hL)
  | iushr =>
    obtain ⟨y, r1, rfl, g⟩ := gv_pi_some h
    obtain ⟨x, r, rfl, g1⟩ := gv_pi_some g
    obtain rfl := gv_go_some g1
    exact fun Q _ _ K => lv_iushr hx hb ok rfl (K H locs ls hW hS hL)
  | idiv =>
    obtain ⟨y, r1, rfl, g⟩ := gv_pi_some h
    obtain ⟨x, r, rfl, g1⟩ := gv_pi_some g
    obtain ⟨g2, g3⟩ := gv_gd_some g1
    obtain rfl := gv_go_some g3
    exact fun Q _ _ K => lv_idiv hx hb ok (of_decide_eq_true g2) (K H locs ls hW hS hL)
  | irem =>
    obtain ⟨y, r1, rfl, g⟩ := gv_pi_some h
    obtain ⟨x, r, rfl, g1⟩ := gv_pi_some g
    obtain ⟨g2, g3⟩ := gv_gd_some g1
    obtain rfl := gv_go_some g3
    exact fun Q _ _ K => lv_irem hx hb ok (of_decide_eq_true g2) (K H locs ls hW hS hL)
  | ineg =>
    obtain ⟨x, r, rfl, g⟩ := gv_pi_some h
    obtain rfl := gv_go_some g
    exact fun Q _ _ K => lv_ineg hx hb ok (K H locs ls hW hS hL)
  | ladd =>
    obtain ⟨y, r1, rfl, g⟩ := gv_pl_some h
    obtain ⟨x, r, rfl, g1⟩ := gv_pl_some g
    obtain rfl := gv_go_some g1
    exact fun Q _ _ K => lv_ladd hx hb ok (K H locs ls hW hS hL)
  | lmul =>
    obtain ⟨y, r1, rfl, g⟩ := gv_pl_some h
    obtain ⟨x, r, rfl, g1⟩ := gv_pl_some g
    obtain rfl := gv_go_some g1
    exact fun Q _ _ K => lv_lmul hx hb ok (K H locs ls hW hS hL)
  | ldiv =>
    obtain ⟨y, r1, rfl, g⟩ := gv_pl_some h
    obtain ⟨x, r, rfl, g1⟩ := gv_pl_some g
    obtain ⟨g2, g3⟩ := gv_gd_some g1
    obtain rfl := gv_go_some g3
    exact fun Q _ _ K => lv_ldiv hx hb ok (of_decide_eq_true g2) (K H locs ls hW hS hL)
  | lcmp =>
    obtain ⟨y, r1, rfl, g⟩ := gv_pl_some h
    obtain ⟨x, r, rfl, g1⟩ := gv_pl_some g
    obtain rfl := gv_go_some g1
    exact fun Q _ _ K => W.lcmp hx hb ok (K H locs ls hW hS hL)
  | i2l =>
    obtain ⟨x, r, rfl, g⟩ := gv_pi_some h
    obtain rfl := gv_go_some g
    exact fun Q _ _ K => lv_i2l hx hb ok rfl (K H locs ls hW hS hL)
  | l2i =>
    obtain ⟨x, r, rfl, g⟩ := gv_pl_some h
    obtain rfl := gv_go_some g
    exact fun Q _ _ K => lv_l2i hx hb ok rfl (K H locs ls hW hS hL)
  | i2b =>
    obtain ⟨x, r, rfl, g⟩ := gv_pi_some h
    obtain rfl := gv_go_some g
    exact fun Q _ _ K => lv_i2b hx hb ok rfl (K H locs ls hW hS hL)
  | _ => exact hi.elim
set_option maxHeartbeats 4000000 in
set_option maxRecDepth 100000 in
/-- stack, jumps, returns -/
theorem gv_step_flow (C : gv_Cx p s m args meth c M Ts) {pc : Nat} (ok : gv_okE cl fk tf P Ts M pc) {H : Heap} {locs : List Loc} {c0 s0 : Nat} {ls : Array Slot} {lo : gv_L} {st : List Value} {S : gv_S} (hW : gv_Wd fk cl D ta base S s H) (hS : va_S (fun q : Nat => base ≤ q) s.heap H locs) (hL : gv_Lo base ex ls M.2.2.1 lo) {act : gv_A} (h : gv_step fk tx X M pc lo st S = some act) (hlr : ∀ a b k, M.2.2.2.2.2 pc = (.lreturn, a, b, k) → M.2.2.2.1 = some .long) (hvr : ∀ a b k, M.2.2.2.2.2 pc = (.return_, a, b, k) → M.2.2.2.1 = none)
    (hi : ∀ i a b k, M.2.2.2.2.2 pc = (i, a, b, k) → match i with
      | .dup | .pop | .dup2 | .goto _ | .ifCond _ _ | .if_icmp _ _ | .tableswitch _ _ _ _ | .lookupswitch _ _ | .ireturn | .lreturn | .return_ => True
      | _ => False) :
    gv_rule p l e R s m args below meth c fk cl D ta base ex P H locs c0 s0 ls M.2.2.1 lo S (F0 m pc ls (st.map (gv_cv base ex))) act := by
  obtain ⟨hx, hb, hml, hown, hts, hr, hlocks, hnm⟩ := C
  unfold gv_step at h
  unfold gv_okE at ok
  rcases hE : M.2.2.2.2.2 pc with ⟨i, a, b, k⟩
  have hi := hi i a b k hE
  rw [hE] at h ok
  cases i with
  | dup =>
    match st, h with
    | v :: r, h =>
      obtain ⟨g2, g3⟩ := gv_gd_some h
      obtain rfl := gv_go_some g3
      exact fun Q _ _ K => lv_dup hx hb ok (by rw [gv_cv_cat]; exact Nat.eq_of_beq_eq_true g2) (K H locs ls hW hS hL)
  | pop =>
    match st, h with
    | v :: r, h =>
      obtain ⟨g2, g3⟩ := gv_gd_some h
      obtain rfl := gv_go_some g3
      exact fun Q _ _ K => lv_pop hx hb ok (by rw [gv_cv_cat]; exact Nat.eq_of_beq_eq_true g2) (K H locs ls hW hS hL)
  | dup2 =>
    match st, h with
    | v :: w :: r, h =>
      obtain ⟨g2, g3⟩ := gv_gd_some h
      obtain rfl := gv_go_some g3
      simp only [Bool.and_eq_true] at g2
      exact fun Q _ _ K => lv_dup2_11 hx hb ok (by rw [gv_cv_cat]; exact Nat.eq_of_beq_eq_true g2.1) (by rw [gv_cv_cat]; exact Nat.eq_of_beq_eq_true g2.2) (K H locs ls hW hS hL)
  | goto o =>
    obtain rfl := gv_go_some h
    exact fun Q _ _ K => lv_goto hx hb ok.1 ok.2 (K H locs ls hW hS hL)
  | ifCond cd o =>
    obtain ⟨x, r, rfl, g⟩ := gv_pi_some h
    obtain rfl := (Option.some.inj g).symm
    cases cd with
    | eq => exact fun Q k0 n0 K1 K2 => lv_if_eq hx hb ok.1 ok.2 (fun z => K1 (decide_eq_true z)) (fun z => K2 (decide_eq_false z))
    | ne => exact fun Q k0 n0 K1 K2 => lv_if_ne hx hb ok.1 ok.2 (fun z => K1 (decide_eq_true z)) (fun z => K2 (decide_eq_false (fun y => y z)))
    | lt => exact fun Q k0 n0 K1 K2 => lv_if_lt hx hb ok.1 ok.2 (fun z => K1 (decide_eq_true z)) (fun z => K2 (decide_eq_false z))
    | ge => exact fun Q k0 n0 K1 K2 => lv_if_ge hx hb ok.1 ok.2 (fun z => K1 (decide_eq_true z)) (fun z => K2 (decide_eq_false z))
    | gt => exact fun Q k0 n0 K1 K2 => lv_if_gt hx hb ok.1 ok.2 (fun z => K1 (decide_eq_true z)) (fun z => K2 (decide_eq_false z))
    | le => exact fun Q k0 n0 K1 K2 => lv_if_le hx hb ok.1 ok.2 (fun z => K1 (decide_eq_true z)) (fun z => K2 (decide_eq_false z))
  | if_icmp cd o =>
    obtain ⟨y, r1, rfl, g⟩ := gv_pi_some h
    obtain ⟨x, r, rfl, g1⟩ := gv_pi_some g
    obtain rfl := (Option.some.inj g1).symm
    cases cd with
    | eq => exact fun Q k0 n0 K1 K2 => lv_icmp_eq hx hb ok.1 ok.2 (fun z => K1 (decide_eq_true z)) (fun z => K2 (decide_eq_false z))
    | ne => exact fun Q k0 n0 K1 K2 => lv_icmp_ne hx hb ok.1 ok.2 (fun z => K1 (decide_eq_true z)) (fun z => K2 (decide_eq_false (fun y => y z)))
    | lt => exact fun Q k0 n0 K1 K2 => lv_icmp_lt hx hb ok.1 ok.2 (fun z => K1 (decide_eq_true z)) (fun z => K2 (decide_eq_false z))
    | ge => exact fun Q k0 n0 K1 K2 => lv_icmp_ge hx hb ok.1 ok.2 (fun z => K1 (decide_eq_true z)) (fun z => K2 (decide_eq_false z))
    | gt => exact fun Q k0 n0 K1 K2 => lv_icmp_gt hx hb ok.1 ok.2 (fun z => K1 (decide_eq_true z)) (fun z => K2 (decide_eq_false z))
    | le => exact fun Q k0 n0 K1 K2 => lv_icmp_le hx hb ok.1 ok.2 (fun z => K1 (decide_eq_true z)) (fun z => K2 (decide_eq_false z))
  | tableswitch d lw hg os =>
    obtain ⟨x, r, rfl, g⟩ := gv_pi_some h
    cases hb2 : decide (x.toInt < lw) || decide (hg < x.toInt) with
    | true =>
      rw [hb2] at g
      obtain ⟨g2, g3⟩ := gv_gd_some g
      obtain rfl := gv_go_some g3
      simp only [Bool.or_eq_true, decide_eq_true_eq] at hb2
      exact fun Q _ _ K => lv_tableOut hx hb ok hb2 (Int.toNat_of_nonneg (of_decide_eq_true g2)).symm (K H locs ls hW hS hL)
    | false =>
      rw [hb2] at g
      simp only [Bool.or_eq_false_iff, decide_eq_false_iff_not] at hb2
      cases ho : os[(x.toInt - lw).toNat]? with
      | none => simp only [ho] at g; cases g
      | some o =>
        simp only [ho] at g
        obtain ⟨g2, g3⟩ := gv_gd_some g
        obtain rfl := gv_go_some g3
        exact fun Q _ _ K => lv_tableIn hx hb ok hb2.1 hb2.2 ho (Int.toNat_of_nonneg (of_decide_eq_true g2)).symm (K H locs ls hW hS hL)
  | lookupswitch d ps =>
    obtain ⟨x, r, rfl, g⟩ := gv_pi_some h
    obtain ⟨g2, g3⟩ := gv_gd_some g
    obtain rfl := gv_go_some g3
    exact fun Q _ _ K => lv_lookup hx hb ok.1 ok.2 rfl (Int.toNat_of_nonneg (of_decide_eq_true g2)).symm (K H locs ls hW hS hL)
  | ireturn =>
    unfold gv_iret at h
    match st, h with
    | [.int x], h =>
      dsimp only at h
      cases hrt : M.2.2.2.1 with
      | none => rw [hrt] at h; cases h
      | some ty =>
        rw [hrt] at h hr
        cases ty with
        | int =>
          obtain rfl := (Option.some.inj h).symm
          exact fun k0 n0 Qc free hq hf => W.iret hx hb hr hq hf ok hlocks
        | boolean =>
          obtain ⟨g2, g3⟩ := gv_gd_some h
          obtain rfl := (Option.some.inj g3).symm
          have hz : narrow .boolean (.int x) = .int x := by
            simp only [Bool.or_eq_true, decide_eq_true_eq] at g2
            rcases g2 with rfl | rfl <;> rfl
          exact fun k0 n0 Qc free hq hf => W.zret hx hb hr hz hq hf ok hlocks
        | _ => cases h
  | lreturn =>
    match st, h with
    | [.long x], h =>
      obtain rfl := (Option.some.inj h).symm
      have hr2 : meth.sig.returnType = some .long := hr.trans (hlr a b k hE)
      exact fun k0 n0 Qc free hq hf => W.lret hx hb hr2 hq hf ok hlocks
  | return_ =>
    match st, h with
    | [], h =>
      obtain rfl := (Option.some.inj h).symm
      have hr2 : meth.sig.returnType = none := hr.trans (hvr a b k hE)
      exact fun k0 n0 Qc free hq hf => W.vret hx hb hr2 hq hf ok hlocks
  | _ => exact hi.elim
end Step
