/-! all steps at once; the entry; a call's end -/
/-- 'throw new E("text")' stands there -/
def gv_okT (thrs : List (String × Nat × Nat × Nat × Nat × String)) (M : gv_Mt) (pc i a : Nat) : Prop := M.2.2.2.2.1 = [] ∧ ∃ is ic text, (gv_own M, i, is, ic, a - 300, text) ∈ thrs ∧ decode M.2.1 pc = .ok (.new i, 3) ∧ decode M.2.1 (pc + 3) = .ok (.dup, 1) ∧
  ((decode M.2.1 (pc + 4) = .ok (.ldc is, 2) ∧ decode M.2.1 (pc + 6) = .ok (.invokespecial ic, 3) ∧ decode M.2.1 (pc + 9) = .ok (.athrow, 1)) ∨ (decode M.2.1 (pc + 4) = .ok (.ldc_w is, 3) ∧ decode M.2.1 (pc + 7) = .ok (.invokespecial ic, 3) ∧ decode M.2.1 (pc + 10) = .ok (.athrow, 1)))
/-- String.length(), String.charAt(int) -/
def gv_sm (a : Nat) : MethodName := bif Nat.beq a 990001 then ⟨"java/lang/String", "length", "()I"⟩ else ⟨"java/lang/String", "charAt", "(I)C"⟩
def gv_okL (cl : List vw_C) (fk : List (List Nat)) (tf : Nat → Nat → FieldType) (P : Nat → gv_Mt) (Ts : List Cond) (nests : List (String × Nat × MethodName × String)) (strs : List (String × Nat × String × Nat)) (thrs : List (String × Nat × Nat × Nat × Nat × String)) (hnds : List (String × Nat × Nat)) (M : gv_Mt) : Prop :=
  (∀ pc, gv_okE cl fk tf P Ts M pc) ∧ (∀ pc a b k, M.2.2.2.2.2 pc = (.lreturn, a, b, k) → M.2.2.2.1 = some .long) ∧ (∀ pc a b k, M.2.2.2.2.2 pc = (.return_, a, b, k) → M.2.2.2.1 = none) ∧
  (∀ pc i a b k, M.2.2.2.2.2 pc = (.new i, a, b, k) → a < 300 → a < 50) ∧
  (∀ pc i a b k, M.2.2.2.2.2 pc = (.invokespecial i, a, b, k) → a < 990000 → Cond.methodLink (gv_own M) i (P a).1 ∈ Ts ∨ ∃ host, (gv_own M, i, (P a).1, host) ∈ nests) ∧
  (∀ pc i a b k, (M.2.2.2.2.2 pc = (.ldc i, a, b, k) ∨ M.2.2.2.2.2 pc = (.ldc_w i, a, b, k)) → ¬ b = 0 → ∃ text, (gv_own M, i, text, a) ∈ strs) ∧
  plainFor M.1 = true ∧ M.2.2.1 ≤ 41 ∧ (∀ pc i a b k, M.2.2.2.2.2 pc = (.new i, a, b, k) → 300 ≤ a → gv_okT thrs M pc i a) ∧ (∀ r ∈ M.2.2.2.2.1, (gv_own M, r.2.2.2.1, r.2.2.2.2) ∈ hnds) ∧ ∀ pc i a b k, M.2.2.2.2.2 pc = (.invokevirtual i, a, b, k) → 990000 ≤ a → Cond.methodLink (gv_own M) i (gv_sm a) ∈ Ts
def gv_okM (cl : List vw_C) (fk : List (List Nat)) (tf : Nat → Nat → FieldType) (P : Nat → gv_Mt) (Ts : List Cond) (nests : List (String × Nat × MethodName × String)) (strs : List (String × Nat × String × Nat)) (thrs : List (String × Nat × Nat × Nat × Nat × String)) (hnds : List (String × Nat × Nat)) (M : gv_Mt) : Prop :=
  gv_okL cl fk tf P Ts nests strs thrs hnds M ∧ (M.2.2.2.2.1 = [] → Cond.code M.1 M.2.1 M.2.2.1 M.2.2.2.1 ∈ Ts) ∧ (M.2.2.2.2.1 ≠ [] → Cond.codeWith M.1 M.2.1 M.2.2.1 M.2.2.2.1 (gv_h4 M) ∈ Ts)
/-- what was there before, as a method's start finds it -/
def gv_Ex1 (X : gv_X) (base : Nat) (ex : Nat → Nat) (nests : List (String × Nat × MethodName × String)) (strs : List (String × Nat × String × Nat)) (U : State) : Prop :=
  va_X (ex 0) X.2 X.1 U U.heap ∧ ex 0 < U.heap.size ∧ ex 0 < base ∧ va_AO "GuestView$World" U ∧ (∀ o i y h, (o, i, y, h) ∈ nests → va_Nw (.methodLinkNest o i y h) U) ∧ ∀ o i t a, (o, i, t, a) ∈ strs → vk_R o i t (ex (a + 1)) U
/-- String.length() of a constant, String.charAt(int) -/
def gv_rSL (l : Launch) (Ts : List Cond) (tx : List (List Int32)) (base : Nat) (ex : Nat → Nat) (Ext : State → Prop) : Prop := ∀ (p : Program) (e : Env) (R : Room) (s : State) (m : MethodId) (args : Array Value) (below : List Frame) (meth : Method) (c : Code) (M : gv_Mt) (H : Heap) (locs : List Loc) (ls : Array Slot) (pc i q : Nat) (r : List Value), gv_Cx p s m args meth c M Ts → Ext s → va_S (fun q : Nat => base ≤ q) s.heap H locs → ls.size = M.2.2.1 → 8 ≤ R.frames → 200 ≤ R.locals → decode M.2.1 pc = .ok (.invokevirtual i, 3) → Cond.methodLink (gv_own M) i (gv_sm 990001) ∈ Ts → 1 ≤ q → q - 1 < tx.length → (r.map fun v => v.category).sum ≤ 8 → ∀ (Q : State → Prop) (k0 n0 : Nat), k0 ≤ R.cells → n0 ≤ R.slots → W p l e R s m args below meth c H locs k0 n0 Q (F0 m (pc + 3) ls (.int (Int32.ofNat (gv_str tx q).length) :: r)) → W p l e R s m args below meth c H locs k0 n0 Q (F0 m pc ls (.ref (ex q) :: r))
def gv_rSC (l : Launch) (Ts : List Cond) (tx : List (List Int32)) (base : Nat) (ex : Nat → Nat) (Ext : State → Prop) : Prop := ∀ (p : Program) (e : Env) (R : Room) (s : State) (m : MethodId) (args : Array Value) (below : List Frame) (meth : Method) (c : Code) (M : gv_Mt) (H : Heap) (locs : List Loc) (ls : Array Slot) (pc i q : Nat) (j : Int32) (r : List Value), gv_Cx p s m args meth c M Ts → Ext s → va_S (fun q : Nat => base ≤ q) s.heap H locs → ls.size = M.2.2.1 → 8 ≤ R.frames → 200 ≤ R.locals → decode M.2.1 pc = .ok (.invokevirtual i, 3) → Cond.methodLink (gv_own M) i (gv_sm 990002) ∈ Ts → 1 ≤ q → q - 1 < tx.length → vp_in j (gv_str tx q).length → (r.map fun v => v.category).sum ≤ 8 → ∀ (Q : State → Prop) (k0 n0 : Nat), k0 ≤ R.cells → n0 ≤ R.slots → W p l e R s m args below meth c H locs k0 n0 Q (F0 m (pc + 3) ls (.int ((gv_str tx q).getD j.toNatClampNeg 0) :: r)) → W p l e R s m args below meth c H locs k0 n0 Q (F0 m pc ls (.int j :: .ref (ex q) :: r))
section Step
variable {p : Program} {l : Launch} {e : Env} {R : Room} {s : State} {m : MethodId} {args : Array Value} {below : List Frame} {meth : Method} {c : Code}
variable {fk : List (List Nat)} {cl : List vw_C} {D : va_G} {ta : Nat → ClassId} {base : Nat} {ex : Nat → Nat} {P : Nat → gv_Mt} {Ts : List Cond} {M : gv_Mt} {tf : Nat → Nat → FieldType} {tx : List (List Int32)} {X : gv_X}
variable {nests : List (String × Nat × MethodName × String)} {strs : List (String × Nat × String × Nat)} {thrs : List (String × Nat × Nat × Nat × Nat × String)} {hnds : List (String × Nat × Nat)} {Ext : State → Prop}
set_option maxHeartbeats 4000000 in
set_option maxRecDepth 100000 in
theorem gv_step_ok (hM : gv_okL cl fk tf P Ts nests strs thrs hnds M) (hE1 : ∀ U, Ext U → gv_Ex1 X base ex nests strs U) (rSL : gv_rSL l Ts tx base ex Ext) (rSC : gv_rSC l Ts tx base ex Ext) (C : gv_Cx p s m args meth c M Ts) (hE : Ext s) {pc : Nat} {H : Heap} {locs : List Loc} {c0 s0 : Nat} {ls : Array Slot} {lo : gv_L} {st : List Value} {S : gv_S} (hW : gv_Wd fk cl D ta base S s H) (hS : va_S (fun q : Nat => base ≤ q) s.heap H locs) (hL : gv_Lo base ex ls M.2.2.1 lo)
    (hc0 : c0 ≤ S.2.2.2.1) (hs0 : s0 ≤ S.2.2.2.2) (hsz : S.2.2.1 = 0 → H.size = base + S.1.1) (hR8 : 8 ≤ R.frames) (hR2 : 200 ≤ R.locals) {act : gv_A} (h : gv_step fk tx X M pc lo st S = some act) :
    gv_rule p l e R s m args below meth c fk cl D ta base ex P H locs c0 s0 ls M.2.2.1 lo S (F0 m pc ls (st.map (gv_cv base ex))) act := by
  obtain ⟨hok, hlr, hvr, hnew, hspec, hstr, -, -, -, -, hsm⟩ := hM
  obtain ⟨e1, e2, e3, e4, e5, e6⟩ := hE1 s hE
  rcases hEq : M.2.2.2.2.2 pc with ⟨i, a, b, k⟩
  have sp : ∀ {A : Instr → Prop}, A i → ∀ i' a' b' k', M.2.2.2.2.2 pc = (i', a', b', k') → A i' := by
    intro A hA i' a' b' k' hz
    rw [hEq] at hz
    cases hz
    exact hA
  have ok0 := hok pc
  by_cases g1 : (match i with
      | .iconst _ | .bipush _ | .sipush _ | .lconst _ | .iload_n _ | .iload _ | .lload_n _ | .lload _ | .aload_n _ | .aload _ | .istore_n _ | .istore _ | .lstore_n _ | .lstore _ | .astore_n _ | .astore _ | .iinc _ _ => True
      | _ => False)
  · exact gv_step_plain C ok0 hW hS hL h (sp (A := fun i => match i with
      | .iconst _ | .bipush _ | .sipush _ | .lconst _ | .iload_n _ | .iload _ | .lload_n _ | .lload _ | .aload_n _ | .aload _ | .istore_n _ | .istore _ | .lstore_n _ | .lstore _ | .astore_n _ | .astore _ | .iinc _ _ => True
      | _ => False) g1)
  by_cases g2 : (match i with
      | .iadd | .isub | .imul | .iand | .ior | .ixor | .ishl | .ishr | .iushr | .idiv | .irem | .ineg | .ladd | .lmul | .ldiv | .lcmp | .i2l | .l2i | .i2b => True
      | _ => False)
  · exact gv_step_arith C ok0 hW hS hL h (sp (A := fun i => match i with
      | .iadd | .isub | .imul | .iand | .ior | .ixor | .ishl | .ishr | .iushr | .idiv | .irem | .ineg | .ladd | .lmul | .ldiv | .lcmp | .i2l | .l2i | .i2b => True
      | _ => False) g2)
  by_cases g3 : (match i with
      | .dup | .pop | .dup2 | .goto _ | .ifCond _ _ | .if_icmp _ _ | .tableswitch _ _ _ _ | .lookupswitch _ _ | .ireturn | .lreturn | .return_ => True
      | _ => False)
  · exact gv_step_flow C ok0 hW hS hL h (hlr pc) (hvr pc) (sp (A := fun i => match i with
      | .dup | .pop | .dup2 | .goto _ | .ifCond _ _ | .if_icmp _ _ | .tableswitch _ _ _ _ | .lookupswitch _ _ | .ireturn | .lreturn | .return_ => True
      | _ => False) g3)
  by_cases g4 : (match i with
      | .getfield _ | .putfield _ => True
      | _ => False)
  · exact gv_step_fields C ok0 hW hS hL h (sp (A := fun i => match i with
      | .getfield _ | .putfield _ => True
      | _ => False) g4)
  by_cases g5 : (match i with
      | .iaload | .baload | .laload | .aaload | .iastore | .bastore | .lastore | .aastore | .arraylength => True
      | _ => False)
  · exact gv_step_arrays C ok0 hW hS hL h e1 e2 (Nat.not_le.mpr e3) (sp (A := fun i => match i with
      | .iaload | .baload | .laload | .aaload | .iastore | .bastore | .lastore | .aastore | .arraylength => True
      | _ => False) g5)
  by_cases g6 : (match i with
      | .ldc _ | .ldc_w _ | .ldc2_w _ => True
      | _ => False)
  · exact gv_step_ldc C ok0 hW hS hL h (fun i a b k hz hb => by
      obtain ⟨tx, ht⟩ := hstr pc i a b k (Or.inl hz) hb
      exact ⟨tx, e6 _ _ _ _ ht⟩) (fun i a b k hz hb => by
      obtain ⟨tx, ht⟩ := hstr pc i a b k (Or.inr hz) hb
      exact ⟨tx, e6 _ _ _ _ ht⟩) (sp (A := fun i => match i with
      | .ldc _ | .ldc_w _ | .ldc2_w _ => True
      | _ => False) g6)
  by_cases g7 : (match i with
      | .newarray _ | .anewarray _ | .new _ => True
      | _ => False)
  · exact gv_step_new C ok0 hW hS hL h hc0 hs0 hsz e4 (hnew pc) (sp (A := fun i => match i with
      | .newarray _ | .anewarray _ | .new _ => True
      | _ => False) g7)
  by_cases g8 : (match i with
      | .invokevirtual _ | .invokespecial _ | .invokestatic _ => True
      | _ => False)
  · refine gv_step_calls C ok0 hW hS hL h hR8 hR2 (fun i a b k hz ha => ?_) (fun i b k q r hz => ?_) (fun i a b k q j r hz => ?_) (sp (A := fun i => match i with
      | .invokevirtual _ | .invokespecial _ | .invokestatic _ => True
      | _ => False) g8)
    · rcases hspec pc i a b k hz ha with h1 | ⟨host, h1⟩
      · exact Or.inl (C.2.2.2.2.1 _ h1)
      · exact Or.inr ⟨host, va_Nw.use rfl (e5 _ _ _ _ h1)⟩
    · have hd : decode M.2.1 pc = .ok (.invokevirtual i, 3) := by
        unfold gv_okE at ok0
        rw [hz] at ok0
        exact ok0.1
      exact rSL p e R s m args below meth c M H locs ls pc i q r C hE hS hL.2.1 hR8 hR2 hd (hsm pc i _ b k hz (by omega))
    · have hd : decode M.2.1 pc = .ok (.invokevirtual i, 3) := by
        unfold gv_okE at ok0
        rw [hz] at ok0
        exact ok0.1
      intro ha hne
      have h1 := hsm pc i a b k hz ha
      have e1 : gv_sm a = gv_sm 990002 := by
        unfold gv_sm
        rw [show Nat.beq a 990001 = false from by cases hq : Nat.beq a 990001; rfl; exact (hne (Nat.eq_of_beq_eq_true hq)).elim]
        rfl
      rw [e1] at h1
      exact rSC p e R s m args below meth c M H locs ls pc i q j r C hE hS hL.2.1 hR8 hR2 hd h1
  · exfalso
    unfold gv_step at h
    rw [hEq] at h
    cases i <;> first | exact g1 trivial | exact g2 trivial | exact g3 trivial | exact g4 trivial | exact g5 trivial | exact g6 trivial | exact g7 trivial | exact g8 trivial | cases h
end Step
