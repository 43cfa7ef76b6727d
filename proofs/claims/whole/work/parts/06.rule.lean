/-! a step of the walker is a step of the machine -/
/-- a method's handlers as the tables have them -/
def gv_h4 (M : gv_Mt) : List (Nat × Nat × Nat × Nat) := M.2.2.2.2.1.map fun x => (x.1, x.2.1, x.2.2.1, x.2.2.2.1)
/-- what a method's body knows -/
def gv_Cx (p : Program) (s : State) (m : MethodId) (args : Array Value) (meth : Method) (c : Code) (M : gv_Mt) (Ts : List Cond) : Prop :=
  p.tables.exec = Jvm.exec ∧ c.code = M.2.1 ∧ c.maxLocals = M.2.2.1 ∧ s.vm.findClass (gv_own M) = some m.cls ∧ (∀ w ∈ Ts, w.before args s = true) ∧ meth.sig.returnType = M.2.2.2.1 ∧ meth.locks = false ∧ meth.name = M.1.name
section Rule
variable (p : Program) (l : Launch) (e : Env) (R : Room) (s : State) (m : MethodId) (args : Array Value) (below : List Frame) (meth : Method) (c : Code)
variable (fk : List (List Nat)) (cl : List vw_C) (D : va_G) (ta : Nat → ClassId) (base : Nat) (ex : Nat → Nat) (P : Nat → gv_Mt)
def gv_rule (H : Heap) (locs : List Loc) (c0 s0 : Nat) (ls : Array Slot) (nL : Nat) (lo : gv_L) (S : gv_S) (g : JFrame) : gv_A → Prop
  | .inl (pc', lo', st', S') => ∀ Q : State → Prop, S'.2.2.2.1 - c0 ≤ R.cells → S'.2.2.2.2 - s0 ≤ R.slots →
      (∀ (H' : Heap) (locs' : List Loc) (ls' : Array Slot), gv_Wd fk cl D ta base S' s H' → va_S (fun q : Nat => base ≤ q) s.heap H' locs' → gv_Lo base ex ls' nL lo' → W p l e R s m args below meth c H' locs' (S'.2.2.2.1 - c0) (S'.2.2.2.2 - s0) Q (F0 m pc' ls' (st'.map (gv_cv base ex)))) →
      W p l e R s m args below meth c H locs (S.2.2.2.1 - c0) (S.2.2.2.2 - s0) Q g
  | .inr (.inl (b, t, f, st')) => ∀ (Q : State → Prop) (k n : Nat), (b = true → W p l e R s m args below meth c H locs k n Q (F0 m t ls (st'.map (gv_cv base ex)))) → (b = false → W p l e R s m args below meth c H locs k n Q (F0 m f ls (st'.map (gv_cv base ex)))) → W p l e R s m args below meth c H locs k n Q g
  | .inr (.inr (.inl (k, vf, as, rest))) => (∀ (ws' : List Cond) (rm : Room) (mc ms k0 n0 : Nat) (Pc : Array Value → State → Prop) (Qc : Array Value → State → Outcome → State → Prop) (free : Addr → Prop), (P k).2.2.2.2.1 = [] → Met l (P k).1 (Cond.code (P k).1 (P k).2.1 (P k).2.2.1 (P k).2.2.2.1 :: ws') rm Pc Qc mc ms free → rm.cells = mc → rm.slots = ms → rm.frames + 1 ≤ R.frames → 8 + ((P k).2.2.1 + 11) + rm.locals ≤ R.locals →
        (∀ w ∈ Cond.code (P k).1 (P k).2.1 (P k).2.2.1 (P k).2.2.2.1 :: ws', ∀ (a' : Array Value) (U : State), s.WarmedH U.vm → w.before a' U = true) → FrameBlind Pc → (∀ U : State, U.heap = H → s.WarmedH U.vm → Pc (as.map (gv_cv base ex)).toArray U) → k0 + mc ≤ R.cells ∧ n0 + ms ≤ R.slots →
        va_Run p l e R s m args below meth c H locs k0 n0 mc ms g (rest.map (gv_cv base ex)) (Qc (as.map (gv_cv base ex)).toArray) free) ∧
      (vf = true → ∀ (ws' : List Cond) (rm : Room) (mc ms k0 n0 : Nat) (Pc : Array Value → State → Prop) (Qc : Array Value → State → Outcome → State → Prop) (XC : String → State → State → Prop) (free : Addr → Prop), (P k).2.2.2.2.1 = [] → vx_Met l (P k).1 (Cond.code (P k).1 (P k).2.1 (P k).2.2.1 (P k).2.2.2.1 :: ws') rm Pc Qc XC mc ms free → rm.cells = mc → rm.slots = ms → rm.frames + 1 ≤ R.frames → 8 + ((P k).2.2.1 + 11) + rm.locals ≤ R.locals →
        (∀ w ∈ Cond.code (P k).1 (P k).2.1 (P k).2.2.1 (P k).2.2.2.1 :: ws', ∀ (a' : Array Value) (U : State), s.WarmedH U.vm → w.before a' U = true) → FrameBlind Pc → (∀ U : State, U.heap = H → s.WarmedH U.vm → Pc (as.map (gv_cv base ex)).toArray U) → k0 + mc ≤ R.cells ∧ n0 + ms ≤ R.slots →
        vx_Run p l e R s m args below meth c H locs k0 n0 mc ms g (rest.map (gv_cv base ex)) (Qc (as.map (gv_cv base ex)).toArray) XC free) ∧
      (∀ (ws' : List Cond) (rm : Room) (mc ms k0 n0 : Nat) (Pc : Array Value → State → Prop) (Qc : Array Value → State → Outcome → State → Prop) (free : Addr → Prop), (P k).2.2.2.2.1 ≠ [] → Met l (P k).1 (Cond.codeWith (P k).1 (P k).2.1 (P k).2.2.1 (P k).2.2.2.1 (gv_h4 (P k)) :: ws') rm Pc Qc mc ms free → rm.cells = mc → rm.slots = ms → rm.frames + 1 ≤ R.frames → 8 + ((P k).2.2.1 + 11) + rm.locals ≤ R.locals →
        (∀ w ∈ Cond.codeWith (P k).1 (P k).2.1 (P k).2.2.1 (P k).2.2.2.1 (gv_h4 (P k)) :: ws', ∀ (a' : Array Value) (U : State), s.WarmedH U.vm → w.before a' U = true) → FrameBlind Pc → (∀ U : State, U.heap = H → s.WarmedH U.vm → Pc (as.map (gv_cv base ex)).toArray U) → k0 + mc ≤ R.cells ∧ n0 + ms ≤ R.slots →
        va_Run p l e R s m args below meth c H locs k0 n0 mc ms g (rest.map (gv_cv base ex)) (Qc (as.map (gv_cv base ex)).toArray) free)
  | .inr (.inr (.inr (.inl v))) => ∀ (k0 n0 : Nat) (Qc : Array Value → State → Outcome → State → Prop) (free : Addr → Prop), (∀ t : State, t.heap = H → s.WarmedH t.vm → Qc args s (.returned (v.map (gv_cv base ex))) t) → (∀ q ∈ locs, free q.base) → W p l e R s m args below meth c H locs k0 n0 (MQ below Qc args s k0 n0 free) g
  | .inr (.inr (.inr (.inr _))) => True
end Rule
section Step
variable {p : Program} {l : Launch} {e : Env} {R : Room} {s : State} {m : MethodId} {args : Array Value} {below : List Frame} {meth : Method} {c : Code}
variable {fk : List (List Nat)} {cl : List vw_C} {D : va_G} {ta : Nat → ClassId} {base : Nat} {ex : Nat → Nat} {P : Nat → gv_Mt} {Ts : List Cond} {M : gv_Mt} {tf : Nat → Nat → FieldType} {tx : List (List Int32)} {X : gv_X}
set_option maxHeartbeats 4000000 in
set_option maxRecDepth 100000 in
/-- instructions that touch neither the heap nor the tables -/
theorem gv_step_plain (C : gv_Cx p s m args meth c M Ts) {pc : Nat} (ok : gv_okE cl fk tf P Ts M pc) {H : Heap} {locs : List Loc} {c0 s0 : Nat} {ls : Array Slot} {lo : gv_L} {st : List Value} {S : gv_S} (hW : gv_Wd fk cl D ta base S s H) (hS : va_S (fun q : Nat => base ≤ q) s.heap H locs) (hL : gv_Lo base ex ls M.2.2.1 lo) {act : gv_A} (h : gv_step fk tx X M pc lo st S = some act)
    (hi : ∀ i a b k, M.2.2.2.2.2 pc = (i, a, b, k) → match i with
      | .iconst _ | .bipush _ | .sipush _ | .lconst _ | .iload_n _ | .iload _ | .lload_n _ | .lload _ | .aload_n _ | .aload _ | .istore_n _ | .istore _ | .lstore_n _ | .lstore _ | .astore_n _ | .astore _ | .iinc _ _ => True
      | _ => False) :
    gv_rule p l e R s m args below meth c fk cl D ta base ex P H locs c0 s0 ls M.2.2.1 lo S (F0 m pc ls (st.map (gv_cv base ex))) act := by
  obtain ⟨hx, hb, hml, hown, hts, hr, hlocks, hnm⟩ := C
  unfold gv_step at h
  unfold gv_okE at ok
  rcases hE : M.2.2.2.2.2 pc with ⟨i, a, b, k⟩
  have hi := hi i a b k hE
  rw [hE] at h ok
  cases i with
  | iconst n =>
    obtain rfl := gv_go_some h
    exact fun Q _ _ K => lv_iconst hx hb ok.1 ok.2 (K H locs ls hW hS hL)
  | bipush n =>
    obtain rfl := gv_go_some h
    exact fun Q _ _ K => lv_bipush hx hb ok.1 ok.2 (K H locs ls hW hS hL)
  | sipush n =>
    obtain rfl := gv_go_some h
    exact fun Q _ _ K => lv_sipush hx hb ok.1 ok.2 (K H locs ls hW hS hL)
  | lconst n =>
    obtain rfl := gv_go_some h
    exact fun Q _ _ K => lv_lconst hx hb ok rfl (K H locs ls hW hS hL)
  | iload_n n =>
    obtain ⟨x, h1, h⟩ := gv_li_some h
    obtain rfl := gv_go_some h
    exact fun Q _ _ K => lv_iload_n hx hb ok rfl (hL.2.2.2 _ _ h1) (K H locs ls hW hS hL)
  | iload n =>
    obtain ⟨x, h1, h⟩ := gv_li_some h
    obtain rfl := gv_go_some h
    exact fun Q _ _ K => lv_iload hx hb ok (hL.2.2.2 _ _ h1) (K H locs ls hW hS hL)
  | lload_n n =>
    obtain ⟨x, h1, h⟩ := gv_ll_some h
    obtain rfl := gv_go_some h
    exact fun Q _ _ K => lv_lload_n hx hb ok rfl (hL.2.2.2 _ _ h1) (K H locs ls hW hS hL)
  | lload n =>
    obtain ⟨x, h1, h⟩ := gv_ll_some h
    obtain rfl := gv_go_some h
    exact fun Q _ _ K => lv_lload hx hb ok (hL.2.2.2 _ _ h1) (K H locs ls hW hS hL)
  | aload_n n =>
    obtain ⟨x, h1, h2, h⟩ := gv_la_some h
    obtain rfl := gv_go_some h
    rcases h2 with ⟨q, rfl⟩ | ⟨q, rfl⟩
    · exact fun Q _ _ K => lv_aload_n hx hb ok rfl (hL.2.2.2 _ _ h1) (K H locs ls hW hS hL)
    · exact fun Q _ _ K => lv_aload_n hx hb ok rfl (hL.2.2.2 _ _ h1) (K H locs ls hW hS hL)
  | aload n =>
    obtain ⟨x, h1, h2, h⟩ := gv_la_some h
    obtain rfl := gv_go_some h
    rcases h2 with ⟨q, rfl⟩ | ⟨q, rfl⟩
    · exact fun Q _ _ K => lv_aload hx hb ok (hL.2.2.2 _ _ h1) (K H locs ls hW hS hL)
    · exact fun Q _ _ K => lv_aload hx hb ok (hL.2.2.2 _ _ h1) (K H locs ls hW hS hL)
  | istore_n n =>
    obtain ⟨x, r, rfl, g⟩ := gv_pi_some h
    obtain ⟨h1, h2, g⟩ := gv_sto_some g
    obtain rfl := gv_go_some g
    exact fun Q _ _ K => lv_istore_n hx hb ok rfl hL.has (by rw [← hL.1]; exact h2) rfl (fun ls' hl' => K H locs ls' hW hS (hL.sto (v := .int x) h1 hl' h2))
  | istore n =>
    obtain ⟨x, r, rfl, g⟩ := gv_pi_some h
    obtain ⟨h1, h2, g⟩ := gv_sto_some g
    obtain rfl := gv_go_some g
    exact fun Q _ _ K => lv_istore hx hb ok hL.has (by rw [← hL.1]; exact h2) rfl (fun ls' hl' => K H locs ls' hW hS (hL.sto (v := .int x) h1 hl' h2))
  | lstore_n n =>
    obtain ⟨x, r, rfl, g⟩ := gv_pl_some h
    obtain ⟨h1, h2, g⟩ := gv_sto2_some g
    obtain rfl := gv_go_some g
    exact fun Q _ _ K => lv_lstore_n hx hb ok rfl hL.has (by rw [← hL.1]; exact h2) rfl (fun ls' hl' => K H locs ls' hW hS (hL.sto2 (v := .long x) h1 hl' h2))
  | lstore n =>
    obtain ⟨x, r, rfl, g⟩ := gv_pl_some h
    obtain ⟨h1, h2, g⟩ := gv_sto2_some g
    obtain rfl := gv_go_some g
    exact fun Q _ _ K => lv_lstore hx hb ok hL.has (by rw [← hL.1]; exact h2) rfl (fun ls' hl' => K H locs ls' hW hS (hL.sto2 (v := .long x) h1 hl' h2))
  | astore_n n =>
    obtain ⟨x, r, rfl, h3, g⟩ := gv_pa_some h
    obtain ⟨h1, h2, g⟩ := gv_sto_some g
    obtain rfl := gv_go_some g
    rcases h3 with ⟨q, rfl⟩ | ⟨q, rfl⟩
    · exact fun Q _ _ K => lv_astore_n hx hb ok rfl hL.has (by rw [← hL.1]; exact h2) rfl (fun ls' hl' => K H locs ls' hW hS (hL.sto (v := .ref q) h1 hl' h2))
    · exact fun Q _ _ K => lv_astore_n hx hb ok rfl hL.has (by rw [← hL.1]; exact h2) rfl (fun ls' hl' => K H locs ls' hW hS (hL.sto (v := .retAddr q) h1 hl' h2))
  | astore n =>
    obtain ⟨x, r, rfl, h3, g⟩ := gv_pa_some h
    obtain ⟨h1, h2, g⟩ := gv_sto_some g
    obtain rfl := gv_go_some g
    rcases h3 with ⟨q, rfl⟩ | ⟨q, rfl⟩
    · exact fun Q _ _ K => lv_astore hx hb ok hL.has (by rw [← hL.1]; exact h2) rfl (fun ls' hl' => K H locs ls' hW hS (hL.sto (v := .ref q) h1 hl' h2))
    · exact fun Q _ _ K => lv_astore hx hb ok hL.has (by rw [← hL.1]; exact h2) rfl (fun ls' hl' => K H locs ls' hW hS (hL.sto (v := .retAddr q) h1 hl' h2))
  | iinc n z =>
    obtain ⟨x, h3, h⟩ := gv_li_some h
    obtain ⟨h1, h2, h⟩ := gv_sto_some h
    obtain rfl := gv_go_some h
    obtain ⟨j, hj⟩ := List.getElem?_of_mem (gv_lv_mem (base := base) (ex := ex) h3)
    exact fun Q _ _ K => lv_iinc hx hb ok.1 hL.has hj (by rw [ok.2]) (by rw [← hL.1]; exact h2) rfl (fun ls' hl' => K H locs ls' hW hS (hL.sto (v := .int (x + k)) h1 hl' h2))
  | _ => exact hi.elim
end Step
