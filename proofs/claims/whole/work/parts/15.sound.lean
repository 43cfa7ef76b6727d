/-! THE WALKER IS RIGHT: what it comes to, the machine comes to -/
section Sound
variable (l : Launch) (fk : List (List Nat)) (cl : List vw_C) (D : va_G) (ta : Nat → ClassId) (base : Nat) (ex : Nat → Nat) (P : Nat → gv_Mt) (Ts : List Cond) (Ext : State → Prop) (exn : Nat → String) (thrs : List (String × Nat × Nat × Nat × Nat × String)) (hnds : List (String × Nat × Nat))
def gv_In (S : gv_S) (U : State) : Prop := Ext U ∧ base ≤ U.heap.size ∧ gv_Wd fk cl D ta base S U U.heap ∧ (S.2.2.1 = 0 → U.heap.size = base + S.1.1)
def gv_Q (o : gv_O) (S' : gv_S) : Array Value → State → Outcome → State → Prop := fun _ st oc t => (∃ v, o = .inl v ∧ oc = .returned (v.map (gv_cv base ex))) ∧ gv_Wd fk cl D ta base S' t t.heap ∧ (S'.2.2.1 = 0 → t.heap.size = base + S'.1.1) ∧ va_F (fun q : Nat => base ≤ q) st t
def gv_XQ (o : gv_O) (S' : gv_S) : String → State → State → Prop := fun E st t => (∃ k, o = .inr k ∧ E = exn k) ∧ gv_Wd fk cl D ta base S' t t.heap ∧ va_F (fun q : Nat => base ≤ q) st t
def gv_claim (d : Nat) (M : gv_Mt) (pc : Nat) (lo : gv_L) (st : List Value) (S : gv_S) (o : gv_O) (S' : gv_S) : Prop := ∀ (p : Program) (e : Env) (R : Room) (s : State) (m : MethodId) (args : Array Value) (below : List Frame) (meth : Method) (c : Code) (H : Heap) (locs : List Loc) (ls : Array Slot) (c0 s0 n0 : Nat),
  gv_Cx p s m args meth c M Ts → c.exceptionTable.toList = tableOf (gv_h4 M) → Ext s → base ≤ s.heap.size → gv_Wd fk cl D ta base S s H → va_S (fun q : Nat => base ≤ q) s.heap H locs → gv_Lo base ex ls M.2.2.1 lo → c0 ≤ S.2.2.2.1 → s0 ≤ S.2.2.2.2 → (S.2.2.1 = 0 → S.2.2.2.1 + n0 = S.1.1 + c0 ∧ s.heap.size = base + n0) → d + 8 ≤ R.frames → 60 * d + 200 ≤ R.locals → S'.2.2.2.1 - c0 ≤ R.cells → S'.2.2.2.2 - s0 ≤ R.slots →
  W p l e R s m args below meth c H locs (S.2.2.2.1 - c0) (S.2.2.2.2 - s0) (vx_MQ below (gv_Q fk cl D ta base ex o S') (gv_XQ fk cl D ta base exn o S') args s (S'.2.2.2.1 - c0) (S'.2.2.2.2 - s0) (fun q : Nat => base ≤ q)) (F0 m pc ls (st.map (gv_cv base ex)))
/-- 'throw new E("text")' -/
def gv_rTh : Prop := ∀ (p : Program) (e : Env) (R : Room) (s : State) (m : MethodId) (args : Array Value) (below : List Frame) (meth : Method) (c : Code) (M : gv_Mt) (H : Heap) (locs : List Loc) (ls : Array Slot) (pc i a b : Nat) (z : Int32) (r : List Value) (Qc : Array Value → State → Outcome → State → Prop) (XC : String → State → State → Prop) (cells slots mc ms : Nat), gv_Cx p s m args meth c M Ts → c.exceptionTable.toList = tableOf (gv_h4 M) → Ext s → va_S (fun q : Nat => base ≤ q) s.heap H locs → ls.size = M.2.2.1 → 8 ≤ R.frames → 200 ≤ R.locals → M.2.2.2.2.2 pc = (.new i, a, b, z) → 300 ≤ a → gv_okT thrs M pc i a → (r.map fun v => v.category).sum ≤ 8 → cells + 1 ≤ R.cells → slots + 6 ≤ R.slots →
  (∀ t : State, s.vm.Alike t.vm → H.size ≤ t.heap.size → (∀ q : Nat, q < H.size → t.heap[q]? = H[q]?) → XC (exn (a - 300)) s t) → (∀ z ∈ locs, (fun q : Nat => base ≤ q) z.base) → cells + 1 ≤ mc → slots + 6 ≤ ms → W p l e R s m args below meth c H locs cells slots (vx_MQ below Qc XC args s mc ms (fun q : Nat => base ≤ q)) (F0 m pc ls r)
/-- a handler takes what is thrown -/
def gv_rCa : Prop := ∀ (p : Program) (e : Env) (R : Room) (s : State) (m : MethodId) (args : Array Value) (below : List Frame) (meth : Method) (c : Code) (M : gv_Mt) (H : Heap) (locs : List Loc) (ls : Array Slot) (pc x h : Nat) (r : List Value) (ce : Cell) (q : Addr) (Q : State → Prop) (cells slots : Nat), gv_Cx p s m args meth c M Ts → c.exceptionTable.toList = tableOf (gv_h4 M) → Ext s → (∀ r ∈ M.2.2.2.2.1, (gv_own M, r.2.2.2.1, r.2.2.2.2) ∈ hnds) → gv_hand M.2.2.2.2.1 pc x = some h → H[q]? = some ce → ce.vm = .none → s.vm.findClass (exn x) = some ce.cls → W p l e R s m args below meth c H locs cells slots Q (F0 m h ls [.ref q]) → vx_W p l e R s m args below meth c H locs cells slots Q (F0 m pc ls r) q
variable {l fk cl D ta base ex P Ts Ext exn thrs hnds}
theorem gv_In_blind {S : gv_S} {as : List Value} (hE2 : ∀ s U, Ext s → s.heap.size ≤ U.heap.size → (∀ q, q < s.heap.size → ¬ base ≤ q → U.heap[q]? = s.heap[q]?) → s.WarmedH U.vm → Ext U) : FrameBlind (va_Pc as (gv_In fk cl D ta base Ext S)) := by
  intro a U g mk h
  obtain ⟨h0, h1, h2, h3, h4⟩ := h
  exact ⟨h0, hE2 U _ h1 (Nat.le_refl _) (fun _ _ _ => rfl) (State.WarmedH.refl U), h2, ⟨va_K.moved (u := U) (U := U.calling g mk a) (Vm.Alike.refl U.vm) h3.1, h3.2⟩, h4⟩
set_option maxHeartbeats 4000000 in
/-- the contract of a method, out of a walk of its body -/
theorem gv_contract {tf : Nat → Nat → FieldType} {nests : List (String × Nat × MethodName × String)} {strs : List (String × Nat × String × Nat)} {thrs : List (String × Nat × Nat × Nat × Nat × String)} {hnds : List (String × Nat × Nat)} {d k : Nat} {as : List Value} {S : gv_S} {o : gv_O} {S' : gv_S} (hM : gv_okM cl fk tf P Ts nests strs thrs hnds (P k)) (hcl : gv_claim l fk cl D ta base ex Ts Ext exn d (P k) 0 (gv_enter as (P k).2.2.1) [] S o S') (hlen : (gv_ent as).length ≤ (P k).2.2.1) (hw : Cond) (hws : hw = Cond.code (P k).1 (P k).2.1 (P k).2.2.1 (P k).2.2.2.1 ∧ (P k).2.2.2.2.1 = [] ∨ hw = Cond.codeWith (P k).1 (P k).2.1 (P k).2.2.1 (P k).2.2.2.1 (gv_h4 (P k)) ∧ (P k).2.2.2.2.1 ≠ []) :
    vx_Met l (P k).1 (hw :: Ts) { frames := d + 8, cells := S'.2.2.2.1 - S.2.2.2.1, slots := S'.2.2.2.2 - S.2.2.2.2, locals := 60 * d + 200 } (va_Pc (as.map (gv_cv base ex)) (gv_In fk cl D ta base Ext S)) (gv_Q fk cl D ta base ex o S') (gv_XQ fk cl D ta base exn o S') (S'.2.2.2.1 - S.2.2.2.1) (S'.2.2.2.2 - S.2.2.2.2) (fun q : Nat => base ≤ q) := by
  have key : ∀ (p : Program) (e : Env) (s : State) (m : MethodId) (args : Array Value) (below : List Frame) (meth : Method) (c : Code) (s₁ : State), BodyLoose p l (P k).1 (headSpec (hw :: Ts) { frames := d + 8, cells := S'.2.2.2.1 - S.2.2.2.1, slots := S'.2.2.2.2 - S.2.2.2.2, locals := 60 * d + 200 }) (P k).2.1 (P k).2.2.1 (P k).2.2.2.1 e s m args below meth c s₁ → c.maxLocals = (P k).2.2.1 → c.exceptionTable.toList = tableOf (gv_h4 (P k)) → va_Pc (as.map (gv_cv base ex)) (gv_In fk cl D ta base Ext S) args s →
      W p l e (headSpec (hw :: Ts) { frames := d + 8, cells := S'.2.2.2.1 - S.2.2.2.1, slots := S'.2.2.2.2 - S.2.2.2.2, locals := 60 * d + 200 }).room s m args below meth c s.heap [] 0 0 (vx_MQ below (gv_Q fk cl D ta base ex o S') (gv_XQ fk cl D ta base exn o S') args s (S'.2.2.2.1 - S.2.2.2.1) (S'.2.2.2.2 - S.2.2.2.2) (fun q : Nat => base ≤ q)) (entryFrame m args (P k).2.2.1) := by
    intro p e s m args below meth c s₁ B hml hTb hv
    obtain ⟨rfl, hE, hbs, hW, hz⟩ := hv
    have hts := atoms_spec (ws := hw :: Ts) B.pre
    have hown : s.vm.findClass (P k).1.cls = some m.cls := findClass_of_methodNamed B.named
    have hnm : meth.name = (P k).1.name := (name_of_methodNamed B.named B.method).1
    rw [lg_entry_eq]
    have h0 := hcl p e (headSpec (hw :: Ts) { frames := d + 8, cells := S'.2.2.2.1 - S.2.2.2.1, slots := S'.2.2.2.2 - S.2.2.2.2, locals := 60 * d + 200 }).room s m (as.map (gv_cv base ex)).toArray below meth c s.heap [] _ S.2.2.2.1 S.2.2.2.2 S.1.1 ⟨B.exec, B.bytes, hml, hown, fun w h => hts w (List.mem_cons_of_mem _ h), B.returns, B.notSynchronized, hnm⟩ hTb hE hbs hW va_S.rf (gv_entry hlen) (Nat.le_refl _) (Nat.le_refl _) (fun z => ⟨Nat.add_comm _ _, hz z⟩) (Nat.le_refl _) (Nat.le_refl _) (Nat.le_refl _) (Nat.le_refl _)
    rw [Nat.sub_self, Nat.sub_self] at h0
    exact h0
  rcases hws with ⟨rfl, hh⟩ | ⟨rfl, hh⟩
  · refine gv_ofW (cc := (P k).2.1) (maxL := (P k).2.2.1) (ret := (P k).2.2.2.1) hM.1.2.2.2.2.2.2.1 rfl fun p e s m args below meth c s₁ B hml ht hv => key p e s m args below meth c s₁ B hml ?_ hv
    unfold gv_h4
    rw [hh]
    cases hl : c.exceptionTable.toList with
    | nil => rfl
    | cons x r => exact (ht x (by rw [hl]; exact List.mem_cons_self)).elim
  · refine gv_ofWH (cc := (P k).2.1) (maxL := (P k).2.2.1) (ret := (P k).2.2.2.1) (hh := gv_h4 (P k)) hM.1.2.2.2.2.2.2.1 rfl fun p e s m args below meth c s₁ B hml hv => key p e s m args below meth c s₁ B hml ?_ hv
    exact vx_table (x := (P k).1) B (atoms_spec B.pre _ List.mem_cons_self)
end Sound
