/-! the heap's size; a method's entry; behind a call -/
section Aux
variable {p : Program} {l : Launch} {e : Env} {R : Room} {s : State} {m : MethodId} {args : Array Value} {below : List Frame} {meth : Method} {c : Code} {H : Heap} {locs : List Loc} {cells slots : Nat} {Q : State → Prop}
theorem gv_sized {g : JFrame} (k : H.size ≤ s.heap.size + cells → W p l e R s m args below meth c H locs cells slots Q g) : W p l e R s m args below meth c H locs cells slots Q g := by
  intro T hT X
  refine k ?_ T hT X
  have h := X.same.2.2.1
  rw [← hT]
  exact h
theorem gv_sizedX {g : JFrame} {q : Addr} (k : H.size ≤ s.heap.size + cells → vx_W p l e R s m args below meth c H locs cells slots Q g q) : vx_W p l e R s m args below meth c H locs cells slots Q g q := by
  intro T hT X
  refine k ?_ T hT X
  have h := X.same.2.2.1
  rw [← hT]
  exact h
/-- behind a call that returns -/
theorem gv_back {g : JFrame} {mc ms : Nat} {rest : List Value} {Qa : State → Outcome → State → Prop} {free : Addr → Prop} {A : Nat → Prop} {H0 : Heap} (hr : va_Run p l e R s m args below meth c H locs cells slots mc ms g rest Qa free) (hS : va_S A H0 H locs) (hf : ∀ q, free q → A q) (hF : ∀ st v t, Qa st (.returned v) t → va_F A st t)
    (kk : ∀ (v : Option Value) (st t : State) (H1 : Heap) (locs1 : List Loc), st.heap = H → t.heap = H1 → s.WarmedH t.vm → Qa st (.returned v) t → va_S A H0 H1 locs1 → W p l e R s m args below meth c H1 locs1 (cells + mc) (slots + ms) Q { g with pc := g.pc + 3, stack := v.toList ++ rest }) : W p l e R s m args below meth c H locs cells slots Q g := by
  intro T hT X
  obtain ⟨v, st₀, t, T', L, h0, X', hL, e1, e2, hq, st⟩ := hr T hT X
  obtain ⟨-, -, k3⟩ := vx_keep (A0 := A) (A1 := A) h0 e1 hS (fun _ _ z => z) hf hL (hF _ _ _ hq)
  obtain ⟨t2, a1, b1⟩ := kk v st₀ t T'.heap (locs ++ L) h0 e1.symm (by rw [← e2]; exact X'.warmed) hq k3 T' rfl X'
  exact ⟨t2, st t2 a1, b1⟩
/-- behind a call that throws -/
theorem gv_backX {pc : Nat} {ls : Array Slot} {st0 : List Value} {mc ms : Nat} {rest : List Value} {Qa : State → Outcome → State → Prop} {XC : String → State → State → Prop} {free : Addr → Prop} {A : Nat → Prop} {H0 : Heap} (hr : vx_Run p l e R s m args below meth c H locs cells slots mc ms (F0 m pc ls st0) rest Qa XC free) (hS : va_S A H0 H locs) (hf : ∀ q, free q → A q) (hQ : ∀ st o t, ¬ Qa st o t) (hF : ∀ E st t, XC E st t → va_F A st t)
    (kx : ∀ (E : String) (ce : Cell) (q9 : Addr) (st t : State) (H1 : Heap) (locs1 : List Loc), st.heap = H → t.heap = H1 → s.WarmedH t.vm → XC E st t → va_S A H0 H1 locs1 → H1[q9]? = some ce → ce.vm = .none → s.vm.findClass E = some ce.cls → vx_W p l e R s m args below meth c H1 locs1 (cells + mc) (slots + ms) Q (F0 m pc ls rest) q9) : W p l e R s m args below meth c H locs cells slots Q (F0 m pc ls st0) := by
  intro T hT X
  rcases hr T hT X with ⟨v, st₀, t, T', L, h0, X', hL, e1, e2, hq, st⟩ | ⟨q, st₀, t, T', L, E, ce, h0, X', hL, e1, e2, hq, hce, hcv, hcl, st⟩
  · exact absurd hq (hQ _ _ _)
  · obtain ⟨-, -, k3⟩ := vx_keep (A0 := A) (A1 := A) h0 e1 hS (fun _ _ z => z) hf hL (hF _ _ _ hq)
    obtain ⟨t2, a1, b1⟩ := kx E ce q st₀ t T'.heap (locs ++ L) h0 e1.symm (by rw [← e2]; exact X'.warmed) hq k3 (by rw [e1]; exact hce) hcv hcl T' rfl X'
    exact ⟨t2, st.trans a1, b1⟩
end Aux
theorem gv_low {fk : List (List Nat)} {cl : List vw_C} {D : va_G} {ta : Nat → ClassId} {base : Nat} {S : gv_S} {H : Heap} (h : va_P D cl (gv_pic fk ta base S) H) (hb : base ≤ H.size) : base + S.1.1 ≤ H.size := by
  cases hn : S.1.1 with
  | zero => exact hb
  | succ k =>
    have := (h k _ (gv_pic_at (by omega))).lt
    have h2 : base + k < H.size := this
    omega
theorem gv_ent_mem {base : Nat} {ex : Nat → Nat} : ∀ (as : List Value) (j i : Nat) (v : Value), (gv_ent as)[i]? = some (some v) → (j + i, gv_cv base ex v) ∈ lv_args j (as.map (gv_cv base ex))
  | [], j, i, v, h => by simp [gv_ent] at h
  | w :: r, j, i, v, h => by
    have ih := gv_ent_mem (base := base) (ex := ex) r
    simp only [List.map_cons, lv_args, gv_cv_cat]
    unfold gv_ent at h
    cases hc : Nat.beq w.category 2 with
    | true =>
      rw [hc] at h
      rw [if_pos (Nat.eq_of_beq_eq_true hc)]
      match i, h with
      | 0, h =>
        cases h
        exact List.mem_cons_self
      | 1, h => cases h
      | i + 2, h =>
        have := ih (j + 2) i v h
        rw [show j + (i + 2) = j + 2 + i by omega]
        exact List.mem_cons_of_mem _ this
    | false =>
      rw [hc] at h
      rw [if_neg (fun z => by rw [z] at hc; cases hc)]
      match i, h with
      | 0, h =>
        cases h
        exact List.mem_cons_self
      | i + 1, h =>
        have := ih (j + 1) i v h
        rw [show j + (i + 1) = j + 1 + i by omega]
        exact List.mem_cons_of_mem _ this
theorem gv_ent_len {base : Nat} {ex : Nat → Nat} : ∀ (as : List Value), (gv_ent as).length = (lg_sl (as.map (gv_cv base ex))).length
  | [] => rfl
  | w :: r => by
    have ih := gv_ent_len (base := base) (ex := ex) r
    unfold gv_ent
    simp only [List.map_cons, lg_sl, List.flatMap_cons, gv_cv_cat, List.length_append]
    unfold lg_sl at ih
    cases hc : Nat.beq w.category 2 with
    | true =>
      rw [if_pos (Nat.eq_of_beq_eq_true hc)]
      simp only [List.length_cons, List.length_nil, ih]
      omega
    | false =>
      rw [if_neg (fun z => by rw [z] at hc; cases hc)]
      simp only [List.length_cons, List.length_nil, ih]
      omega
theorem gv_entry {base : Nat} {ex : Nat → Nat} {as : List Value} {n : Nat} (h : (gv_ent as).length ≤ n) : gv_Lo base ex ((lg_sl (as.map (gv_cv base ex)) ++ List.replicate (n - (lg_sl (as.map (gv_cv base ex))).length) Slot.unset).toArray) n (gv_enter as n) := by
  have hl := lv_entry (as.map (gv_cv base ex)) (n := n) (by rw [← gv_ent_len]; exact h)
  refine ⟨?_, hl.1, hl.2.1, fun i v hi => ?_⟩
  · unfold gv_enter
    rw [List.length_append, List.length_replicate]
    omega
  · have hi2 : (gv_ent as)[i]? = some (some v) := by
      unfold gv_enter at hi
      by_cases hlt : i < (gv_ent as).length
      · rwa [List.getElem?_append_left hlt] at hi
      · rw [List.getElem?_append_right (by omega)] at hi
        rw [List.getElem?_replicate] at hi
        split at hi
        · cases hi
        · cases hi
    have := gv_ent_mem (base := base) (ex := ex) as 0 i v hi2
    rw [Nat.zero_add] at this
    exact hl.2.2 _ this
/-- a contract that never throws -/
theorem gv_met_of {l : Launch} {y : MethodName} {ws : List Cond} {rm : Room} {Pc : Array Value → State → Prop} {Qc : Array Value → State → Outcome → State → Prop} {XC : String → State → State → Prop} {mc ms : Nat} {free : Addr → Prop} (h : vx_Met l y ws rm Pc Qc XC mc ms free) (hx : ∀ E st t, ¬ XC E st t) : Met l y ws rm Pc Qc mc ms free := by
  intro p e h1 h2 h3 s m args below h4 h5 h6 h7
  obtain ⟨n, o, a1, a2, a3, a4⟩ := h p e h1 h2 h3 s m args below h4 h5 h6 h7
  refine ⟨n, o, a1, a2, a3, ?_⟩
  rcases a4 with a4 | ⟨q, -, E, ce, L, a5, -⟩
  · exact a4
  · exact absurd a5 (hx _ _ _)
/-- a body's contract, by the method's name -/
theorem gv_ofW {l : Launch} {y : MethodName} {ws ws' : List Cond} {rm : Room} {Pc : Array Value → State → Prop} {Qc : Array Value → State → Outcome → State → Prop} {XC : String → State → State → Prop} {mc ms : Nat} {free : Addr → Prop} {cc : ByteArray} {maxL : Nat} {ret : Option FieldType}
    (hy : plainFor y = true) (hw : ws = Cond.code y cc maxL ret :: ws')
    (body : ∀ p e s m args below meth c s₁, BodyLoose p l y (headSpec ws rm) cc maxL ret e s m args below meth c s₁ → c.maxLocals = maxL → (∀ x ∈ c.exceptionTable.toList, False) → Pc args s →
      W p l e (headSpec ws rm).room s m args below meth c s.heap [] 0 0 (vx_MQ below Qc XC args s mc ms free) (entryFrame m args maxL)) : vx_Met l y ws rm Pc Qc XC mc ms free := by
  refine MetFree.of_bodySF (code := cc) (maxLocals := maxL) (ret := ret) hy ?_ ?_
  · intro args s m h hn
    obtain ⟨meth, c, h1, h2, h3, h4, h5, h6, -, -⟩ := Cond.code_spec hn (atoms_spec (ws := ws) h _ (by rw [hw]; exact List.mem_cons_self))
    exact ⟨meth, c, h1, h2, h3, h4, h5, h6⟩
  · intro p e s m args below meth c s₁ B hml hP _
    have hh0 : s₁.heap = s.heap := by rw [B.state]; rfl
    have ht : ∀ x ∈ c.exceptionTable.toList, False := by
      obtain ⟨meth9, c9, h1, h2, -, -, -, -, h7, -⟩ := Cond.code_spec B.named (atoms_spec (ws := ws) B.pre _ (by rw [hw]; exact List.mem_cons_self))
      cases Option.some.inj (h1.symm.trans B.method)
      cases Option.some.inj (h2.symm.trans (Stand.of_body B).code)
      intro x hx
      rw [Array.isEmpty_iff.mp h7] at hx
      cases hx
    obtain ⟨t, a1, o, b1, b2, b3⟩ := body p e s m args below meth c s₁ B hml ht hP s₁ hh0 (Stand.of_body B)
    exact ⟨t, o, a1, b1, b2, b3⟩
theorem gv_ofWH {l : Launch} {y : MethodName} {ws ws' : List Cond} {rm : Room} {Pc : Array Value → State → Prop} {Qc : Array Value → State → Outcome → State → Prop} {XC : String → State → State → Prop} {mc ms : Nat} {free : Addr → Prop} {cc : ByteArray} {maxL : Nat} {ret : Option FieldType} {hh : List (Nat × Nat × Nat × Nat)}
    (hy : plainFor y = true) (hw : ws = Cond.codeWith y cc maxL ret hh :: ws')
    (body : ∀ p e s m args below meth c s₁, BodyLoose p l y (headSpec ws rm) cc maxL ret e s m args below meth c s₁ → c.maxLocals = maxL → Pc args s →
      W p l e (headSpec ws rm).room s m args below meth c s.heap [] 0 0 (vx_MQ below Qc XC args s mc ms free) (entryFrame m args maxL)) : vx_Met l y ws rm Pc Qc XC mc ms free := by
  refine MetFree.of_bodySF (code := cc) (maxLocals := maxL) (ret := ret) hy ?_ ?_
  · intro args s m h hn
    obtain ⟨m9, meth, c, hn9, h1, h2, h3, h4, -, h5, h6, -⟩ := Cond.codeWith_spec (atoms_spec (ws := ws) h _ (by rw [hw]; exact List.mem_cons_self))
    cases hn.symm.trans hn9
    exact ⟨meth, c, h1, h2, h3, h4, h5, h6⟩
  · intro p e s m args below meth c s₁ B hml hP _
    have hh0 : s₁.heap = s.heap := by rw [B.state]; rfl
    obtain ⟨t, a1, o, b1, b2, b3⟩ := body p e s m args below meth c s₁ B hml hP s₁ hh0 (Stand.of_body B)
    exact ⟨t, o, a1, b1, b2, b3⟩
