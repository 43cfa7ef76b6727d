/-! the law's cases -/
def scN (X : gv_X) (k : Nat) : Nat := (X.1 k).toBitVec.toNat
theorem scN_lt (X : gv_X) (k : Nat) : scN X k < 4294967296 := (X.1 k).toBitVec.isLt
def sB (n : Nat) : Bool := !decide (n = 0)
theorem pn_scN {X : gv_X} {d : Nat} {M : gv_Mt} {pc a b u : Nat} {z : Int32} {lo : gv_L} {st : List Value} {S : gv_S} {P : gv_O × gv_S → Prop} (h : M.2.2.2.2.2 pc = (.iaload, a, b, z)) (hi : u < X.2) (hn : X.2 < 2147483648) (k : EvP X d M (pc + 1) lo (.int (nI (scN X u)) :: st) S P) : EvP X d M pc lo (.int (nI u) :: .retAddr 0 :: st) S P := pn_script h hi hn (by unfold scN at k; rw [nI_tn] at k; exact k)
theorem pv_nz {X : gv_X} {d : Nat} {M : gv_Mt} {pc b1 b2 b3 b4 c1 c3 : Nat} {i1 : Int} {i2 i4 : Int} {i3 : Int} {z1 z3 : Int32} {s : Nat} {lo : gv_L} {st : List Value} {S : gv_S} {P : gv_O × gv_S → Prop} (h0 : M.2.2.2.2.2 pc = (.ifCond .eq i1, pc + 7, b1, z1)) (h1 : M.2.2.2.2.2 (pc + 3) = (.iconst i2, c1, b2, 1)) (h2 : M.2.2.2.2.2 (pc + 4) = (.goto i3, pc + 8, b3, z3)) (h3 : M.2.2.2.2.2 (pc + 7) = (.iconst i4, c3, b4, 0)) (hs : s < 4294967296) (k : EvP X d M (pc + 8) lo (.int (zo (sB s)) :: st) S P) : EvP X d M pc lo (.int (nI s) :: st) S P := by
  refine pn_if_eq h0 hs (fun e => pv_iconst h3 ?_) (fun e => pv_iconst h1 (pv_goto h2 ?_))
  · unfold sB at k; rw [decide_eq_true e] at k; exact k
  · unfold sB at k; rw [decide_eq_false e] at k; exact k
theorem lcs (x : Int64) : lg_cmp x x = 0 := by
  unfold lg_cmp
  rw [if_neg Int64.lt_irrefl, if_pos rfl]
def ivG (G : gv_Sh) : Prop := oX11 G 0 ∧ oX12 G 263 ∧ G.2.1 279 = (102, 1) ∧ (∀ q k, G.2.2 q k ≠ some 279) ∧ 279 < G.1
def ivK (X : gv_X) (d : Nat) (G : gv_Sh) (P : gv_O × gv_S → Prop) (i : Nat) (cc : gv_Rs) : Prop := ∀ (A : Nat → Nat → Nat) (j : Nat → Nat → Int64) (c1 : gv_Rs) (l5 l6 : Option Value), ivI A j → ccl cc c1 → EvP X (d + 40) gvm_385 2737 [some (.retAddr 0), some (.ref 0), some (.ref 263), some (.ref 279), some (.int (nI i)), l5, l6] [] (G, (mI A, j), c1) P
theorem cl_263 : cl9 279 (.ref 263) := ⟨fun e => absurd (Value.ref.inj e) (by decide), fun e => by cases e⟩
theorem clT_nil {C : Value → Prop} : clT C [] := fun v h => by cases h
theorem lw_2 {A : Nat → Nat → Nat} (h : ivT A) (m : ivM A) : A 0 1 ≤ 400 ∧ ∀ i, i < A 0 1 → A 1 i < 256 ∧ A 269 i = sx8 (A 1 i) := ⟨by rw [h.1]; exact m.2.1, fun i hi => h.2.2 i (by rw [← h.1]; exact hi)⟩
/-- what the reference asks for, behind the class's turn -/
theorem lw_o {A B : Nat → Nat → Nat} {j k : Nat → Nat → Int64} (h : ivI A j) (e : ∀ q, 263 ≤ q → B q = A q) (ej : k 274 = j 274) : okW (A 264) ∧ okLw (A 264) ∧ TrJ B k ∧ B 263 7 ≤ 12 ∧ B 263 9 ≤ 400 ∧ (∀ i, i < 400 → B 269 i < 4294967296) ∧ B 263 6 < 2 := by
  obtain ⟨a, b, c, _⟩ := h
  refine ⟨a.1, a.2.2.2.1, TrJ_of b (e 273 (by decide)) ej, ?_, ?_, ?_, ?_⟩
  · rw [e 263 (by decide)]; exact c.1
  · rw [e 263 (by decide)]; exact c.2.1
  · rw [e 269 (by decide)]; exact c.2.2.2
  · rw [e 263 (by decide)]; have := c.2.2.1; omega
theorem frK_hi {A B : Nat → Nat → Nat} (h : frK A B) : ∀ q, 263 ≤ q → B q = A q := fun q hq => h q (by omega) (by omega) (by omega)
theorem frJ_hi {A B : Nat → Nat → Nat} (h : frJ A B) : ∀ q, 263 ≤ q → B q = A q := fun q hq => h q (by omega) (by omega) (by omega) (by omega)
