/-! a run over values that are all of a kind stays among them: what it can't reach stays, and the script is not read -/
def clL (C : Value → Prop) (lo : gv_L) : Prop := ∀ (i : Nat) (v : Value), lo[i]? = some (some v) → C v
def clT (C : Value → Prop) (st : List Value) : Prop := ∀ v, v ∈ st → C v
def clG (C : Value → Prop) (S : gv_S) : Prop := ∀ q k t, S.1.2.2 q k = some t → C (.ref t)
def clAA (C : Value → Prop) (S : gv_S) (a : gv_A) : Prop := match a with
  | .inl (_, lo, st, S') => clL C lo ∧ clT C st ∧ clG C S' ∧ (∀ q, ¬ C (.ref q) → S'.2.1.2 q = S.2.1.2 q) ∧ S.1.1 ≤ S'.1.1
  | .inr (.inl (_, _, _, st)) => clT C st
  | .inr (.inr (.inl (_, _, as, st))) => clT C as ∧ clT C st
  | .inr (.inr (.inr (.inl v))) => ∀ x, v = some x → C x
  | .inr (.inr (.inr (.inr _))) => True
def clD (C : Value → Prop) (S : gv_S) (a : gv_A) (o o' : Option gv_A) : Prop := o = some a → clAA C S a ∧ o' = some a
def clK (C : Value → Prop) : Prop := (∀ x, C (.int x)) ∧ (∀ x, C (.long x)) ∧ ∀ n, C (.retAddr (n + 1))
section CL
variable {C : Value → Prop} {S : gv_S} {a : gv_A}
theorem cl_none {o' : Option gv_A} : clD C S a none o' := fun h => by cases h
theorem cl_same {o : Option gv_A} (h : o = some a → clAA C S a) : clD C S a o o := fun e => ⟨h e, e⟩
theorem cl_gd {b : Bool} {o o' : Option gv_A} (h : b = true → clD C S a o o') : clD C S a (gv_gd b o) (gv_gd b o') := by
  cases b
  · intro e; cases e
  · exact h rfl
theorem clT_t {v : Value} {r : List Value} (h : clT C (v :: r)) : clT C r := fun w hw => h w (List.mem_cons_of_mem _ hw)
theorem clT_h {v : Value} {r : List Value} (h : clT C (v :: r)) : C v := h v List.mem_cons_self
theorem clT_c {v : Value} {r : List Value} (hv : C v) (h : clT C r) : clT C (v :: r) := fun w hw => by
  rcases List.mem_cons.mp hw with rfl | hw
  · exact hv
  · exact h w hw
theorem clL_s {lo : gv_L} {i : Nat} {v : Option Value} (h : clL C lo) (hv : ∀ x, v = some x → C x) : clL C (lo.set i v) := fun k x hx => by
  rw [List.getElem?_set] at hx
  split at hx
  · split at hx
    · exact hv x (Option.some.inj hx)
    · cases hx
  · exact h k x hx
theorem cl_pi {st : List Value} {k k' : Int32 → List Value → Option gv_A} (ht : clT C st) (h : ∀ x r, clT C r → clD C S a (k x r) (k' x r)) : clD C S a (gv_pi st k) (gv_pi st k') := by
  cases st with
  | nil => exact cl_none
  | cons v r => cases v <;> first | exact cl_none | exact h _ _ (clT_t ht)
theorem cl_pl {st : List Value} {k k' : Int64 → List Value → Option gv_A} (ht : clT C st) (h : ∀ x r, clT C r → clD C S a (k x r) (k' x r)) : clD C S a (gv_pl st k) (gv_pl st k') := by
  cases st with
  | nil => exact cl_none
  | cons v r => cases v <;> first | exact cl_none | exact h _ _ (clT_t ht)
theorem cl_pr {st : List Value} {k k' : Nat → List Value → Option gv_A} (ht : clT C st) (h : ∀ x r, C (.ref x) → clT C r → clD C S a (k x r) (k' x r)) : clD C S a (gv_pr st k) (gv_pr st k') := by
  cases st with
  | nil => exact cl_none
  | cons v r => cases v <;> first | exact cl_none | exact h _ _ (clT_h ht) (clT_t ht)
theorem cl_px {st : List Value} {k k' : Nat → List Value → Option gv_A} (ht : clT C st) (h : ∀ x r, clT C r → clD C S a (k x r) (k' x r)) : clD C S a (gv_px st k) (gv_px st k') := by
  cases st with
  | nil => exact cl_none
  | cons v r => cases v <;> first | exact cl_none | exact h _ _ (clT_t ht)
theorem cl_pa {st : List Value} {k k' : Value → List Value → Option gv_A} (ht : clT C st) (h : ∀ x r, C x → clT C r → clD C S a (k x r) (k' x r)) : clD C S a (gv_pa st k) (gv_pa st k') := by
  cases st with
  | nil => exact cl_none
  | cons v r => cases v <;> first | exact cl_none | exact h _ _ (clT_h ht) (clT_t ht)
theorem cl_li {lo : gv_L} {i : Nat} {k k' : Int32 → Option gv_A} (h : ∀ x, clD C S a (k x) (k' x)) : clD C S a (gv_li lo i k) (gv_li lo i k') := by
  unfold gv_li
  cases lo[i]? with
  | none => exact cl_none
  | some o => cases o with
    | none => exact cl_none
    | some v => cases v <;> first | exact cl_none | exact h _
theorem cl_ll {lo : gv_L} {i : Nat} {k k' : Int64 → Option gv_A} (h : ∀ x, clD C S a (k x) (k' x)) : clD C S a (gv_ll lo i k) (gv_ll lo i k') := by
  unfold gv_ll
  cases lo[i]? with
  | none => exact cl_none
  | some o => cases o with
    | none => exact cl_none
    | some v => cases v <;> first | exact cl_none | exact h _
theorem cl_la {lo : gv_L} {i : Nat} {k k' : Value → Option gv_A} (hl : clL C lo) (h : ∀ x, C x → clD C S a (k x) (k' x)) : clD C S a (gv_la lo i k) (gv_la lo i k') := by
  unfold gv_la
  cases e : lo[i]? with
  | none => exact cl_none
  | some o => cases o with
    | none => exact cl_none
    | some v => cases v <;> first | exact cl_none | exact h _ (hl i _ e)
theorem cl_sto {lo : gv_L} {i : Nat} {v : Option Value} {k k' : gv_L → Option gv_A} (hl : clL C lo) (hv : ∀ x, v = some x → C x) (h : ∀ l, clL C l → clD C S a (k l) (k' l)) : clD C S a (gv_sto lo i v k) (gv_sto lo i v k') := cl_gd (fun _ => h _ (clL_s hl hv))
theorem cl_sto2 {lo : gv_L} {i : Nat} {v : Option Value} {k k' : gv_L → Option gv_A} (hl : clL C lo) (hv : ∀ x, v = some x → C x) (h : ∀ l, clL C l → clD C S a (k l) (k' l)) : clD C S a (gv_sto2 lo i v k) (gv_sto2 lo i v k') := cl_gd (fun _ => h _ (clL_s (clL_s hl hv) (fun x e => by cases e)))
theorem cl_goS {pc : Nat} {lo : gv_L} {st : List Value} {S' : gv_S} (hl : clL C lo) (ht : clT C st) (hg : clG C S') (hj : ∀ q, ¬ C (.ref q) → S'.2.1.2 q = S.2.1.2 q) (hn : S.1.1 ≤ S'.1.1) : clD C S a (gv_go pc lo st S') (gv_go pc lo st S') := cl_same (fun e => by
  cases e
  exact ⟨hl, ht, hg, hj, hn⟩)
theorem cl_go {pc : Nat} {lo : gv_L} {st : List Value} (hl : clL C lo) (ht : clT C st) (hg : clG C S) : clD C S a (gv_go pc lo st S) (gv_go pc lo st S) := cl_goS hl ht hg (fun _ _ => rfl) (Nat.le_refl _)
theorem cl_jmp {pc : Nat} {off : Int} {lo : gv_L} {st : List Value} (hl : clL C lo) (ht : clT C st) (hg : clG C S) : clD C S a (gv_jmp pc off lo st S) (gv_jmp pc off lo st S) := cl_gd (fun _ => cl_go hl ht hg)
theorem cl_br {b : Bool} {t f : Nat} {st : List Value} (ht : clT C st) : clD C S a (gv_br b t f st) (gv_br b t f st) := cl_same (fun e => by cases e; exact ht)
theorem cl_call {m : Nat} {v : Bool} {as r : List Value} (h1 : clT C as) (h2 : clT C r) : clD C S a (gv_call m v as r) (gv_call m v as r) := cl_same (fun e => by cases e; exact ⟨h1, h2⟩)
theorem cl_ret {v : Option Value} (h : ∀ x, v = some x → C x) : clD C S a (gv_ret v) (gv_ret v) := cl_same (fun e => by cases e; exact h)
theorem cl_thr {n : Nat} : clD C S a (gv_thr n) (gv_thr n) := cl_same (fun e => by cases e; trivial)
theorem cl_args {b : Nat} {st : List Value} {k k' : List Value → List Value → Option gv_A} (ht : clT C st) (h : ∀ as r, clT C as → clT C r → clD C S a (k as r) (k' as r)) : clD C S a (gv_args b st k) (gv_args b st k') := cl_gd (fun _ => h _ _ (fun v hv => ht v (List.mem_of_mem_take (List.mem_reverse.mp hv))) (fun v hv => ht v (List.mem_of_mem_drop hv)))
theorem cl_i2 {f : Int32 → Int32 → Int32} {pc : Nat} {lo : gv_L} {st : List Value} (hc : clK C) (hl : clL C lo) (ht : clT C st) (hg : clG C S) : clD C S a (gv_i2 f pc lo st S) (gv_i2 f pc lo st S) := cl_pi ht (fun _ _ h1 => cl_pi h1 (fun _ _ h2 => cl_go hl (clT_c (hc.1 _) h2) hg))
theorem cl_l2 {f : Int64 → Int64 → Int64} {pc : Nat} {lo : gv_L} {st : List Value} (hc : clK C) (hl : clL C lo) (ht : clT C st) (hg : clG C S) : clD C S a (gv_l2 f pc lo st S) (gv_l2 f pc lo st S) := cl_pl ht (fun _ _ h1 => cl_pl h1 (fun _ _ h2 => cl_go hl (clT_c (hc.2.1 _) h2) hg))
theorem cl_iret {ret : Option FieldType} {st : List Value} (ht : clT C st) : clD C S a (gv_iret ret st) (gv_iret ret st) := cl_same (fun e => by
  unfold gv_iret at e
  split at e
  · split at e
    · cases e; intro y hy; cases hy; exact clT_h ht
    · unfold gv_gd at e
      split at e
      · cases e; intro y hy; cases hy; exact clT_h ht
      · cases e
    · cases e
  · cases e)
theorem clG_J {q k : Nat} {v : Int64} (h : clG C S) : clG C (gv_setJ S q k v) := h
theorem cl_J {q k : Nat} {v : Int64} (hq : C (.ref q)) : ∀ p, ¬ C (.ref p) → (gv_setJ S q k v).2.1.2 p = S.2.1.2 p := fun p hp => by
  have : p ≠ q := fun e => hp (by rw [e]; exact hq)
  show gu S.2.1.2 q k v p = _
  unfold gu
  rw [if_neg this]
theorem clG_P {q k x : Nat} (h : clG C S) (hx : C (.ref x)) : clG C (gv_setP S q k (some x)) := fun p n t e => by
  have e : gu S.1.2.2 q k (some x) p n = some t := e
  unfold gu at e
  by_cases c : p = q
  · rw [if_pos c] at e
    by_cases c2 : n = k
    · simp only [if_pos c2] at e; cases e; exact hx
    · simp only [if_neg c2] at e; exact h _ _ _ e
  · rw [if_neg c] at e; exact h _ _ _ e
theorem clG_new {k n sl : Nat} (h : clG C S) : clG C (gv_new S k n sl) := fun p m t e => by
  have e : gw S.1.2.2 S.1.1 (fun _ => none) p m = some t := e
  unfold gw at e
  by_cases c : p = S.1.1
  · rw [if_pos c] at e; cases e
  · rw [if_neg c] at e; exact h _ _ _ e
theorem cl_new {k n sl : Nat} (hq : C (.ref S.1.1)) : ∀ p, ¬ C (.ref p) → (gv_new S k n sl).2.1.2 p = S.2.1.2 p := fun p hp => by
  have : p ≠ S.1.1 := fun e => hp (by rw [e]; exact hq)
  show gw S.2.1.2 S.1.1 (fun _ => 0) p = _
  unfold gw
  rw [if_neg this]
theorem cl_goN {pc k n sl : Nat} {lo : gv_L} {st : List Value} (hz : ∀ pc' lo' st' S', a = .inl (pc', lo', st', S') → S.1.1 < S'.1.1 → C (.ref S.1.1)) (hl : clL C lo) (ht : clT C st) (hg : clG C S) : clD C S a (gv_go pc lo (.ref S.1.1 :: st) (gv_new S k n sl)) (gv_go pc lo (.ref S.1.1 :: st) (gv_new S k n sl)) := fun e => by
  have hc : C (.ref S.1.1) := hz _ _ _ _ (Option.some.inj e).symm (Nat.lt_succ_self _)
  exact cl_goS hl (clT_c hc ht) (clG_new hg) (cl_new hc) (Nat.le_succ _) e
theorem cl_get {b : Nat} {q pc : Nat} {lo : gv_L} {st : List Value} (hl : clL C lo) (ht : clT C st) (hg : clG C S) : clD C S a (match S.1.2.2 q b with
      | some t => gv_go pc lo (.ref t :: st) S
      | none => none) (match S.1.2.2 q b with
      | some t => gv_go pc lo (.ref t :: st) S
      | none => none) := by
  cases e : S.1.2.2 q b with
  | none => exact cl_none
  | some t => exact cl_go hl (clT_c (hg _ _ _ e) ht) hg
end CL
set_option maxHeartbeats 4000000 in
set_option maxRecDepth 100000 in
theorem cl_step {C : Value → Prop} {fk : List (List Nat)} {tx : List (List Int32)} {X X' : gv_X} {M : gv_Mt} {pc : Nat} {lo : gv_L} {st : List Value} {S : gv_S} {a : gv_A} (hc : clK C) (hX : C (.retAddr 0) → X' = X) (hl : clL C lo) (ht : clT C st) (hg : clG C S) (hz : ∀ pc' lo' st' S', a = .inl (pc', lo', st', S') → S.1.1 < S'.1.1 → C (.ref S.1.1)) : clD C S a (gv_step fk tx X M pc lo st S) (gv_step fk tx X' M pc lo st S) := by
  unfold gv_step
  rcases hE : M.2.2.2.2.2 pc with ⟨i, x, b, k⟩
  have I := hc.1
  have L := hc.2.1
  cases i with
  | iconst _ =>
    exact cl_go hl (clT_c (I _) ht) hg
  | bipush _ =>
    exact cl_go hl (clT_c (I _) ht) hg
  | sipush _ =>
    exact cl_go hl (clT_c (I _) ht) hg
  | lconst _ =>
    exact cl_go hl (clT_c (L _) ht) hg
  | ldc2_w _ =>
    exact cl_go hl (clT_c (L _) ht) hg
  | goto _ =>
    exact cl_go hl ht hg
  | ldc _ =>
    cases b with
    | zero => exact cl_go hl (clT_c (I _) ht) hg
    | succ b => exact cl_go hl (clT_c (hc.2.2 _) ht) hg
  | ldc_w _ =>
    cases b with
    | zero => exact cl_go hl (clT_c (I _) ht) hg
    | succ b => exact cl_go hl (clT_c (hc.2.2 _) ht) hg
  | iload_n _ =>
    exact cl_li (fun _ => cl_go hl (clT_c (I _) ht) hg)
  | iload _ =>
    exact cl_li (fun _ => cl_go hl (clT_c (I _) ht) hg)
  | lload_n _ =>
    exact cl_ll (fun _ => cl_go hl (clT_c (L _) ht) hg)
  | lload _ =>
    exact cl_ll (fun _ => cl_go hl (clT_c (L _) ht) hg)
  | aload_n _ =>
    exact cl_la hl (fun _ h => cl_go hl (clT_c h ht) hg)
  | aload _ =>
    exact cl_la hl (fun _ h => cl_go hl (clT_c h ht) hg)
  | istore_n _ =>
    exact cl_pi ht (fun _ _ h => cl_sto hl (fun y e => by cases e; exact I _) (fun _ h2 => cl_go h2 h hg))
  | istore _ =>
    exact cl_pi ht (fun _ _ h => cl_sto hl (fun y e => by cases e; exact I _) (fun _ h2 => cl_go h2 h hg))
  | lstore_n _ =>
    exact cl_pl ht (fun _ _ h => cl_sto2 hl (fun y e => by cases e; exact L _) (fun _ h2 => cl_go h2 h hg))
  | lstore _ =>
    exact cl_pl ht (fun _ _ h => cl_sto2 hl (fun y e => by cases e; exact L _) (fun _ h2 => cl_go h2 h hg))
  | astore_n _ =>
    exact cl_pa ht (fun _ _ h1 h => cl_sto hl (fun y e => by cases e; exact h1) (fun _ h2 => cl_go h2 h hg))
  | astore _ =>
    exact cl_pa ht (fun _ _ h1 h => cl_sto hl (fun y e => by cases e; exact h1) (fun _ h2 => cl_go h2 h hg))
  | iinc _ _ =>
    exact cl_li (fun _ => cl_sto hl (fun y e => by cases e; exact I _) (fun _ h2 => cl_go h2 ht hg))
  | iadd =>
    exact cl_i2 hc hl ht hg
  | isub =>
    exact cl_i2 hc hl ht hg
  | imul =>
    exact cl_i2 hc hl ht hg
  | iand =>
    exact cl_i2 hc hl ht hg
  | ior =>
    exact cl_i2 hc hl ht hg
  | ixor =>
    exact cl_i2 hc hl ht hg
  | ishl =>
    exact cl_i2 hc hl ht hg
  | ishr =>
    exact cl_i2 hc hl ht hg
  | iushr =>
    exact cl_i2 hc hl ht hg
  | ladd =>
    exact cl_l2 hc hl ht hg
  | lmul =>
    exact cl_l2 hc hl ht hg
  | idiv =>
    exact cl_pi ht (fun _ _ h => cl_pi h (fun _ _ h2 => cl_gd (fun _ => cl_go hl (clT_c (I _) h2) hg)))
  | irem =>
    exact cl_pi ht (fun _ _ h => cl_pi h (fun _ _ h2 => cl_gd (fun _ => cl_go hl (clT_c (I _) h2) hg)))
  | ldiv =>
    exact cl_pl ht (fun _ _ h => cl_pl h (fun _ _ h2 => cl_gd (fun _ => cl_go hl (clT_c (L _) h2) hg)))
  | lcmp =>
    exact cl_pl ht (fun _ _ h => cl_pl h (fun _ _ h2 => cl_go hl (clT_c (I _) h2) hg))
  | ineg =>
    exact cl_pi ht (fun _ _ h => cl_go hl (clT_c (I _) h) hg)
  | i2b =>
    exact cl_pi ht (fun _ _ h => cl_go hl (clT_c (I _) h) hg)
  | i2l =>
    exact cl_pi ht (fun _ _ h => cl_go hl (clT_c (L _) h) hg)
  | l2i =>
    exact cl_pl ht (fun _ _ h => cl_go hl (clT_c (I _) h) hg)
  | dup =>
    cases st with
    | nil => exact cl_none
    | cons v r => exact cl_gd (fun _ => cl_go hl (clT_c (clT_h ht) ht) hg)
  | pop =>
    cases st with
    | nil => exact cl_none
    | cons v r => exact cl_gd (fun _ => cl_go hl (clT_t ht) hg)
  | dup2 =>
    cases st with
    | nil => exact cl_none
    | cons v r => cases r with
      | nil => exact cl_none
      | cons w r => exact cl_gd (fun _ => cl_go hl (clT_c (clT_h ht) (clT_c (clT_h (clT_t ht)) ht)) hg)
  | ifCond _ _ =>
    exact cl_pi ht (fun _ _ h => cl_br h)
  | if_icmp _ _ =>
    exact cl_pi ht (fun _ _ h => cl_pi h (fun _ _ h2 => cl_br h2))
  | tableswitch d l h os =>
    refine cl_pi ht (fun y r h1 => ?_)
    (try dsimp only)
    cases decide (y.toInt < l) || decide (h < y.toInt) with
    | true => exact cl_jmp hl h1 hg
    | false => cases os[(y.toInt - l).toNat]? with
      | none => exact cl_none
      | some o => exact cl_jmp hl h1 hg
  | lookupswitch _ _ =>
    exact cl_pi ht (fun _ _ h => cl_jmp hl h hg)
  | getfield _ =>
    refine cl_pr ht (fun q r hq h => cl_gd (fun _ => ?_))
    (try dsimp only)
    split
    · exact cl_get hl h hg
    · exact cl_none
    · exact cl_go hl (clT_c (I _) h) hg
  | putfield _ =>
    (try dsimp only)
    split
    · exact cl_pi ht (fun _ _ h => cl_pr h (fun _ _ _ h2 => cl_gd (fun _ => cl_goS hl h2 hg (fun _ _ => rfl) (Nat.le_refl _))))
    · exact cl_pi ht (fun _ _ h => cl_pr h (fun _ _ _ h2 => cl_gd (fun _ => cl_goS hl h2 hg (fun _ _ => rfl) (Nat.le_refl _))))
    · exact cl_pr ht (fun _ _ hx h => cl_pr h (fun _ _ _ h2 => cl_gd (fun _ => cl_goS hl h2 (clG_P hg hx) (fun _ _ => rfl) (Nat.le_refl _))))
    · exact cl_none
  | iaload =>
    refine cl_pi ht (fun y r h => ?_)
    (try dsimp only)
    cases r with
    | nil => exact cl_none
    | cons v r => cases v with
      | ref q => exact cl_gd (fun _ => cl_go hl (clT_c (I _) (clT_t h)) hg)
      | retAddr n => cases n with
        | zero =>
          rw [hX (clT_h h)]
          exact cl_gd (fun _ => cl_go hl (clT_c (I _) (clT_t h)) hg)
        | succ n => exact cl_none
      | _ => exact cl_none
  | baload =>
    exact cl_pi ht (fun _ _ h => cl_pr h (fun _ _ _ h2 => cl_gd (fun _ => cl_go hl (clT_c (I _) h2) hg)))
  | laload =>
    exact cl_pi ht (fun _ _ h => cl_pr h (fun _ _ _ h2 => cl_gd (fun _ => cl_go hl (clT_c (L _) h2) hg)))
  | aaload =>
    exact cl_pi ht (fun _ _ h => cl_pr h (fun _ _ _ h2 => cl_gd (fun _ => cl_get hl h2 hg)))
  | iastore =>
    exact cl_pi ht (fun _ _ h => cl_pi h (fun _ _ h1 => cl_pr h1 (fun _ _ _ h2 => cl_gd (fun _ => cl_goS hl h2 hg (fun _ _ => rfl) (Nat.le_refl _)))))
  | bastore =>
    exact cl_pi ht (fun _ _ h => cl_pi h (fun _ _ h1 => cl_pr h1 (fun _ _ _ h2 => cl_gd (fun _ => cl_goS hl h2 hg (fun _ _ => rfl) (Nat.le_refl _)))))
  | lastore =>
    exact cl_pl ht (fun _ _ h => cl_pi h (fun _ _ h1 => cl_pr h1 (fun _ _ hq h2 => cl_gd (fun _ => cl_goS hl h2 hg (cl_J hq) (Nat.le_refl _)))))
  | aastore =>
    exact cl_pr ht (fun _ _ hx h => cl_pi h (fun _ _ h1 => cl_pr h1 (fun _ _ _ h2 => cl_gd (fun _ => cl_goS hl h2 (clG_P hg hx) (fun _ _ => rfl) (Nat.le_refl _)))))
  | arraylength =>
    (try dsimp only)
    cases st with
    | nil => exact cl_none
    | cons v r => cases v with
      | ref q => exact cl_gd (fun _ => cl_go hl (clT_c (I _) (clT_t ht)) hg)
      | retAddr n => cases n with
        | zero =>
          rw [hX (clT_h ht)]
          exact cl_go hl (clT_c (I _) (clT_t ht)) hg
        | succ n => exact cl_none
      | _ => exact cl_none
  | new _ =>
    (try dsimp only)
    cases Nat.ble 300 x with
    | true => exact cl_gd (fun _ => cl_thr)
    | false => exact cl_gd (fun _ => cl_goN hz hl ht hg)
  | newarray _ =>
    exact cl_pi ht (fun _ _ h => cl_gd (fun _ => cl_goN hz hl h hg))
  | anewarray _ =>
    exact cl_pi ht (fun _ _ h => cl_gd (fun _ => cl_goN hz hl h hg))
  | invokevirtual _ =>
    (try dsimp only)
    cases Nat.ble 990000 x with
    | true =>
      (try dsimp only)
      split
      · exact cl_px ht (fun _ _ h => cl_gd (fun _ => cl_go hl (clT_c (I _) h) hg))
      · exact cl_pi ht (fun _ _ h => cl_px h (fun _ _ h2 => cl_gd (fun _ => cl_go hl (clT_c (I _) h2) hg)))
    | false => exact cl_args ht (fun _ _ h1 h => cl_pr h (fun _ _ hq h2 => cl_gd (fun _ => cl_call (clT_c hq h1) h2)))
  | invokespecial _ =>
    (try dsimp only)
    cases Nat.ble 990000 x with
    | true => exact cl_pr ht (fun _ _ _ h => cl_gd (fun _ => cl_go hl h hg))
    | false => exact cl_args ht (fun _ _ h1 h => cl_pr h (fun _ _ hq h2 => cl_gd (fun _ => cl_call (clT_c hq h1) h2)))
  | invokestatic _ =>
    (try dsimp only)
    cases Nat.ble 990000 x with
    | true => exact cl_pi ht (fun _ _ h => cl_pi h (fun _ _ h => cl_pr h (fun _ _ _ h => cl_pi h (fun _ _ h => cl_pr h (fun _ _ _ h => cl_gd (fun _ => cl_goS hl h hg (fun _ _ => rfl) (Nat.le_refl _)))))))
    | false => exact cl_args ht (fun _ _ h1 h => cl_gd (fun _ => cl_call h1 h))
  | ireturn =>
    exact cl_iret ht
  | lreturn =>
    (try dsimp only)
    cases st with
    | nil => exact cl_none
    | cons v r => cases r with
      | nil => cases v <;> first | exact cl_none | exact cl_ret (fun y e => by cases e; exact L _)
      | cons w r => cases v <;> exact cl_none
  | return_ =>
    (try dsimp only)
    cases st with
    | nil => exact cl_ret (fun y e => by cases e)
    | cons v r => exact cl_none
  | _ => exact cl_none
theorem cl_ent {C : Value → Prop} : ∀ {as : List Value}, clT C as → clL C (gv_ent as)
  | [], _, i, v, h => by cases h
  | w :: r, ht, i, v, h => by
    unfold gv_ent at h
    cases e : Nat.beq w.category 2 with
    | true =>
      rw [e] at h
      cases i with
      | zero => cases h; exact clT_h ht
      | succ i => cases i with
        | zero => cases h
        | succ i => exact cl_ent (clT_t ht) i v h
    | false =>
      rw [e] at h
      cases i with
      | zero => cases h; exact clT_h ht
      | succ i => exact cl_ent (clT_t ht) i v h
theorem cl_enter {C : Value → Prop} {as : List Value} {n : Nat} (ht : clT C as) : clL C (gv_enter as n) := fun i v h => by
  unfold gv_enter at h
  by_cases c : i < (gv_ent as).length
  · rw [List.getElem?_append_left c] at h
    exact cl_ent ht i v h
  · rw [List.getElem?_append_right (by omega)] at h
    rw [List.getElem?_replicate] at h
    split at h <;> cases h
theorem cl_caught {C : Value → Prop} {M : gv_Mt} {y pc' : Nat} {lo lo' : gv_L} (hl : clL C lo) (h : gv_caught M y lo = some (pc', lo')) : clL C lo' := by
  unfold gv_caught at h
  split at h
  · unfold gv_sto gv_gd at h
    split at h
    · cases h; exact clL_s hl (fun x e => by cases e)
    · cases h
  · unfold gv_sto gv_gd at h
    split at h
    · cases h; exact clL_s hl (fun x e => by cases e)
    · cases h
  · cases h
def clR (C : Value → Prop) (S : gv_S) (r : gv_O × gv_S) : Prop := clG C r.2 ∧ (∀ v, r.1 = .inl (some v) → C v) ∧ (∀ q, ¬ C (.ref q) → r.2.2.1.2 q = S.2.1.2 q) ∧ S.1.1 ≤ r.2.1.1
/-- the counter grows: a run of any values -/
theorem cl_run {C : Value → Prop} {fk : List (List Nat)} {tx : List (List Int32)} {P : Nat → gv_Mt} {X X' : gv_X} (hc : clK C) (hX : C (.retAddr 0) → X' = X) (mono : (∀ v, C v) ∨ ∀ (n d : Nat) (M : gv_Mt) (pc : Nat) (lo : gv_L) (st : List Value) (S : gv_S) (r : gv_O × gv_S), gv_run fk tx P X n d M pc lo st S = some r → S.1.1 ≤ r.2.1.1) : ∀ (n d : Nat) (M : gv_Mt) (pc : Nat) (lo : gv_L) (st : List Value) (S : gv_S) (r : gv_O × gv_S), gv_run fk tx P X n d M pc lo st S = some r → clL C lo → clT C st → clG C S → (∀ m, S.1.1 ≤ m → m < r.2.1.1 → C (.ref m)) → gv_run fk tx P X' n d M pc lo st S = some r ∧ clR C S r := by
  have MO : ∀ {n d : Nat} {M : gv_Mt} {pc : Nat} {lo : gv_L} {st : List Value} {S : gv_S} {r : gv_O × gv_S}, gv_run fk tx P X n d M pc lo st S = some r → (∀ v, C v) ∨ S.1.1 ≤ r.2.1.1 := fun h => by
    rcases mono with z | z
    · exact Or.inl z
    · exact Or.inr (z _ _ _ _ _ _ _ _ h)
  intro n
  induction n with
  | zero => intro d M pc lo st S r h; cases h
  | succ n ih =>
    intro d M pc lo st S r h hl ht hg hz
    unfold gv_run at h ⊢
    cases hs : gv_step fk tx X M pc lo st S with
    | none => rw [hs] at h; cases h
    | some a =>
      rw [hs] at h
      have Z : ∀ pc' lo' st' S', a = .inl (pc', lo', st', S') → S.1.1 < S'.1.1 → C (.ref S.1.1) := fun pc' lo' st' S' e hlt => by
        subst e
        have h : gv_run fk tx P X n d M pc' lo' st' S' = some r := h
        rcases MO h with z | z
        · exact z _
        · exact hz _ (Nat.le_refl _) (Nat.lt_of_lt_of_le hlt z)
      obtain ⟨ca, hs'⟩ := cl_step (X' := X') hc hX hl ht hg Z hs
      rw [hs']
      rcases a with ⟨pc', lo', st', S'⟩ | ⟨b, t, f, st'⟩ | ⟨k, vf, as, rest⟩ | v | e
      · obtain ⟨c1, c2, c3, c4, c5⟩ := ca
        obtain ⟨q1, q2, q3, q4, q5⟩ := ih _ _ _ _ _ _ _ h c1 c2 c3 (fun m a b => hz m (Nat.le_trans c5 a) b)
        exact ⟨q1, q2, q3, fun q hq => (q4 q hq).trans (c4 q hq), Nat.le_trans c5 q5⟩
      · cases b
        · exact ih _ _ _ _ _ _ _ h hl ca hg hz
        · exact ih _ _ _ _ _ _ _ h hl ca hg hz
      · obtain ⟨c1, c2⟩ := ca
        cases d with
        | zero => cases h
        | succ d =>
          dsimp only at h ⊢
          cases hb : Nat.ble (gv_ent as).length (P k).2.2.1 with
          | false => rw [hb] at h; cases h
          | true =>
            rw [hb] at h
            unfold gv_gd at h ⊢
            dsimp only at h ⊢
            cases hr : gv_run fk tx P X n d (P k) 0 (gv_enter as (P k).2.2.1) [] S with
            | none => rw [hr] at h; cases h
            | some w =>
              rw [hr] at h
              rcases w with ⟨v | x, S'⟩
              · have h : gv_run fk tx P X n (d + 1) M (pc + 3) lo (v.toList ++ rest) S' = some r := h
                have up : ∀ m, S.1.1 ≤ m → m < S'.1.1 → C (.ref m) := fun m a b => by
                  rcases MO h with z | z
                  · exact z _
                  · exact hz m a (Nat.lt_of_lt_of_le b z)
                obtain ⟨q1, q2, q3, q4, q5⟩ := ih _ _ _ _ _ _ _ hr (cl_enter c1) (fun v hv => by cases hv) hg up
                rw [q1]
                have tt : clT C (v.toList ++ rest) := fun y hy => by
                  rcases List.mem_append.mp hy with hy | hy
                  · cases v with
                    | none => cases hy
                    | some v => rw [List.mem_singleton.mp hy]; exact q3 v rfl
                  · exact c2 y hy
                obtain ⟨u1, u2, u3, u4, u5⟩ := ih _ _ _ _ _ _ _ h hl tt q2 (fun m a b => hz m (Nat.le_trans q5 a) b)
                exact ⟨u1, u2, u3, fun q hq => (u4 q hq).trans (q4 q hq), Nat.le_trans q5 u5⟩
              · cases vf
                · cases h
                · dsimp only at h
                  cases hh : gv_hand M.2.2.2.2.1 pc x with
                  | none =>
                    rw [hh] at h
                    dsimp only at h
                    split at h
                    · rename_i e0
                      cases h
                      obtain ⟨q1, q2, q3, q4, q5⟩ := ih _ _ _ _ _ _ _ hr (cl_enter c1) (fun v hv => by cases hv) hg hz
                      rw [q1]
                      (try dsimp only)
                      rw [hh]
                      (try rw [e0])
                      exact ⟨rfl, q2, fun v e => (by cases e), q4, q5⟩
                    · cases h
                  | some y =>
                    rw [hh] at h
                    dsimp only at h
                    cases hg2 : gv_caught M y lo with
                    | none => rw [hg2] at h; cases h
                    | some z =>
                      rw [hg2] at h
                      obtain ⟨pc', lo'⟩ := z
                      have h : gv_run fk tx P X n (d + 1) M pc' lo' [] S' = some r := h
                      have up : ∀ m, S.1.1 ≤ m → m < S'.1.1 → C (.ref m) := fun m a b => by
                        rcases MO h with z | z
                        · exact z _
                        · exact hz m a (Nat.lt_of_lt_of_le b z)
                      obtain ⟨q1, q2, q3, q4, q5⟩ := ih _ _ _ _ _ _ _ hr (cl_enter c1) (fun v hv => by cases hv) hg up
                      rw [q1]
                      (try dsimp only)
                      rw [hh]
                      (try dsimp only)
                      rw [hg2]
                      obtain ⟨u1, u2, u3, u4, u5⟩ := ih _ _ _ _ _ _ _ h (cl_caught hl hg2) (fun v hv => by cases hv) q2 (fun m a b => hz m (Nat.le_trans q5 a) b)
                      exact ⟨u1, u2, u3, fun q hq => (u4 q hq).trans (q4 q hq), Nat.le_trans q5 u5⟩
      · cases h
        exact ⟨rfl, hg, fun y e => (by cases e; exact ca _ rfl), fun _ _ => rfl, Nat.le_refl _⟩
      · cases h
        exact ⟨rfl, hg, fun y e => (by cases e), fun _ _ => rfl, Nat.le_refl _⟩
theorem cl_mono {fk : List (List Nat)} {tx : List (List Int32)} {P : Nat → gv_Mt} {X : gv_X} (n d : Nat) (M : gv_Mt) (pc : Nat) (lo : gv_L) (st : List Value) (S : gv_S) (r : gv_O × gv_S) (h : gv_run fk tx P X n d M pc lo st S = some r) : S.1.1 ≤ r.2.1.1 := (cl_run (C := fun _ => True) (X' := X) ⟨fun _ => trivial, fun _ => trivial, fun _ => trivial⟩ (fun _ => rfl) (Or.inl (fun _ => trivial)) n d M pc lo st S r h (fun _ _ _ => trivial) (fun _ _ => trivial) (fun _ _ _ _ => trivial) (fun _ _ _ => trivial)).2.2.2.2
/-- all but one place, and not the script -/
def cl9 (z : Nat) (v : Value) : Prop := v ≠ .ref z ∧ v ≠ .retAddr 0
theorem cl9_K (z : Nat) : clK (cl9 z) := ⟨fun _ => ⟨fun e => (by cases e), fun e => (by cases e)⟩, fun _ => ⟨fun e => (by cases e), fun e => (by cases e)⟩, fun _ => ⟨fun e => (by cases e), fun e => (by cases e)⟩⟩
theorem ev_279 {X : gv_X} {d : Nat} {M : gv_Mt} {as : List Value} {n : Nat} {S : gv_S} {r : gv_O × gv_S} (h : Ev X d M 0 (gv_enter as n) [] S r) (ha : clT (cl9 279) as) (hg : ∀ q k, S.1.2.2 q k ≠ some 279) (hn : 279 < S.1.1) : r.2.2.1.2 279 = S.2.1.2 279 := by
  obtain ⟨m, h⟩ := h
  exact (cl_run (C := cl9 279) (X' := X) (cl9_K 279) (fun e => absurd rfl e.2) (Or.inr (fun n d M pc lo st S r h => cl_mono n d M pc lo st S r h)) m d M 0 _ [] S r h (cl_enter ha) (fun v hv => (by cases hv)) (fun q k t e => ⟨fun z => hg q k (by rw [e]; cases z; rfl), fun z => (by cases z)⟩) (fun m a _ => ⟨fun z => by cases z; omega, fun z => (by cases z)⟩)).2.2.2.1 279 (fun z => z.1 rfl)
