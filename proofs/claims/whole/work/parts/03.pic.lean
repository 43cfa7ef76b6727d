/-! the pictures: what the heap holds -/
def gv_cv (base : Nat) (ex : Nat → Nat) : Value → Value
  | .ref q => .ref (base + q)
  | .retAddr k => .ref (ex k)
  | v => v
theorem gv_cv_cat (base : Nat) (ex : Nat → Nat) (v : Value) : (gv_cv base ex v).category = v.category := by cases v <;> rfl
theorem gv_cat_map (base : Nat) (ex : Nat → Nat) (st : List Value) : ((st.map (gv_cv base ex)).map fun v => v.category).sum = gv_cat st := by
  unfold gv_cat
  rw [List.map_map]
  congr 1
  exact List.map_congr_left fun v _ => gv_cv_cat base ex v
/-- the value of a field -/
def gv_fv (fk : List (List Nat)) (base : Nat) (S : gv_S) (q ci k : Nat) : Value := if gv_fk fk ci k = 2 then va_rf ((S.1.2.2 q k).map fun t => base + t) else .int (S.2.1.1 q k)
def gv_fs (fk : List (List Nat)) (base : Nat) (S : gv_S) (q ci : Nat) : List Value := (List.range (fk.getD ci []).length).map (gv_fv fk base S q ci)
def gv_cell (fk : List (List Nat)) (ta : Nat → ClassId) (base : Nat) (S : gv_S) (q : Nat) : va_E :=
  if (S.1.2.1 q).1 < 50 then .inr ((S.1.2.1 q).1, gv_fs fk base S q (S.1.2.1 q).1)
  else if (S.1.2.1 q).1 = 102 then .inl (ta 102, (S.1.2.1 q).2, .inr (.inl (S.2.1.2 q)))
  else if (S.1.2.1 q).1 = 103 then .inl (ta 103, (S.1.2.1 q).2, .inr (.inr (.inr (.inr (fun i => (S.1.2.2 q i).map fun t => base + t)))))
  else .inl (ta (S.1.2.1 q).1, (S.1.2.1 q).2, .inl (S.2.1.1 q))
def gv_pic (fk : List (List Nat)) (ta : Nat → ClassId) (base : Nat) (S : gv_S) : va_W := (List.range S.1.1).map fun q => (base + q, gv_cell fk ta base S q)
theorem gv_pic_at {fk : List (List Nat)} {ta : Nat → ClassId} {base : Nat} {S : gv_S} {q : Nat} (h : q < S.1.1) : (gv_pic fk ta base S)[q]? = some (base + q, gv_cell fk ta base S q) := by
  simp [gv_pic, h]
theorem gv_pic_len {fk : List (List Nat)} {ta : Nat → ClassId} {base : Nat} {S : gv_S} : (gv_pic fk ta base S).length = S.1.1 := by simp [gv_pic]
theorem gv_pic_inv {fk : List (List Nat)} {ta : Nat → ClassId} {base : Nat} {S : gv_S} {q : Nat} {x : Nat × va_E} (h : (gv_pic fk ta base S)[q]? = some x) : q < S.1.1 ∧ x = (base + q, gv_cell fk ta base S q) := by
  have hl : q < S.1.1 := by
    have := (List.getElem?_eq_some_iff.mp h).1
    rwa [gv_pic_len] at this
  refine ⟨hl, ?_⟩
  rw [gv_pic_at hl] at h
  exact (Option.some.inj h).symm
/-- the addresses are apart -/
theorem gv_pic_D {fk : List (List Nat)} {ta : Nat → ClassId} {base : Nat} {S : gv_S} : va_D (fun q : Nat => base ≤ q) (gv_pic fk ta base S) := by
  refine ⟨fun i j x y hi hj hxy => ?_, fun k q hk => ?_⟩
  · rw [(gv_pic_inv hi).2, (gv_pic_inv hj).2] at hxy
    have h2 : base + i = base + j := hxy
    omega
  · rw [(gv_pic_inv hk).2]
    exact Nat.le_add_right base k
/-- one place has changed -/
theorem gv_pic_set {fk : List (List Nat)} {ta : Nat → ClassId} {base : Nat} {S S' : gv_S} {q : Nat} {e : va_E} (hn : S'.1.1 = S.1.1) (hq : gv_cell fk ta base S' q = e) (ho : ∀ a, a ≠ q → gv_cell fk ta base S' a = gv_cell fk ta base S a) : (gv_pic fk ta base S).set q (base + q, e) = gv_pic fk ta base S' := by
  refine List.ext_getElem? fun k => ?_
  by_cases hk : k < S.1.1
  · rw [gv_pic_at (S := S') (by rw [hn]; exact hk)]
    by_cases hkq : k = q
    · subst hkq
      rw [List.getElem?_set_self (by rw [gv_pic_len]; exact hk), hq]
    · rw [List.getElem?_set_ne (Ne.symm hkq), gv_pic_at hk, ho k hkq]
  · rw [List.getElem?_eq_none (by rw [List.length_set, gv_pic_len]; omega), List.getElem?_eq_none (by rw [gv_pic_len, hn]; omega)]
theorem gu_ne {α : Type} {f : Nat → Nat → α} {q k a : Nat} {v : α} (h : a ≠ q) : gu f q k v a = f a := by simp [gu, h]
theorem gu_eq {α : Type} {f : Nat → Nat → α} {q k : Nat} {v : α} : gu f q k v q = fun b => if b = k then v else f q b := by simp [gu]
theorem gw_ne {α : Type} {f : Nat → α} {q a : Nat} {v : α} (h : a ≠ q) : gw f q v a = f a := by simp [gw, h]
theorem gw_eq {α : Type} {f : Nat → α} {q : Nat} {v : α} : gw f q v q = v := by simp [gw]
/-- a cell is as the kinds, the references and the numbers of its place are -/
theorem gv_cell_congr {fk : List (List Nat)} {ta : Nat → ClassId} {base : Nat} {S S' : gv_S} {a : Nat} (h1 : S'.1.2.1 a = S.1.2.1 a) (h2 : S'.1.2.2 a = S.1.2.2 a) (h3 : S'.2.1.1 a = S.2.1.1 a) (h4 : S'.2.1.2 a = S.2.1.2 a) : gv_cell fk ta base S' a = gv_cell fk ta base S a := by
  have hf : ∀ ci, gv_fs fk base S' a ci = gv_fs fk base S a ci := by
    intro ci
    unfold gv_fs
    refine List.map_congr_left fun k _ => ?_
    unfold gv_fv
    rw [h2, h3]
  unfold gv_cell
  rw [h1, hf, h2, h3, h4]
theorem gv_fs_at {fk : List (List Nat)} {base : Nat} {S : gv_S} {q ci k : Nat} (h : k < (fk.getD ci []).length) : (gv_fs fk base S q ci)[k]? = some (gv_fv fk base S q ci k) := by
  simp only [gv_fs, List.getElem?_map, List.getElem?_range h, Option.map_some]
theorem gv_fs_len {fk : List (List Nat)} {base : Nat} {S : gv_S} {q ci : Nat} : (gv_fs fk base S q ci).length = (fk.getD ci []).length := by simp [gv_fs]
/-- a field is set: a number -/
theorem gv_fs_setI {fk : List (List Nat)} {base : Nat} {S : gv_S} {q ci k : Nat} {v : Int32} (hk : gv_fk fk ci k ≠ 2) : (gv_fs fk base S q ci).set k (.int v) = gv_fs fk base (gv_setI S q k v) q ci := by
  refine List.ext_getElem? fun j => ?_
  by_cases hj : j < (fk.getD ci []).length
  · rw [gv_fs_at hj]
    by_cases hjk : j = k
    · subst hjk
      rw [List.getElem?_set_self (by rw [gv_fs_len]; exact hj)]
      simp [gv_fv, hk, gv_setI, gu]
    · rw [List.getElem?_set_ne (Ne.symm hjk), gv_fs_at hj]
      simp [gv_fv, gv_setI, gu, hjk]
  · rw [List.getElem?_eq_none (by rw [List.length_set, gv_fs_len]; omega), List.getElem?_eq_none (by rw [gv_fs_len]; omega)]
theorem gv_fs_setP {fk : List (List Nat)} {base : Nat} {S : gv_S} {q ci k t : Nat} (hk : gv_fk fk ci k = 2) : (gv_fs fk base S q ci).set k (.ref (base + t)) = gv_fs fk base (gv_setP S q k (some t)) q ci := by
  refine List.ext_getElem? fun j => ?_
  by_cases hj : j < (fk.getD ci []).length
  · rw [gv_fs_at hj]
    by_cases hjk : j = k
    · subst hjk
      rw [List.getElem?_set_self (by rw [gv_fs_len]; exact hj)]
      simp [gv_fv, hk, gv_setP, gu, va_rf]
    · rw [List.getElem?_set_ne (Ne.symm hjk), gv_fs_at hj]
      simp [gv_fv, gv_setP, gu, hjk]
  · rw [List.getElem?_eq_none (by rw [List.length_set, gv_fs_len]; omega), List.getElem?_eq_none (by rw [gv_fs_len]; omega)]
/-- the world at a point of a walk -/
def gv_Wd (fk : List (List Nat)) (cl : List vw_C) (D : va_G) (ta : Nat → ClassId) (base : Nat) (S : gv_S) (U : State) (H : Heap) : Prop :=
  va_K D cl [(ta 100, .int), (ta 101, .byte), (ta 102, .long), (ta 103, .object "GuestView$World")] U ∧ va_P D cl (gv_pic fk ta base S) H ∧ (∀ q, S.1.1 ≤ q → (S.1.2.1 q).1 = 999) ∧ ∀ q, (S.1.2.1 q).1 < 50 ∨ (100 ≤ (S.1.2.1 q).1 ∧ (S.1.2.1 q).1 ≤ 103) ∨ (S.1.2.1 q).1 = 999
/-- the locals -/
def gv_Lo (base : Nat) (ex : Nat → Nat) (ls : Array Slot) (nL : Nat) (lo : gv_L) : Prop := lo.length = nL ∧ ls.size = nL ∧ lv_wf ls ∧ ∀ (i : Nat) (v : Value), lo[i]? = some (some v) → ls[i]? = some (.val (gv_cv base ex v))
def gv_lv (base : Nat) (ex : Nat → Nat) (lo : gv_L) : List (Nat × Value) := (List.range lo.length).filterMap fun i => match lo[i]? with
  | some (some v) => some (i, gv_cv base ex v)
  | _ => none
theorem gv_lv_mem {base : Nat} {ex : Nat → Nat} {lo : gv_L} {i : Nat} {v : Value} (h : lo[i]? = some (some v)) : (i, gv_cv base ex v) ∈ gv_lv base ex lo := by
  refine List.mem_filterMap.mpr ⟨i, List.mem_range.mpr (List.getElem?_eq_some_iff.mp h).1, ?_⟩
  rw [h]
theorem gv_lv_inv {base : Nat} {ex : Nat → Nat} {lo : gv_L} {x : Nat × Value} (h : x ∈ gv_lv base ex lo) : ∃ v, lo[x.1]? = some (some v) ∧ x.2 = gv_cv base ex v := by
  obtain ⟨i, -, hi⟩ := List.mem_filterMap.mp h
  cases hl : lo[i]? with
  | none => rw [hl] at hi; cases hi
  | some o =>
    cases o with
    | none => rw [hl] at hi; cases hi
    | some v =>
      rw [hl] at hi
      cases hi
      exact ⟨v, hl, rfl⟩
theorem gv_Lo.has {base : Nat} {ex : Nat → Nat} {ls : Array Slot} {nL : Nat} {lo : gv_L} (h : gv_Lo base ex ls nL lo) : lv_has ls nL (gv_lv base ex lo) := by
  refine ⟨h.2.1, h.2.2.1, fun x hx => ?_⟩
  obtain ⟨v, h1, h2⟩ := gv_lv_inv hx
  rw [h2]
  exact h.2.2.2 _ v h1
/-- a place is stored -/
theorem gv_Lo.sto {base : Nat} {ex : Nat → Nat} {ls : Array Slot} {nL : Nat} {lo : gv_L} {i : Nat} {v : Value} (h : gv_Lo base ex ls nL lo) (hok : gv_ok lo i = true) {ls' : Array Slot} (h' : lv_has ls' nL ((i, gv_cv base ex v) :: (gv_lv base ex lo).filter (fun q => !(q.1 == i) && !(q.1 + 1 == i && q.2.category == 2)))) (hi : i < lo.length) : gv_Lo base ex ls' nL (lo.set i (some v)) := by
  refine ⟨by rw [List.length_set]; exact h.1, h'.1, h'.2.1, fun j w hj => ?_⟩
  by_cases hji : j = i
  · subst hji
    rw [List.getElem?_set_self hi] at hj
    cases hj
    exact h'.2.2 (j, gv_cv base ex v) List.mem_cons_self
  · rw [List.getElem?_set_ne (Ne.symm hji)] at hj
    refine h'.2.2 (j, gv_cv base ex w) (List.mem_cons_of_mem _ (List.mem_filter.mpr ⟨gv_lv_mem hj, ?_⟩))
    have h1 : (j == i) = false := by simpa using hji
    by_cases hj1 : j + 1 = i
    · subst hj1
      simp only [gv_ok, hj] at hok
      have hc : w.category = 1 := Nat.eq_of_beq_eq_true hok
      simp [gv_cv_cat, hc]
    · simp [h1, hj1]
/-- a place is forgotten -/
theorem gv_Lo.no {base : Nat} {ex : Nat → Nat} {ls : Array Slot} {nL : Nat} {lo : gv_L} {i : Nat} {x : Value} (h : gv_Lo base ex ls nL lo) (hok : gv_ok lo i = true) {ls' : Array Slot} (h' : lv_has ls' nL ((i, x) :: (gv_lv base ex lo).filter (fun q => !(q.1 == i) && !(q.1 + 1 == i && q.2.category == 2)))) (hi : i < lo.length) : gv_Lo base ex ls' nL (lo.set i none) := by
  refine ⟨by rw [List.length_set]; exact h.1, h'.1, h'.2.1, fun j w hj => ?_⟩
  by_cases hji : j = i
  · subst hji
    rw [List.getElem?_set_self hi] at hj
    cases hj
  · rw [List.getElem?_set_ne (Ne.symm hji)] at hj
    refine h'.2.2 (j, gv_cv base ex w) (List.mem_cons_of_mem _ (List.mem_filter.mpr ⟨gv_lv_mem hj, ?_⟩))
    have h1 : (j == i) = false := by simpa using hji
    by_cases hj1 : j + 1 = i
    · subst hj1
      simp only [gv_ok, hj] at hok
      have hc : w.category = 1 := Nat.eq_of_beq_eq_true hok
      simp [gv_cv_cat, hc]
    · simp [h1, hj1]
/-- two places are stored -/
theorem gv_Lo.sto2 {base : Nat} {ex : Nat → Nat} {ls : Array Slot} {nL : Nat} {lo : gv_L} {i : Nat} {v : Value} (h : gv_Lo base ex ls nL lo) (hok : gv_ok lo i = true) {ls' : Array Slot} (h' : lv_has ls' nL ((i, gv_cv base ex v) :: (gv_lv base ex lo).filter (fun q => !(q.1 == i) && (!(q.1 == i + 1) && !(q.1 + 1 == i && q.2.category == 2))))) (hi : i + 1 < lo.length) : gv_Lo base ex ls' nL ((lo.set i (some v)).set (i + 1) none) := by
  refine ⟨by rw [List.length_set, List.length_set]; exact h.1, h'.1, h'.2.1, fun j w hj => ?_⟩
  by_cases hj2 : j = i + 1
  · subst hj2
    rw [List.getElem?_set_self (by rw [List.length_set]; exact hi)] at hj
    cases hj
  · rw [List.getElem?_set_ne (Ne.symm hj2)] at hj
    by_cases hji : j = i
    · subst hji
      rw [List.getElem?_set_self (by omega)] at hj
      cases hj
      exact h'.2.2 (j, gv_cv base ex v) List.mem_cons_self
    · rw [List.getElem?_set_ne (Ne.symm hji)] at hj
      refine h'.2.2 (j, gv_cv base ex w) (List.mem_cons_of_mem _ (List.mem_filter.mpr ⟨gv_lv_mem hj, ?_⟩))
      have h1 : (j == i) = false := by simpa using hji
      have h2 : (j == i + 1) = false := by simpa using hj2
      by_cases hj1 : j + 1 = i
      · subst hj1
        simp only [gv_ok, hj] at hok
        have hc : w.category = 1 := Nat.eq_of_beq_eq_true hok
        simp [gv_cv_cat, hc]
        try omega
      · simp [h1, h2, hj1]
