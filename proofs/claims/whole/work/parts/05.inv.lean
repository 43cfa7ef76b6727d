/-! what a step that goes on was -/
theorem gv_gd_some {β : Type} {b : Bool} {o : Option β} {x : β} (h : gv_gd b o = some x) : b = true ∧ o = some x := by
  cases b with
  | true => exact ⟨rfl, h⟩
  | false => cases h
theorem gv_pi_some {β : Type} {st : List Value} {k : Int32 → List Value → Option β} {x : β} (h : gv_pi st k = some x) : ∃ a r, st = .int a :: r ∧ k a r = some x := by
  unfold gv_pi at h
  split at h
  · exact ⟨_, _, rfl, h⟩
  · cases h
theorem gv_pl_some {β : Type} {st : List Value} {k : Int64 → List Value → Option β} {x : β} (h : gv_pl st k = some x) : ∃ a r, st = .long a :: r ∧ k a r = some x := by
  unfold gv_pl at h
  split at h
  · exact ⟨_, _, rfl, h⟩
  · cases h
theorem gv_pr_some {β : Type} {st : List Value} {k : Nat → List Value → Option β} {x : β} (h : gv_pr st k = some x) : ∃ a r, st = .ref a :: r ∧ k a r = some x := by
  unfold gv_pr at h
  split at h
  · exact ⟨_, _, rfl, h⟩
  · cases h
theorem gv_px_some {β : Type} {st : List Value} {k : Nat → List Value → Option β} {x : β} (h : gv_px st k = some x) : ∃ a r, st = .retAddr a :: r ∧ k a r = some x := by
  unfold gv_px at h
  split at h
  · exact ⟨_, _, rfl, h⟩
  · cases h
theorem gv_pa_some {β : Type} {st : List Value} {k : Value → List Value → Option β} {x : β} (h : gv_pa st k = some x) : ∃ a r, st = a :: r ∧ ((∃ q, a = Value.ref q) ∨ ∃ q, a = Value.retAddr q) ∧ k a r = some x := by
  unfold gv_pa at h
  split at h
  · exact ⟨_, _, rfl, Or.inl ⟨_, rfl⟩, h⟩
  · exact ⟨_, _, rfl, Or.inr ⟨_, rfl⟩, h⟩
  · cases h
theorem gv_li_some {β : Type} {lo : gv_L} {i : Nat} {k : Int32 → Option β} {x : β} (h : gv_li lo i k = some x) : ∃ a, lo[i]? = some (some (.int a)) ∧ k a = some x := by
  unfold gv_li at h
  split at h
  · rename_i a e
    exact ⟨a, e, h⟩
  · cases h
theorem gv_ll_some {β : Type} {lo : gv_L} {i : Nat} {k : Int64 → Option β} {x : β} (h : gv_ll lo i k = some x) : ∃ a, lo[i]? = some (some (.long a)) ∧ k a = some x := by
  unfold gv_ll at h
  split at h
  · rename_i a e
    exact ⟨a, e, h⟩
  · cases h
theorem gv_la_some {β : Type} {lo : gv_L} {i : Nat} {k : Value → Option β} {x : β} (h : gv_la lo i k = some x) : ∃ a, lo[i]? = some (some a) ∧ ((∃ q, a = Value.ref q) ∨ ∃ q, a = Value.retAddr q) ∧ k a = some x := by
  unfold gv_la at h
  split at h
  · rename_i a e
    exact ⟨_, e, Or.inl ⟨_, rfl⟩, h⟩
  · rename_i a e
    exact ⟨_, e, Or.inr ⟨_, rfl⟩, h⟩
  · cases h
theorem gv_sto_some {β : Type} {lo : gv_L} {i : Nat} {v : Option Value} {k : gv_L → Option β} {x : β} (h : gv_sto lo i v k = some x) : gv_ok lo i = true ∧ i < lo.length ∧ k (lo.set i v) = some x := by
  obtain ⟨h1, h2⟩ := gv_gd_some h
  simp only [Bool.and_eq_true] at h1
  exact ⟨h1.1, Nat.le_of_ble_eq_true h1.2, h2⟩
theorem gv_sto2_some {β : Type} {lo : gv_L} {i : Nat} {v : Option Value} {k : gv_L → Option β} {x : β} (h : gv_sto2 lo i v k = some x) : gv_ok lo i = true ∧ i + 1 < lo.length ∧ k ((lo.set i v).set (i + 1) none) = some x := by
  obtain ⟨h1, h2⟩ := gv_gd_some h
  simp only [Bool.and_eq_true] at h1
  exact ⟨h1.1, Nat.le_of_ble_eq_true h1.2, h2⟩
theorem gv_in_some {i : Int32} {n : Nat} (h : gv_in i n = true) : vp_in i n := by
  simp only [gv_in, Bool.and_eq_true, Bool.not_eq_true', decide_eq_false_iff_not] at h
  exact fun q => q.elim h.1 (fun q => absurd (Nat.le_of_ble_eq_true h.2) (by omega))
theorem gv_go_some {pc : Nat} {lo : gv_L} {st : List Value} {S : gv_S} {x : gv_A} (h : gv_go pc lo st S = some x) : x = .inl (pc, lo, st, S) := (Option.some.inj h).symm
/-- the world behind a change of one place -/
theorem gv_Wd.set {fk : List (List Nat)} {cl : List vw_C} {D : va_G} {ta : Nat → ClassId} {base : Nat} {S S' : gv_S} {U : State} {H H1 : Heap} {q : Nat} {e : va_E} (h : gv_Wd fk cl D ta base S U H) (hP : va_P D cl ((gv_pic fk ta base S).set q (base + q, e)) H1) (hq : gv_cell fk ta base S' q = e) (ho : ∀ a, a ≠ q → gv_cell fk ta base S' a = gv_cell fk ta base S a) (h1 : S'.1.1 = S.1.1) (h2 : S'.1.2.1 = S.1.2.1) : gv_Wd fk cl D ta base S' U H1 := by
  rw [gv_pic_set h1 hq ho] at hP
  obtain ⟨a1, a2, a5, a6⟩ := h
  refine ⟨a1, hP, ?_, ?_⟩
  · rw [h1, h2]; exact a5
  · rw [h2]; exact a6
theorem gv_Wd.lt {fk : List (List Nat)} {cl : List vw_C} {D : va_G} {ta : Nat → ClassId} {base : Nat} {S : gv_S} {U : State} {H : Heap} (h : gv_Wd fk cl D ta base S U H) {q k : Nat} (hk : (S.1.2.1 q).1 = k) (hk2 : k ≠ 999) : q < S.1.1 := by
  by_cases hq : q < S.1.1
  · exact hq
  · exact absurd ((h.2.2.1 q (Nat.le_of_not_lt hq)).symm.trans hk).symm hk2
