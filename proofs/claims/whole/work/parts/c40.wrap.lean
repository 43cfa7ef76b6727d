/-! the law's wrappers: what is thrown becomes a number -/
def ccl (c c1 : gv_Rs) : Prop := c1.2.1 ≤ c.2.1 + 1 ∧ c1.2.2 ≤ c.2.2 + 6
theorem ccl_rf (c : gv_Rs) : ccl c c := ⟨Nat.le_succ _, Nat.le_add_right _ _⟩
theorem oc_0 {e : Nat → Nat} {c v : Nat} {S : gv_S} (h : c = 0) : oc e c v S = (.inl (some (.int (nI v))), S) := if_pos h
theorem oc_x {e : Nat → Nat} {c v n m : Nat} {S : gv_S} (h : c = n) (hn : n ≠ 0) (he : e n = m) : oc e c v S = (.inr m, gv_ex S) := by
  subst h
  unfold oc
  rw [if_neg hn, he]
