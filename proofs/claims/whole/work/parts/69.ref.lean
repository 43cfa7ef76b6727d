/-! ops two by two, the most micros -/
def oth (s : Nat) : Nat := s &&& (2 ^ tzN s ^^^ 4294967295)
def out (s o : Nat) : Nat := s &&& (2 ^ o ^^^ 4294967295)
theorem oth_c : ∀ s, s < 256 → (decide (s = 0) || (decide (oth s < s) && (decide (oth s = s &&& (s - 1)) && decide (tzN s < 8)))) = true := by decide +kernel
theorem oth_lt {s : Nat} (h : s < 256) (h0 : 0 < s) : oth s < s ∧ oth s = s &&& (s - 1) ∧ tzN s < 8 := by
  have := oth_c s h
  simp only [Bool.or_eq_true, Bool.and_eq_true, decide_eq_true_eq] at this
  omega
theorem out_le (s o : Nat) : out s o ≤ s := Nat.and_le_left
def pbV (R tab : Nat → Nat) (s o : Nat) : Nat := if o = 4294967295 then tab (oth s) else if oth s / 2 ^ o % 2 = 1 ∧ cls R (tzN s) o = false then R (30 + 9 * tzN s + 0) + R (30 + 9 * o + 0) + tab (out (oth s) o) else 4294967295
def pmN (R tab : Nat → Nat) (s : Nat) : Nat → Nat
  | 0 => smax 0 (tab (oth s))
  | o + 1 => smax (pmN R tab s o) (pbV R tab s o)
def paT (R : Nat → Nat) : Nat → Nat → Nat
  | 0 => fun _ => 0
  | k + 1 => fun i => if i = k + 1 then pmN R (paT R k) (k + 1) (R 0) else paT R k i
theorem smax_le {a b n : Nat} (h : a ≤ n) (h2 : b ≤ n ∨ b = 4294967295) (hn : n < 2147483648) : smax a b ≤ n := by
  unfold smax sg
  split <;> omega
theorem smax_or (a b : Nat) : smax a b = a ∨ smax a b = b := by
  unfold smax
  split
  · exact Or.inl rfl
  · exact Or.inr rfl
theorem pbV_le {R tab : Nat → Nat} (h : okW R) {s o : Nat} (hs : s < 256) (h0 : 0 < s) (ho : o = 4294967295 ∨ o < 8) (ht : ∀ i, i < s → tab i ≤ 6 * i) : pbV R tab s o ≤ 6 * s ∨ pbV R tab s o = 4294967295 := by
  obtain ⟨a, b, c⟩ := oth_lt hs h0
  have t1 := ht (oth s) a
  have o1 := (okW_o h c).1
  unfold pbV
  split
  · left; omega
  · have o2 := (okW_o h (p := o) (by omega)).1
    have l := out_le (oth s) o
    have t2 := ht (out (oth s) o) (by omega)
    split
    · left; omega
    · right; rfl
theorem pmN_le {R tab : Nat → Nat} (h : okW R) {s : Nat} (hs : s < 256) (h0 : 0 < s) (ht : ∀ i, i < s → tab i ≤ 6 * i) : ∀ o, o ≤ 8 → pmN R tab s o ≤ 6 * s
  | 0, _ => by
    obtain ⟨a, b, c⟩ := oth_lt hs h0
    have t1 := ht (oth s) a
    exact smax_le (by omega) (Or.inl (by omega)) (by omega)
  | o + 1, ho => smax_le (pmN_le h hs h0 ht o (by omega)) (pbV_le h hs h0 (by omega) ht) (by omega)
theorem paT_le {R : Nat → Nat} (h : okW R) : ∀ k, k < 256 → ∀ i, i ≤ k → paT R k i ≤ 6 * i
  | 0, _, i, _ => Nat.zero_le _
  | k + 1, hk, i, hi => by
    unfold paT
    split
    · rename_i e
      subst e
      exact pmN_le h hk (by omega) (fun i hi => paT_le h k (by omega) i (by omega)) _ (okW_n h).1
    · exact paT_le h k (by omega) i (by omega)
theorem pbV_t {R tab tab' : Nat → Nat} {s o : Nat} (hs : s < 256) (h0 : 0 < s) (ht : ∀ i, i < s → tab i = tab' i) : pbV R tab s o = pbV R tab' s o := by
  obtain ⟨a, b, c⟩ := oth_lt hs h0
  have l := out_le (oth s) o
  unfold pbV
  rw [ht _ a, ht (out (oth s) o) (by omega)]
theorem pmN_t {R tab tab' : Nat → Nat} {s : Nat} (hs : s < 256) (h0 : 0 < s) (ht : ∀ i, i < s → tab i = tab' i) : ∀ o, pmN R tab s o = pmN R tab' s o
  | 0 => by
    unfold pmN
    rw [ht _ (oth_lt hs h0).1]
  | o + 1 => by
    unfold pmN
    rw [pmN_t hs h0 ht o, pbV_t hs h0 ht]
theorem paT_st {R : Nat → Nat} {i : Nat} : ∀ {k m : Nat}, i ≤ k → paT R (k + m) i = paT R k i
  | _, 0, _ => rfl
  | k, m + 1, h => by
    show (if i = k + m + 1 then _ else paT R (k + m) i) = _
    rw [if_neg (by omega), paT_st h]
/-- what the whole table says of a set -/
theorem paT_s {R : Nat → Nat} {K s : Nat} (hs : s < 256) (h0 : 0 < s) (hK : s ≤ K) : paT R K s = pmN R (paT R K) s (R 0) := by
  obtain ⟨m, rfl⟩ : ∃ m, K = s + m := ⟨K - s, by omega⟩
  obtain ⟨k, rfl⟩ : ∃ k, s = k + 1 := ⟨s - 1, by omega⟩
  rw [paT_st (Nat.le_refl _)]
  show (if k + 1 = k + 1 then _ else _) = _
  rw [if_pos rfl]
  refine pmN_t hs h0 (fun i hi => ?_) _
  obtain ⟨n, hn⟩ : ∃ n, k + 1 + m = i + n := ⟨k + 1 + m - i, by omega⟩
  obtain ⟨n2, hn2⟩ : ∃ n2, k = i + n2 := ⟨k - i, by omega⟩
  rw [hn, paT_st (Nat.le_refl _), hn2, paT_st (Nat.le_refl _)]
/-- one of those tried is the most -/
theorem pmN_or {R tab : Nat → Nat} {s : Nat} (hz : tab (oth s) < 2147483648) : ∀ o, pmN R tab s o = tab (oth s) ∨ ∃ x, x < o ∧ pmN R tab s o = pbV R tab s x
  | 0 => by
    left
    unfold pmN smax sg
    split <;> omega
  | o + 1 => by
    have ih := pmN_or (R := R) hz o
    unfold pmN
    rcases smax_or (pmN R tab s o) (pbV R tab s o) with e | e
    · rw [e]
      rcases ih with h | ⟨x, hx, h⟩
      · exact Or.inl h
      · exact Or.inr ⟨x, by omega, h⟩
    · rw [e]
      exact Or.inr ⟨o, by omega, rfl⟩
theorem w333 {X : gv_X} {d : Nat} {G : gv_Sh} {A : Nat → Nat → Nat} {j : Nat → Nat → Int64} {cc : gv_Rs} {P : gv_O × gv_S → Prop} {s : Nat} {o : Nat} {R : Nat → Nat} (hp263 : oX12 G 263) (hR : A 264 = R) (H : (s < 256) ∧ ((0 < s) ∧ (((tzN s) < 32) ∧ ((o < 4294967296) ∧ (((¬ o = 4294967295) → ((s &&& ((2 ^ (tzN s)) ^^^ 4294967295)) < 2147483648) ∧ ((o < 32) ∧ (((¬ ((s &&& ((2 ^ (tzN s)) ^^^ 4294967295)) / 2 ^ o % 2 = 1)) → P (.inl (some (.int (nI 4294967295))), (G, (mI A, j), cc))) ∧ (((s &&& ((2 ^ (tzN s)) ^^^ 4294967295)) / 2 ^ o % 2 = 1) → (okW R) ∧ (((tzN s) < 8) ∧ ((o < 8) ∧ ((((cls R (tzN s) o) = true) → P (.inl (some (.int (nI 4294967295))), (G, (mI A, j), cc))) ∧ (((cls R (tzN s) o) = false) → (((30 + (9 * (tzN s))) + 0) < 2066) ∧ ((((30 + (9 * o)) + 0) < 2066) ∧ ((o < 32) ∧ ((((s &&& ((2 ^ (tzN s)) ^^^ 4294967295)) &&& ((2 ^ o) ^^^ 4294967295)) < 256) ∧ (P (.inl (some (.int (nI (((R ((30 + (9 * (tzN s))) + 0)) + (R ((30 + (9 * o)) + 0))) + (A 277 ((s &&& ((2 ^ (tzN s)) ^^^ 4294967295)) &&& ((2 ^ o) ^^^ 4294967295))))))), (G, (mI A, j), cc)))))))))))))) ∧ ((o = 4294967295) → ((s &&& ((2 ^ (tzN s)) ^^^ 4294967295)) < 256) ∧ (P (.inl (some (.int (nI (A 277 (s &&& ((2 ^ (tzN s)) ^^^ 4294967295)))))), (G, (mI A, j), cc))))))))) : EvP X (d + 5) gvm_333 0 (gv_enter [.ref 263, .int (nI s), .int (nI o)] 5) [] (G, (mI A, j), cc) P :=
  by
  subst hR
  exact (pv_iload_n rfl rfl   (pv_stat rfl rfl rfl rfl rfl rfl rfl rfl (r_firstOf (s := s) (A := A) H.1 H.2.1 ) (pv_istore_n rfl rfl   (pv_iload_n rfl rfl   (pn_iconst rfl rfl   (pv_iload_n rfl rfl   (pn_ishl1 rfl H.2.2.1  (pn_iconst rfl (by decide)   (pn_ixor rfl   (pn_iand rfl   (pv_istore rfl rfl   (pv_iload_n rfl rfl   (pn_iconst rfl (by decide)   (pn_ic_ne rfl H.2.2.2.1 (by decide) (fun c1 => (pv_iload rfl rfl   (pv_iload_n rfl rfl   (pv_stat rfl rfl rfl rfl rfl rfl rfl rfl (r_has (s := (s &&& ((2 ^ (tzN s)) ^^^ 4294967295))) (k := o) (A := A) (H.2.2.2.2.1 c1).1 (H.2.2.2.2.1 c1).2.1 ) (pv_if_eq_dc rfl  (fun c2 => (pn_iconst rfl (by decide)   (pv_ireti rfl rfl ((H.2.2.2.2.1 c1).2.2.1 c2)))) (fun c2 => (pv_aload_n rfl rfl   (pv_iload_n rfl rfl   (pv_iload_n rfl rfl   (pv_virt rfl rfl rfl rfl rfl (oX12_k hp263) rfl rfl rfl (r_doClash (a := (tzN s)) (b := o) (A := A) hp263 ((H.2.2.2.2.1 c1).2.2.2 c2).1 ((H.2.2.2.2.1 c1).2.2.2 c2).2.1 ((H.2.2.2.2.1 c1).2.2.2 c2).2.2.1 ) (pv_if_ne_zo rfl  (fun c3 => (pn_iconst rfl (by decide)   (pv_ireti rfl rfl (((H.2.2.2.2.1 c1).2.2.2 c2).2.2.2.1 c3)))) (fun c3 => (pv_aload_n rfl rfl   (pv_iload_n rfl rfl   (pn_iconst rfl rfl   (pv_virt rfl rfl rfl rfl rfl (oX12_k hp263) rfl rfl rfl (r_of (p := (tzN s)) (what := 0) (A := A) hp263 (((H.2.2.2.2.1 c1).2.2.2 c2).2.2.2.2 c3).1 ) (pv_aload_n rfl rfl   (pv_iload_n rfl rfl   (pn_iconst rfl rfl   (pv_virt rfl rfl rfl rfl rfl (oX12_k hp263) rfl rfl rfl (r_of (p := o) (what := 0) (A := A) hp263 (((H.2.2.2.2.1 c1).2.2.2 c2).2.2.2.2 c3).2.1 ) (pn_iadd rfl   (pv_aload_n rfl rfl   (pv_getP rfl rfl (oX12_k hp263) (oX12_30 hp263)   (pv_iload rfl rfl   (pn_iconst rfl rfl   (pv_iload_n rfl rfl   (pn_ishl1 rfl (((H.2.2.2.2.1 c1).2.2.2 c2).2.2.2.2 c3).2.2.1  (pn_iconst rfl (by decide)   (pn_ixor rfl   (pn_iand rfl   (pn_iald rfl (oX12_30c hp263) (by decide) (((H.2.2.2.2.1 c1).2.2.2 c2).2.2.2.2 c3).2.2.2.1 rfl (pn_iadd rfl   (pv_goto rfl (pv_ireti rfl rfl (((H.2.2.2.2.1 c1).2.2.2 c2).2.2.2.2 c3).2.2.2.2)))))))))))))))))))))))))))))))))) (fun c1 => (pv_aload_n rfl rfl   (pv_getP rfl rfl (oX12_k hp263) (oX12_30 hp263)   (pv_iload rfl rfl   (pn_iald rfl (oX12_30c hp263) (by decide) (H.2.2.2.2.2 c1).1 rfl (pv_ireti rfl rfl (H.2.2.2.2.2 c1).2))))))))))))))))))))
theorem r_pairedBy_p {X : gv_X} {d : Nat} {G : gv_Sh} {A : Nat → Nat → Nat} {j : Nat → Nat → Int64} {cc : gv_Rs} {P : gv_O × gv_S → Prop} {s : Nat} {o : Nat} (hp263 : oX12 G 263) (p0 : okW (A 264)) (p1 : s < 256) (p2 : 0 < s) (p3 : o = 4294967295 ∨ o < 8) (hP : P (.inl (some (.int (nI (pbV (A 264) (A 277) s o)))), (G, (mI A, j), cc))) : EvP X (d + 5) gvm_333 0 (gv_enter [.ref 263, .int (nI s), .int (nI o)] 5) [] (G, (mI A, j), cc) P := by
  have hz := (oth_lt p1 p2).2.2
  refine w333 hp263 rfl  ⟨by (first | omega | assumption | (have h8 := Nat.and_le_left (n := s) (m := 2 ^ tzN s ^^^ 4294967295); have h9 := Nat.and_le_left (n := s &&& (2 ^ tzN s ^^^ 4294967295)) (m := 2 ^ o ^^^ 4294967295); omega)), ⟨by (first | omega | assumption | (have h8 := Nat.and_le_left (n := s) (m := 2 ^ tzN s ^^^ 4294967295); have h9 := Nat.and_le_left (n := s &&& (2 ^ tzN s ^^^ 4294967295)) (m := 2 ^ o ^^^ 4294967295); omega)), ⟨by (first | omega | assumption | (have h8 := Nat.and_le_left (n := s) (m := 2 ^ tzN s ^^^ 4294967295); have h9 := Nat.and_le_left (n := s &&& (2 ^ tzN s ^^^ 4294967295)) (m := 2 ^ o ^^^ 4294967295); omega)), ⟨by (first | omega | assumption | (have h8 := Nat.and_le_left (n := s) (m := 2 ^ tzN s ^^^ 4294967295); have h9 := Nat.and_le_left (n := s &&& (2 ^ tzN s ^^^ 4294967295)) (m := 2 ^ o ^^^ 4294967295); omega)), ⟨fun c1 => ⟨by (first | omega | assumption | (have h8 := Nat.and_le_left (n := s) (m := 2 ^ tzN s ^^^ 4294967295); have h9 := Nat.and_le_left (n := s &&& (2 ^ tzN s ^^^ 4294967295)) (m := 2 ^ o ^^^ 4294967295); omega)), ⟨by (first | omega | assumption | (have h8 := Nat.and_le_left (n := s) (m := 2 ^ tzN s ^^^ 4294967295); have h9 := Nat.and_le_left (n := s &&& (2 ^ tzN s ^^^ 4294967295)) (m := 2 ^ o ^^^ 4294967295); omega)), ⟨fun c2 => ?_, fun c2 => ⟨by (first | omega | assumption | (have h8 := Nat.and_le_left (n := s) (m := 2 ^ tzN s ^^^ 4294967295); have h9 := Nat.and_le_left (n := s &&& (2 ^ tzN s ^^^ 4294967295)) (m := 2 ^ o ^^^ 4294967295); omega)), ⟨by (first | omega | assumption | (have h8 := Nat.and_le_left (n := s) (m := 2 ^ tzN s ^^^ 4294967295); have h9 := Nat.and_le_left (n := s &&& (2 ^ tzN s ^^^ 4294967295)) (m := 2 ^ o ^^^ 4294967295); omega)), ⟨by (first | omega | assumption | (have h8 := Nat.and_le_left (n := s) (m := 2 ^ tzN s ^^^ 4294967295); have h9 := Nat.and_le_left (n := s &&& (2 ^ tzN s ^^^ 4294967295)) (m := 2 ^ o ^^^ 4294967295); omega)), ⟨fun c3 => ?_, fun c3 => ⟨by (first | omega | assumption | (have h8 := Nat.and_le_left (n := s) (m := 2 ^ tzN s ^^^ 4294967295); have h9 := Nat.and_le_left (n := s &&& (2 ^ tzN s ^^^ 4294967295)) (m := 2 ^ o ^^^ 4294967295); omega)), ⟨by (first | omega | assumption | (have h8 := Nat.and_le_left (n := s) (m := 2 ^ tzN s ^^^ 4294967295); have h9 := Nat.and_le_left (n := s &&& (2 ^ tzN s ^^^ 4294967295)) (m := 2 ^ o ^^^ 4294967295); omega)), ⟨by (first | omega | assumption | (have h8 := Nat.and_le_left (n := s) (m := 2 ^ tzN s ^^^ 4294967295); have h9 := Nat.and_le_left (n := s &&& (2 ^ tzN s ^^^ 4294967295)) (m := 2 ^ o ^^^ 4294967295); omega)), ⟨by (first | omega | assumption | (have h8 := Nat.and_le_left (n := s) (m := 2 ^ tzN s ^^^ 4294967295); have h9 := Nat.and_le_left (n := s &&& (2 ^ tzN s ^^^ 4294967295)) (m := 2 ^ o ^^^ 4294967295); omega)), ?_⟩⟩⟩⟩⟩⟩⟩⟩⟩⟩⟩, fun c1 => ⟨by (first | omega | assumption | (have h8 := Nat.and_le_left (n := s) (m := 2 ^ tzN s ^^^ 4294967295); have h9 := Nat.and_le_left (n := s &&& (2 ^ tzN s ^^^ 4294967295)) (m := 2 ^ o ^^^ 4294967295); omega)), ?_⟩⟩⟩⟩⟩⟩
  · exact qn hP (by unfold pbV; rw [if_neg c1, if_neg (fun h => c2 h.1)])
  · exact qn hP (by unfold pbV; rw [if_neg c1, if_neg (fun h => by rw [h.2] at c3; cases c3)])
  · exact qn hP (by unfold pbV; rw [if_neg c1, if_pos ⟨c2, c3⟩]; rfl)
  · exact qn hP (by unfold pbV; rw [if_pos c1]; rfl)
theorem r_pairedBy {X : gv_X} {d : Nat} {G : gv_Sh} {A : Nat → Nat → Nat} {j : Nat → Nat → Int64} {cc : gv_Rs} {s : Nat} {o : Nat} (hp263 : oX12 G 263) (p0 : okW (A 264)) (p1 : s < 256) (p2 : 0 < s) (p3 : o = 4294967295 ∨ o < 8) : Ev X (d + 5) gvm_333 0 (gv_enter [.ref 263, .int (nI s), .int (nI o)] 5) [] (G, (mI A, j), cc) (.inl (some (.int (nI (pbV (A 264) (A 277) s o)))), (G, (mI A, j), cc)) := evp_det (r_pairedBy_p hp263 p0 p1 p2 p3 rfl)
theorem w334 {X : gv_X} {d : Nat} {G : gv_Sh} {A : Nat → Nat → Nat} {j : Nat → Nat → Int64} {cc : gv_Rs} {P : gv_O × gv_S → Prop} {R : Nat → Nat} (hp263 : oX12 G 263) (hR : A 264 = R) (H : EvP X (d + 6) gvm_334 9 [some (.ref 263), some (.int (nI 1)), none, none] [] (G, (mI (gu A 277 0 0), j), cc) P) : EvP X (d + 6) gvm_334 0 (gv_enter [.ref 263] 4) [] (G, (mI A, j), cc) P :=
  by
  subst hR
  exact (pv_aload_n rfl rfl   (pv_getP rfl rfl (oX12_k hp263) (oX12_30 hp263)   (pn_iconst rfl rfl   (pn_iconst rfl rfl   (pn_iast rfl (oX12_30c hp263) (by decide) (by decide)  (pn_iconst rfl rfl   (pv_istore_n rfl rfl   H)))))))
theorem w334_9 {X : gv_X} {d : Nat} {G : gv_Sh} {A : Nat → Nat → Nat} {j : Nat → Nat → Int64} {cc : gv_Rs} {P : gv_O × gv_S → Prop} {R : Nat → Nat} {l1 : Nat} {l2 : Option Value} {l3 : Option Value} (hp263 : oX12 G 263) (hR : A 264 = R) (H : ((R 0) < 32) ∧ ((l1 < 2147483648) ∧ (((2 ^ (R 0)) < 2147483648) ∧ ((((2 ^ (R 0)) ≤ l1) → P (.inl none, (G, (mI A, j), cc))) ∧ ((l1 < (2 ^ (R 0))) → EvP X (d + 6) gvm_334 23 [some (.ref 263), some (.int (nI l1)), some (.int (nI 0)), some (.int (nI 4294967295))] [] (G, (mI A, j), cc) P))))) : EvP X (d + 6) gvm_334 9 [some (.ref 263), some (.int (nI l1)), l2, l3] [] (G, (mI A, j), cc) P :=
  by
  subst hR
  exact (pv_iload_n rfl rfl   (pn_iconst rfl rfl   (pv_aload_n rfl rfl   (pv_virt rfl rfl rfl rfl rfl (oX12_k hp263) rfl rfl rfl (r_ops (A := A) hp263 ) (pn_ishl1 rfl H.1  (pn_ic_ge rfl H.2.1 H.2.2.1 (fun c1 => (pv_vret rfl (H.2.2.2.1 c1))) (fun c1 => (pn_iconst rfl rfl   (pv_istore_n rfl rfl   (pn_iconst rfl (by decide)   (pv_istore_n rfl rfl   (H.2.2.2.2 c1))))))))))))
theorem w334_23 {X : gv_X} {d : Nat} {G : gv_Sh} {A : Nat → Nat → Nat} {j : Nat → Nat → Int64} {cc : gv_Rs} {P : gv_O × gv_S → Prop} {R : Nat → Nat} {l1 : Nat} {l2 : Nat} {l3 : Nat} (hp263 : oX12 G 263) (hR : A 264 = R) (H : ((((R 0) + 2147483648) % 4294967296 ≤ (l3 + 2147483648) % 4294967296) → (l1 < 256) ∧ (EvP X (d + 6) gvm_334 9 [some (.ref 263), some (.int (nI (l1 + 1))), some (.int (nI l2)), some (.int (nI l3))] [] (G, (mI (gu A 277 l1 l2), j), cc) P)) ∧ (((l3 + 2147483648) % 4294967296 < ((R 0) + 2147483648) % 4294967296) → (okW R) ∧ ((l1 < 256) ∧ ((0 < l1) ∧ ((l3 = 4294967295 ∨ l3 < 8) ∧ (EvP X (d + 6) gvm_334 23 [some (.ref 263), some (.int (nI l1)), some (.int (nI (smax l2 (pbV R (A 277) l1 l3)))), some (.int (nI (l3 + 1)))] [] (G, (mI A, j), cc) P)))))) : EvP X (d + 6) gvm_334 23 [some (.ref 263), some (.int (nI l1)), some (.int (nI l2)), some (.int (nI l3))] [] (G, (mI A, j), cc) P :=
  by
  subst hR
  exact (pv_iload_n rfl rfl   (pv_aload_n rfl rfl   (pv_virt rfl rfl rfl rfl rfl (oX12_k hp263) rfl rfl rfl (r_ops (A := A) hp263 ) (pn_ic_gew rfl  (fun c1 => (pv_aload_n rfl rfl   (pv_getP rfl rfl (oX12_k hp263) (oX12_30 hp263)   (pv_iload_n rfl rfl   (pv_iload_n rfl rfl   (pn_iast rfl (oX12_30c hp263) (by decide) (H.1 c1).1  (pn_iinc rfl rfl rfl rfl   (pv_goto rfl (H.1 c1).2)))))))) (fun c1 => (pv_iload_n rfl rfl   (pv_aload_n rfl rfl   (pv_iload_n rfl rfl   (pv_iload_n rfl rfl   (pv_virt rfl rfl rfl rfl rfl (oX12_k hp263) rfl rfl rfl (r_pairedBy (s := l1) (o := l3) (A := A) hp263 (H.2 c1).1 (H.2 c1).2.1 (H.2 c1).2.2.1 (H.2 c1).2.2.2.1 ) (pv_stat rfl rfl rfl rfl rfl rfl rfl rfl (k_maxs (a := l2) (b := (pbV (A 264) (A 277) l1 l3)) (A := A)  ) (pv_istore_n rfl rfl   (pn_iinc rfl rfl rfl rfl   (pv_goto rfl (H.2 c1).2.2.2.2))))))))))))))
theorem r_laysPairs_p {X : gv_X} {d : Nat} {G : gv_Sh} {A : Nat → Nat → Nat} {j : Nat → Nat → Int64} {cc : gv_Rs} {P : gv_O × gv_S → Prop}  (hp263 : oX12 G 263) (p0 : okW (A 264)) (hP : ∀ A1 : Nat → Nat → Nat, (∀ q, q ≠ 277 → A1 q = A q) ∧ (∀ i, i < 2 ^ (A 264 0) → A1 277 i = paT (A 264) (2 ^ (A 264 0) - 1) i) → P (.inl none, (G, (mI A1, j), cc))) : EvP X (d + 6) gvm_334 0 (gv_enter [.ref 263] 4) [] (G, (mI A, j), cc) P := by
  have hn := okW_n p0
  have hp := pow_le8 hn.1
  have hp0 : 0 < 2 ^ A 264 0 := Nat.two_pow_pos _
  have L : ∀ i k B l2 l3, i + (k + 1) = 2 ^ A 264 0 → (∀ q, q ≠ 277 → B q = A q) → (∀ x, x ≤ k → B 277 x = paT (A 264) k x) → EvP X (d + 6) gvm_334 9 [some (.ref 263), some (.int (nI (k + 1))), l2, l3] [] (G, (mI B, j), cc) P := by
    intro i
    induction i with
    | zero =>
      intro k B l2 l3 hi b1 b2
      have e4 : B 264 = A 264 := b1 264 (by decide)
      refine w334_9 hp263 e4 ⟨by omega, by omega, by omega, fun c1 => hP B ⟨b1, fun x hx => ?_⟩, fun c1 => by omega⟩
      rw [show 2 ^ A 264 0 - 1 = k by omega]
      exact b2 x (by omega)
    | succ i ih =>
      intro k B l2 l3 hi b1 b2
      have e4 : B 264 = A 264 := b1 264 (by decide)
      have ht : ∀ x, x < k + 1 → B 277 x ≤ 6 * x := fun x hx => by rw [b2 x (by omega)]; exact paT_le p0 k (by omega) x (by omega)
      have O : ∀ o, o ≤ A 264 0 → EvP X (d + 6) gvm_334 23 [some (.ref 263), some (.int (nI (k + 1))), some (.int (nI (pmN (A 264) (B 277) (k + 1) o))), some (.int (nI o))] [] (G, (mI B, j), cc) P := by
        refine up_ind (A 264 0) ?_ ?_
        · refine w334_23 hp263 e4 ⟨fun c1 => ⟨by omega, ?_⟩, fun c1 => by omega⟩
          refine ih (k + 1) _ _ _ (by omega) (fun q hq => (gu_ro hq).trans (b1 q hq)) (fun x hx => ?_)
          by_cases hxk : x = k + 1
          · subst hxk
            rw [gu_hit, pmN_t (by omega) (by omega) (fun y hy => b2 y (by omega))]
            show _ = if k + 1 = k + 1 then _ else _
            rw [if_pos rfl]
          · rw [gu_k hxk rfl, b2 x (by omega)]
            show _ = if x = k + 1 then _ else paT (A 264) k x
            rw [if_neg hxk]
        · intro o ho iho
          have a1 := pmN_le p0 (tab := B 277) (s := k + 1) (by omega) (by omega) ht o (by omega)
          refine w334_23 hp263 e4 ⟨fun c1 => by omega, fun c1 => ⟨p0, by omega, by omega, by omega, iho⟩⟩
      refine w334_9 hp263 e4 ⟨by omega, by omega, by omega, fun c1 => by omega, fun c1 => ?_⟩
      refine w334_23 hp263 e4 ⟨fun c1 => by omega, fun c1 => ⟨p0, by omega, by omega, by omega, ?_⟩⟩
      rw [show pbV (A 264) (B 277) (k + 1) 4294967295 = B 277 (oth (k + 1)) from if_pos rfl, show nI (4294967295 + 1) = nI 0 from rfl]
      exact O 0 (by omega)
  refine w334 hp263 rfl (L (2 ^ A 264 0 - 1) 0 _ _ _ (by omega) (fun q hq => gu_ro hq) (fun x hx => ?_))
  obtain rfl : x = 0 := by omega
  rw [gu_hit]
  rfl
theorem r_laysPairs {X : gv_X} {d : Nat} {G : gv_Sh} {A : Nat → Nat → Nat} {j : Nat → Nat → Int64} {cc : gv_Rs}  (hp263 : oX12 G 263) (p0 : okW (A 264)) : ∃ A1 : Nat → Nat → Nat, Ev X (d + 6) gvm_334 0 (gv_enter [.ref 263] 4) [] (G, (mI A, j), cc) (.inl none, (G, (mI A1, j), cc)) ∧ (∀ q, q ≠ 277 → A1 q = A q) ∧ (∀ i, i < 2 ^ (A 264 0) → A1 277 i = paT (A 264) (2 ^ (A 264 0) - 1) i) := by
  obtain ⟨_, h, A1, rfl, hp⟩ := r_laysPairs_p (X := X) (d := d) (G := G) (A := A) (j := j) (cc := cc)  (P := fun r => ∃ A1 : Nat → Nat → Nat, r = (.inl none, (G, (mI A1, j), cc)) ∧ (∀ q, q ≠ 277 → A1 q = A q) ∧ (∀ i, i < 2 ^ (A 264 0) → A1 277 i = paT (A 264) (2 ^ (A 264 0) - 1) i)) hp263 p0 (fun A1 h => ⟨A1, rfl, h⟩)
  exact ⟨A1, h, hp⟩
/-- the partner, set by set -/
def foN (R T : Nat → Nat) (s : Nat) : Nat := if pbV R T s 4294967295 = T s then 4294967295 else lstN (fun o => decide (pbV R T s o = T s)) (R 0) 0
def paW (R T : Nat → Nat) : Nat → Nat → Nat → Nat
  | 0, _, _ => 4294967295
  | i + 1, s, op => if tzN s = op then foN R T s else if foN R T s = op then tzN s else paW R T i (if foN R T s = 4294967295 then oth s else out (oth s) (foN R T s)) op
def spPairs (R : Nat → Nat) (op : Nat) : Nat × Nat := if ¬ op = 4294967295 ∧ R 0 ≤ op then (1, 0) else if op = 4294967295 then (0, paT R (2 ^ R 0 - 1) (2 ^ R 0 - 1)) else (0, paW R (paT R (2 ^ R 0 - 1)) 8 (2 ^ R 0 - 1) op)
