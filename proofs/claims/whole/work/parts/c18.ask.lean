/-! the class: clash, beside, rests -/
theorem nb_bit {A : Nat → Nat → Nat} {o p k x : Nat} : ∀ n, (nbO A o p k n).testBit x = anyN (fun i => decide (A (o + 2) (p * 3 + i) = k) && decide (A (o + 3) (p * 3 + i) = x)) n
  | 0 => Nat.zero_testBit x
  | n + 1 => by
    unfold nbO anyN
    rw [← nb_bit n]
    by_cases h : A (o + 2) (p * 3 + n) = k
    · rw [if_pos h, Nat.testBit_or, Nat.testBit_two_pow, decide_eq_true h, Bool.true_and]
    · rw [if_neg h, decide_eq_false h, Bool.false_and, Bool.or_false]
theorem nb_t {A : Nat → Nat → Nat} {o : Nat} {R : Nat → Nat} (h : rO A o R) {p : Nat} (hp : p < R 0) (k x : Nat) : (nbO A o p k (if p < A o 0 then A (o + 1) p else 0)).testBit x = tch R p k x := by
  rw [nb_bit, rO_sz h hp]
  unfold tch
  exact anyN_congr (fun i hi => by rw [((h.2.1 p hp).2.2.2 i hi).1, ((h.2.1 p hp).2.2.2 i hi).2])
theorem nz_bit {m : Nat} (h : m < 2 ^ 8) : (¬ m = 0) ↔ ∃ x, x < 8 ∧ m.testBit x = true := by
  constructor
  · intro z
    refine Decidable.byContradiction (fun y => z (Nat.eq_of_testBit_eq (fun x => ?_)))
    rw [Nat.zero_testBit]
    by_cases hx : x < 8
    · cases q : m.testBit x
      · rfl
      · exact absurd ⟨x, hx, q⟩ y
    · exact Nat.testBit_lt_two_pow (Nat.lt_of_lt_of_le h (Nat.pow_le_pow_right (by decide) (by omega)))
  · rintro ⟨x, _, q⟩ z
    rw [z, Nat.zero_testBit] at q
    cases q
theorem nb_cls {A : Nat → Nat → Nat} {o : Nat} {R : Nat → Nat} (h : rO A o R) (w : okW R) {p q : Nat} (hp : p < R 0) (hq : q < R 0) : decide (¬ ((nbO A o p 2 (if p < A o 0 then A (o + 1) p else 0)) &&& ((nbO A o q 2 (if q < A o 0 then A (o + 1) q else 0)) ||| (nbO A o q 1 (if q < A o 0 then A (o + 1) q else 0)))) = 0 ∨ ¬ ((nbO A o q 2 (if q < A o 0 then A (o + 1) q else 0)) &&& (nbO A o p 1 (if p < A o 0 then A (o + 1) p else 0))) = 0) = cls R p q := by
  have l1 := nbS_lt (A := A) (o := o) (p := p) (k := 2) (rO_s h w) (rO_7 h w)
  have l2 := nbS_lt (A := A) (o := o) (p := q) (k := 2) (rO_s h w) (rO_7 h w)
  rw [Bool.eq_iff_iff, decide_eq_true_eq, nz_bit (Nat.lt_of_le_of_lt Nat.and_le_left l1), nz_bit (Nat.lt_of_le_of_lt Nat.and_le_left l2)]
  unfold cls
  rw [anyN_iff]
  simp only [Nat.testBit_and, Nat.testBit_or, nb_t h hp, nb_t h hq]
  unfold clN
  simp only [Bool.or_eq_true, Bool.and_eq_true]
  constructor
  · rintro (⟨x, hx, a, b | b⟩ | ⟨x, hx, a, b⟩)
    · exact ⟨x, hx, Or.inl ⟨a, b⟩⟩
    · exact ⟨x, hx, Or.inr (Or.inl ⟨a, b⟩)⟩
    · exact ⟨x, hx, Or.inr (Or.inr ⟨a, b⟩)⟩
  · rintro ⟨x, hx, ⟨a, b⟩ | ⟨a, b⟩ | ⟨a, b⟩⟩
    · exact Or.inl ⟨x, hx, a, Or.inl b⟩
    · exact Or.inl ⟨x, hx, a, Or.inr b⟩
    · exact Or.inr ⟨x, hx, a, b⟩
theorem enc_cmp {x y : Int} (h1 : -1000 ≤ y) (h2 : y ≤ 1000) (h3 : -1000 ≤ x) (h4 : x ≤ 1000) : (enc x + 2147483648) % 4294967296 ≤ (enc y + 2147483648) % 4294967296 ↔ x ≤ y := by
  unfold enc; omega
theorem c_colR_p {X : gv_X} {d : Nat} {G : gv_Sh} {A : Nat → Nat → Nat} {j : Nat → Nat → Int64} {cc : gv_Rs} {P : gv_O × gv_S → Prop} {o : Nat} {p : Nat} {q : Nat} {R : Nat → Nat} (ho : oX6 G o) (p0 : okW R) (p1 : rO A o R) (p2 : p < R 0) (p3 : q < R 0) (hP : P (.inl (some (.int (zo (cls R p q)))), (G, (mI A, j), cc))) : EvP X (d + 3) gvm_55 0 (gv_enter [.ref o, .int (nI p), .int (nI q)] 5) [] (G, (mI A, j), cc) P := by
  have n := okW_n p0
  refine c_collide_p ho (by omega) (by omega) (rO_n p1 p0) (rO_s p1 p0) (rO_7 p1 p0) ?_
  rw [nb_cls p1 p0 p2 p3]
  exact hP
theorem c_colR {X : gv_X} {d : Nat} {G : gv_Sh} {A : Nat → Nat → Nat} {j : Nat → Nat → Int64} {cc : gv_Rs} {o : Nat} {p : Nat} {q : Nat} {R : Nat → Nat} (ho : oX6 G o) (p0 : okW R) (p1 : rO A o R) (p2 : p < R 0) (p3 : q < R 0) : Ev X (d + 3) gvm_55 0 (gv_enter [.ref o, .int (nI p), .int (nI q)] 5) [] (G, (mI A, j), cc) (.inl (some (.int (zo (cls R p q)))), (G, (mI A, j), cc)) := evp_det (c_colR_p ho p0 p1 p2 p3 rfl)
theorem w150 {X : gv_X} {d : Nat} {G : gv_Sh} {A : Nat → Nat → Nat} {j : Nat → Nat → Int64} {cc : gv_Rs} {P : gv_O × gv_S → Prop} {a : Nat} {b : Nat} {R : Nat → Nat} (hp0 : oX11 G 0) (H : (a < 4294967296) ∧ ((A 3 0 ≤ 8) ∧ (((a < A 3 0) → (b < 4294967296) ∧ ((A 3 0 ≤ 8) ∧ (((b < A 3 0) → (a < 4294967296) ∧ ((b < 4294967296) ∧ (((¬ a = b) → (okW R) ∧ ((rO A 3 R) ∧ ((a < R 0) ∧ ((b < R 0) ∧ (P (.inl (some (.int (zo (cls R a b)))), (G, (mI A, j), cc))))))) ∧ ((a = b) → P (.inr 0, gv_ex (G, (mI A, j), cc)))))) ∧ ((¬ b < A 3 0) → P (.inr 1, gv_ex (G, (mI A, j), cc)))))) ∧ ((¬ a < A 3 0) → P (.inr 1, gv_ex (G, (mI A, j), cc)))))) : EvP X (d + 4) gvm_150 0 (gv_enter [.ref 0, .int (nI a), .int (nI b)] 3) [] (G, (mI A, j), cc) P :=
  (pv_aload_n rfl rfl   (pv_iload_n rfl rfl   (Or.elim (Decidable.em (a < A 3 0)) (fun c1 => pv_virt rfl rfl rfl rfl rfl (oX11_k hp0) rfl rfl rfl (c_needOp (p := a) (A := A) hp0 H.1 H.2.1 c1) (pv_aload_n rfl rfl   (pv_iload_n rfl rfl   (Or.elim (Decidable.em (b < A 3 0)) (fun c2 => pv_virt rfl rfl rfl rfl rfl (oX11_k hp0) rfl rfl rfl (c_needOp (p := b) (A := A) hp0 (H.2.2.1 c1).1 (H.2.2.1 c1).2.1 c2) (pv_iload_n rfl rfl   (pv_iload_n rfl rfl   (pn_ic_ne rfl ((H.2.2.1 c1).2.2.1 c2).1 ((H.2.2.1 c1).2.2.1 c2).2.1 (fun c3 => (pv_aload_n rfl rfl   (pv_getP rfl rfl (oX11_k hp0) (oX11_3 hp0)   (pv_getP rfl rfl (oX10_k (oX11_3c hp0)) (oX10_0 (oX11_3c hp0))   (pv_iload_n rfl rfl   (pv_iload_n rfl rfl   (pv_virt rfl rfl rfl rfl rfl (oX6_k (oX10_0c (oX11_3c hp0))) rfl rfl rfl (c_colR (p := a) (q := b) (R := R) (A := A) (oX10_0c (oX11_3c hp0)) (((H.2.2.1 c1).2.2.1 c2).2.2.1 c3).1 (((H.2.2.1 c1).2.2.1 c2).2.2.1 c3).2.1 (((H.2.2.1 c1).2.2.1 c2).2.2.1 c3).2.2.1 (((H.2.2.1 c1).2.2.1 c2).2.2.1 c3).2.2.2.1 ) (pv_iretz rfl rfl (zo_b _) (((H.2.2.1 c1).2.2.1 c2).2.2.1 c3).2.2.2.2)))))))) (fun c3 => (pv_throw rfl rfl rfl (((H.2.2.1 c1).2.2.1 c2).2.2.2 c3))))))) (fun c2 => pv_virtT rfl rfl rfl rfl rfl (oX11_k hp0) rfl rfl rfl rfl (c_needOp_x (p := b) (A := A) hp0 (H.2.2.1 c1).1 (H.2.2.1 c1).2.1 c2) ((H.2.2.1 c1).2.2.2 c2)))))) (fun c1 => pv_virtT rfl rfl rfl rfl rfl (oX11_k hp0) rfl rfl rfl rfl (c_needOp_x (p := a) (A := A) hp0 H.1 H.2.1 c1) (H.2.2.2 c1)))))
theorem c_clash_p {X : gv_X} {d : Nat} {G : gv_Sh} {A : Nat → Nat → Nat} {j : Nat → Nat → Int64} {cc : gv_Rs} {P : gv_O × gv_S → Prop} {a : Nat} {b : Nat} {R : Nat → Nat} (hp0 : oX11 G 0) (p0 : cK A R) (p1 : a < 4294967296) (p2 : b < 4294967296) (hP : ∀ A1 : Nat → Nat → Nat, (cK A1 R) ∧ (frK A A1) → P (oc (fun c => if c = 1 then 1 else 0) (spClash R a b).1 (spClash R a b).2.toNat (G, (mI A1, j), cc))) : EvP X (d + 4) gvm_150 0 (gv_enter [.ref 0, .int (nI a), .int (nI b)] 3) [] (G, (mI A, j), cc) P := by
  have ok : ∀ B x, cK B R ∧ frK A B → spClash R a b = (0, x) → P (.inl (some (.int (nI x.toNat))), (G, (mI B, j), cc)) := fun B x h1 h3 => by
    have := hP B h1
    rw [h3] at this
    exact this
  have no1 : ∀ B, cK B R ∧ frK A B → spClash R a b = (1, false) → P (.inr 1, gv_ex (G, (mI B, j), cc)) := fun B h1 h3 => by
    have := hP B h1
    rw [h3] at this
    exact this
  have no2 : ∀ B, cK B R ∧ frK A B → spClash R a b = (2, false) → P (.inr 0, gv_ex (G, (mI B, j), cc)) := fun B h1 h3 => by
    have := hP B h1
    rw [h3] at this
    exact this
  have n := okW_n p0.1
  have ro : rO A 3 R := p0.2.1.1
  have e0 : A 3 0 = R 0 := ro.1
  have K : cK A R ∧ frK A A := ⟨p0, frK_rf A⟩
  refine w150 (R := R) hp0 ⟨p1, rO_n ro p0.1, fun c1 => ⟨p2, rO_n ro p0.1, fun c2 => ⟨by omega, by omega, fun c3 => ⟨p0.1, ro, by omega, by omega, ?_⟩, fun c3 => no2 A K ?_⟩, fun c2 => no1 A K ?_⟩, fun c1 => no1 A K ?_⟩
  · rw [zo_n]
    exact ok A _ K (by unfold spClash; rw [if_neg (by omega), if_neg c3])
  · unfold spClash; rw [if_neg (by omega), if_pos c3]
  · unfold spClash; rw [if_pos (by omega)]
  · unfold spClash; rw [if_pos (by omega)]
theorem w152 {X : gv_X} {d : Nat} {G : gv_Sh} {A : Nat → Nat → Nat} {j : Nat → Nat → Int64} {cc : gv_Rs} {P : gv_O × gv_S → Prop} {s : Nat} (hp0 : oX11 G 0) (H : EvP X (d + 4) gvm_152 2 [some (.ref 0), some (.int (nI s)), some (.int (nI 0)), none] [] (G, (mI A, j), cc) P) : EvP X (d + 4) gvm_152 0 (gv_enter [.ref 0, .int (nI s)] 4) [] (G, (mI A, j), cc) P :=
  (pn_iconst rfl rfl   (pv_istore_n rfl rfl   H))
theorem w152_2 {X : gv_X} {d : Nat} {G : gv_Sh} {A : Nat → Nat → Nat} {j : Nat → Nat → Int64} {cc : gv_Rs} {P : gv_O × gv_S → Prop} {s : Nat} {l2 : Nat} {l3 : Option Value} (hp0 : oX11 G 0) (H : (l2 < 2147483648) ∧ (((A 3 0) < 2147483648) ∧ ((((A 3 0) ≤ l2) → P (.inl (some (.int (nI 1))), (G, (mI A, j), cc))) ∧ ((l2 < (A 3 0)) → EvP X (d + 4) gvm_152 18 [some (.ref 0), some (.int (nI s)), some (.int (nI l2)), some (.int (nI 0))] [] (G, (mI A, j), cc) P)))) : EvP X (d + 4) gvm_152 2 [some (.ref 0), some (.int (nI s)), some (.int (nI l2)), l3] [] (G, (mI A, j), cc) P :=
  (pv_iload_n rfl rfl   (pv_aload_n rfl rfl   (pv_getP rfl rfl (oX11_k hp0) (oX11_3 hp0)   (pv_getP rfl rfl (oX10_k (oX11_3c hp0)) (oX10_0 (oX11_3c hp0))   (pn_getI rfl rfl (oX6_k (oX10_0c (oX11_3c hp0))) rfl   (pn_ic_ge rfl H.1 H.2.1 (fun c1 => (pn_iconst rfl rfl   (pv_iretz rfl rfl (Or.inr rfl) (H.2.2.1 c1)))) (fun c1 => (pn_iconst rfl rfl   (pv_istore_n rfl rfl   (H.2.2.2 c1))))))))))
theorem w152_18 {X : gv_X} {d : Nat} {G : gv_Sh} {A : Nat → Nat → Nat} {j : Nat → Nat → Int64} {cc : gv_Rs} {P : gv_O × gv_S → Prop} {s : Nat} {l2 : Nat} {l3 : Nat} {R : Nat → Nat} (hp0 : oX11 G 0) (H : (l3 < 2147483648) ∧ ((l2 < 2147483648) ∧ (((l2 ≤ l3) → EvP X (d + 4) gvm_152 2 [some (.ref 0), some (.int (nI s)), some (.int (nI (l2 + 1))), some (.int (nI l3))] [] (G, (mI A, j), cc) P) ∧ ((l3 < l2) → (s < 2147483648) ∧ ((l2 < 32) ∧ ((((s / 2 ^ l2) % 2) < 4294967296) ∧ (((¬ ((s / 2 ^ l2) % 2) = 1) → EvP X (d + 4) gvm_152 18 [some (.ref 0), some (.int (nI s)), some (.int (nI l2)), some (.int (nI (l3 + 1)))] [] (G, (mI A, j), cc) P) ∧ ((((s / 2 ^ l2) % 2) = 1) → (s < 2147483648) ∧ ((l3 < 32) ∧ ((((s / 2 ^ l3) % 2) < 4294967296) ∧ (((¬ ((s / 2 ^ l3) % 2) = 1) → EvP X (d + 4) gvm_152 18 [some (.ref 0), some (.int (nI s)), some (.int (nI l2)), some (.int (nI (l3 + 1)))] [] (G, (mI A, j), cc) P) ∧ ((((s / 2 ^ l3) % 2) = 1) → (okW R) ∧ ((rO A 3 R) ∧ ((l2 < R 0) ∧ ((l3 < R 0) ∧ ((((cls R l2 l3) = false) → EvP X (d + 4) gvm_152 18 [some (.ref 0), some (.int (nI s)), some (.int (nI l2)), some (.int (nI (l3 + 1)))] [] (G, (mI A, j), cc) P) ∧ (((cls R l2 l3) = true) → P (.inl (some (.int (nI 0))), (G, (mI A, j), cc))))))))))))))))))) : EvP X (d + 4) gvm_152 18 [some (.ref 0), some (.int (nI s)), some (.int (nI l2)), some (.int (nI l3))] [] (G, (mI A, j), cc) P :=
  (pv_iload_n rfl rfl   (pv_iload_n rfl rfl   (pn_ic_ge rfl H.1 H.2.1 (fun c1 => (pn_iinc rfl rfl rfl rfl   (pv_goto rfl (H.2.2.1 c1)))) (fun c1 => (pv_iload_n rfl rfl   (pv_iload_n rfl rfl   (pn_ishr rfl (H.2.2.2 c1).1 (H.2.2.2 c1).2.1  (pn_iconst rfl rfl   (pn_iandm 1 2 rfl rfl rfl   (pn_iconst rfl rfl   (pn_ic_ne rfl (H.2.2.2 c1).2.2.1 (by decide) (fun c2 => (pn_iinc rfl rfl rfl rfl   (pv_goto rfl ((H.2.2.2 c1).2.2.2.1 c2)))) (fun c2 => (pv_iload_n rfl rfl   (pv_iload_n rfl rfl   (pn_ishr rfl ((H.2.2.2 c1).2.2.2.2 c2).1 ((H.2.2.2 c1).2.2.2.2 c2).2.1  (pn_iconst rfl rfl   (pn_iandm 1 2 rfl rfl rfl   (pn_iconst rfl rfl   (pn_ic_ne rfl ((H.2.2.2 c1).2.2.2.2 c2).2.2.1 (by decide) (fun c3 => (pn_iinc rfl rfl rfl rfl   (pv_goto rfl (((H.2.2.2 c1).2.2.2.2 c2).2.2.2.1 c3)))) (fun c3 => (pv_aload_n rfl rfl   (pv_getP rfl rfl (oX11_k hp0) (oX11_3 hp0)   (pv_getP rfl rfl (oX10_k (oX11_3c hp0)) (oX10_0 (oX11_3c hp0))   (pv_iload_n rfl rfl   (pv_iload_n rfl rfl   (pv_virt rfl rfl rfl rfl rfl (oX6_k (oX10_0c (oX11_3c hp0))) rfl rfl rfl (c_colR (p := l2) (q := l3) (R := R) (A := A) (oX10_0c (oX11_3c hp0)) (((H.2.2.2 c1).2.2.2.2 c2).2.2.2.2 c3).1 (((H.2.2.2 c1).2.2.2.2 c2).2.2.2.2 c3).2.1 (((H.2.2.2 c1).2.2.2.2 c2).2.2.2.2 c3).2.2.1 (((H.2.2.2 c1).2.2.2.2 c2).2.2.2.2 c3).2.2.2.1 ) (pv_if_eq_zo rfl  (fun c4 => (pn_iinc rfl rfl rfl rfl   (pv_goto rfl ((((H.2.2.2 c1).2.2.2.2 c2).2.2.2.2 c3).2.2.2.2.1 c4)))) (fun c4 => (pn_iconst rfl rfl   (pv_iretz rfl rfl (Or.inl rfl) ((((H.2.2.2 c1).2.2.2.2 c2).2.2.2.2 c3).2.2.2.2.2 c4)))))))))))))))))))))))))))))))
theorem c_isPeaceful_p {X : gv_X} {d : Nat} {G : gv_Sh} {A : Nat → Nat → Nat} {j : Nat → Nat → Int64} {cc : gv_Rs} {P : gv_O × gv_S → Prop} {s : Nat} {R : Nat → Nat} (hp0 : oX11 G 0) (p0 : cK A R) (p1 : s < 256) (hP : P (.inl (some (.int (zo (ncA R s (R 0))))), (G, (mI A, j), cc))) : EvP X (d + 4) gvm_152 0 (gv_enter [.ref 0, .int (nI s)] 4) [] (G, (mI A, j), cc) P := by
  have n := okW_n p0.1
  have ro : rO A 3 R := p0.2.1.1
  have e0 : A 3 0 = R 0 := ro.1
  have no : ∀ a b, a < R 0 → b < a → s / 2 ^ a % 2 = 1 → s / 2 ^ b % 2 = 1 → cls R a b = true → ncA R s (R 0) = false := fun a b ha hb x y z => by
    cases q : ncA R s (R 0)
    · rfl
    · have := allN_iff.mp (allN_iff.mp q a ha) b hb
      simp [x, y, z] at this
  have Li : ∀ a, a < R 0 → (ncB R s a a = true → ∀ l3, EvP X (d + 4) gvm_152 2 [some (.ref 0), some (.int (nI s)), some (.int (nI (a + 1))), some (.int (nI l3))] [] (G, (mI A, j), cc) P) → ∀ i k, k + i = a → (∀ b, b < k → (fun b => !(decide (s / 2 ^ a % 2 = 1) && (decide (s / 2 ^ b % 2 = 1) && cls R a b))) b = true) → EvP X (d + 4) gvm_152 18 [some (.ref 0), some (.int (nI s)), some (.int (nI a)), some (.int (nI k))] [] (G, (mI A, j), cc) P := by
    intro a ha hn i
    induction i with
    | zero =>
      intro k hk hl
      obtain rfl : k = a := by omega
      exact w152_18 (R := R) hp0 ⟨by omega, by omega, fun c1 => hn (allN_iff.mpr hl) k, fun c1 => absurd c1 (by omega)⟩
    | succ i ih =>
      intro k hk hl
      have go : (fun b => !(decide (s / 2 ^ a % 2 = 1) && (decide (s / 2 ^ b % 2 = 1) && cls R a b))) k = true → EvP X (d + 4) gvm_152 18 [some (.ref 0), some (.int (nI s)), some (.int (nI a)), some (.int (nI (k + 1)))] [] (G, (mI A, j), cc) P := fun z => ih (k + 1) (by omega) (fun b hb => by
        by_cases y : b = k
        · rw [y]; exact z
        · exact hl b (by omega))
      refine w152_18 (R := R) hp0 ⟨by omega, by omega, fun c1 => absurd c1 (by omega), fun c1 => ⟨by omega, by omega, by omega, fun c2 => go (by simp [c2]), fun c2 => ⟨by omega, by omega, by omega, fun c3 => go (by simp [c3]), fun c3 => ⟨p0.1, ro, ha, by omega, fun c4 => go (by simp [c4]), fun c4 => qz0 hP (no a k ha (by omega) c2 c3 c4)⟩⟩⟩⟩
  have Lp : ∀ i a l3, a + i = R 0 → (∀ x, x < a → ncB R s x x = true) → EvP X (d + 4) gvm_152 2 [some (.ref 0), some (.int (nI s)), some (.int (nI a)), l3] [] (G, (mI A, j), cc) P := by
    intro i
    induction i with
    | zero =>
      intro a l3 hk hl
      obtain rfl : a = R 0 := by omega
      exact w152_2 hp0 ⟨by omega, by omega, fun c1 => qz1 hP (allN_iff.mpr hl), fun c1 => absurd c1 (by omega)⟩
    | succ i ih =>
      intro a l3 hk hl
      exact w152_2 hp0 ⟨by omega, by omega, fun c1 => absurd c1 (by omega), fun c1 => Li a (by omega) (fun z l3 => ih (a + 1) _ (by omega) (fun x hx => by
        by_cases y : x = a
        · rw [y]; exact z
        · exact hl x (by omega))) a 0 (Nat.zero_add _) (fun b hb => absurd hb (by omega))⟩
  exact w152 hp0 (Lp (R 0) 0 _ (Nat.zero_add _) (fun x hx => absurd hx (by omega)))
theorem c_isPeaceful {X : gv_X} {d : Nat} {G : gv_Sh} {A : Nat → Nat → Nat} {j : Nat → Nat → Int64} {cc : gv_Rs} {s : Nat} {R : Nat → Nat} (hp0 : oX11 G 0) (p0 : cK A R) (p1 : s < 256) : Ev X (d + 4) gvm_152 0 (gv_enter [.ref 0, .int (nI s)] 4) [] (G, (mI A, j), cc) (.inl (some (.int (zo (ncA R s (R 0))))), (G, (mI A, j), cc)) := evp_det (c_isPeaceful_p hp0 p0 p1 rfl)
theorem w174 {X : gv_X} {d : Nat} {G : gv_Sh} {A : Nat → Nat → Nat} {j : Nat → Nat → Int64} {cc : gv_Rs} {P : gv_O × gv_S → Prop} {p : Nat} {h : Nat} {R : Nat → Nat} (hp0 : oX11 G 0) (H : (h < 4294967296) ∧ ((h = 0 → (cQ A R) ∧ ((p < R 0) ∧ ((∀ A1v1 : Nat → Nat → Nat, ((cQ A1v1 R) ∧ (frK A A1v1) ∧ (∀ a, (a < 61 ∨ 63 < a) → A1v1 a = A a)) → ((lsum R (tbF R p) p 1) ≤ 4294967296) ∧ (P (.inl (some (.int (nI ((4294967296 - (lsum R (tbF R p) p 1)) % 4294967296)))), (G, (mI A1v1, j), cc))))))) ∧ (h = 1 → (p < 4294967296) ∧ ((A 3 0 ≤ 8) ∧ (P (.inl (some (.int (nI (if p < A 3 0 then A (3 + 1) p else 0)))), (G, (mI A, j), cc))))) ∧ ((¬ h = 0 ∧ ¬ h = 1) → P (.inl (some (.int (nI 0))), (G, (mI A, j), cc))))) : EvP X (d + 5) gvm_174 0 (gv_enter [.ref 0, .int (nI p), .int (nI h)] 3) [] (G, (mI A, j), cc) P :=
  (pv_iload_n rfl rfl   (Or.elim (Decidable.em (h = 0)) (fun c1e => (pn_lsw 0 28 (o := (27)) rfl c1e (by decide) rfl rfl (pv_aload_n rfl rfl   (pv_iload_n rfl rfl   (match (c_blame (p := p) (R := R) (A := A) (X := X) (d := d + 0) (G := G) (j := j) (cc := cc) hp0 (H.2.1 c1e).1 (H.2.1 c1e).2.1 ) with | ⟨A1v1, e1x30, h2⟩ => pv_virt rfl rfl rfl rfl rfl (oX11_k hp0) rfl rfl rfl e1x30 (pn_ineg rfl ((H.2.1 c1e).2.2 A1v1 h2).1  (pv_ireti rfl rfl ((H.2.1 c1e).2.2 A1v1 h2).2))))))) (fun c1n0 => (Or.elim (Decidable.em (h = 1)) (fun c1e => (pn_lsw 1 35 (o := (34)) rfl c1e (by decide) rfl rfl (pv_aload_n rfl rfl   (pv_getP rfl rfl (oX11_k hp0) (oX11_3 hp0)   (pv_getP rfl rfl (oX10_k (oX11_3c hp0)) (oX10_0 (oX11_3c hp0))   (pv_iload_n rfl rfl   (pv_virt rfl rfl rfl rfl rfl (oX6_k (oX10_0c (oX11_3c hp0))) rfl rfl rfl (c_size (p := p) (A := A) (oX10_0c (oX11_3c hp0)) (H.2.2.1 c1e).1 (H.2.2.1 c1e).2.1 ) (pv_ireti rfl rfl (H.2.2.1 c1e).2.2)))))))) (fun c1n1 => (have c1d : ¬ h = 0 ∧ ¬ h = 1 := (by omega); pn_lswD 47 rfl (by have c1u := H.1; intro p hp; simp only [List.mem_cons, List.not_mem_nil, or_false] at hp; rcases hp with rfl | rfl <;> (rw [nn_i]; omega)) rfl (pn_iconst rfl rfl   (pv_ireti rfl rfl (H.2.2.2 c1d)))))))))
theorem c_guestHas_p {X : gv_X} {d : Nat} {G : gv_Sh} {A : Nat → Nat → Nat} {j : Nat → Nat → Int64} {cc : gv_Rs} {P : gv_O × gv_S → Prop} {p : Nat} {h : Nat} {R : Nat → Nat} (hp0 : oX11 G 0) (p0 : cQ A R) (p1 : p < R 0) (p2 : h < 4) (hP : ∀ A1 : Nat → Nat → Nat, (cQ A1 R) ∧ (frK A A1) → P (.inl (some (.int (nI (enc (guH R (tbF R) p (h / 2) (h % 2)))))), (G, (mI A1, j), cc))) : EvP X (d + 5) gvm_174 0 (gv_enter [.ref 0, .int (nI p), .int (nI h)] 3) [] (G, (mI A, j), cc) P := by
  have n := okW_n p0.1
  have ro : rO A 3 R := p0.2.1.1
  have l1 := lsum_le (t := tbF R p) (p := p) (w := 1) p0.2.2.2.1
  refine w174 (R := R) hp0 ⟨by omega, fun c1 => ⟨p0, p1, fun B h1 => ⟨by omega, qn (hP B ⟨h1.1, h1.2.1⟩) ?_⟩⟩, fun c1 => ⟨by omega, rO_n ro p0.1, qn (hP A ⟨p0, frK_rf A⟩) ?_⟩, fun c1 => qn (hP A ⟨p0, frK_rf A⟩) ?_⟩
  · subst c1
    show enc (- (lsum R (tbF R p) p 1 : Int)) = _
    unfold enc; omega
  · subst c1
    rw [rO_sz ro p1]
    have o1 := (okW_o p0.1 (p := p) (by omega)).1
    show enc (R (30 + 9 * p + 0) : Int) = _
    exact encN (by omega)
  · have e : h / 2 = 1 := by omega
    unfold guH
    rw [e, if_pos rfl]
    rfl
theorem c_guestHas {X : gv_X} {d : Nat} {G : gv_Sh} {A : Nat → Nat → Nat} {j : Nat → Nat → Int64} {cc : gv_Rs} {p : Nat} {h : Nat} {R : Nat → Nat} (hp0 : oX11 G 0) (p0 : cQ A R) (p1 : p < R 0) (p2 : h < 4) : ∃ A1 : Nat → Nat → Nat, Ev X (d + 5) gvm_174 0 (gv_enter [.ref 0, .int (nI p), .int (nI h)] 3) [] (G, (mI A, j), cc) (.inl (some (.int (nI (enc (guH R (tbF R) p (h / 2) (h % 2)))))), (G, (mI A1, j), cc)) ∧ (cQ A1 R) ∧ (frK A A1) := by
  obtain ⟨_, h, A1, rfl, hp⟩ := c_guestHas_p (X := X) (d := d) (G := G) (A := A) (j := j) (cc := cc) (p := p) (h := h) (R := R) (P := fun r => ∃ A1 : Nat → Nat → Nat, r = (.inl (some (.int (nI (enc (guH R (tbF R) p (h / 2) (h % 2)))))), (G, (mI A1, j), cc)) ∧ (cQ A1 R) ∧ (frK A A1)) hp0 p0 p1 p2 (fun A1 h => ⟨A1, rfl, h⟩)
  exact ⟨A1, h, hp⟩
theorem w175 {X : gv_X} {d : Nat} {G : gv_Sh} {A : Nat → Nat → Nat} {j : Nat → Nat → Int64} {cc : gv_Rs} {P : gv_O × gv_S → Prop} {p : Nat} {h : Nat} {R : Nat → Nat} (hp0 : oX11 G 0) (H : (h < 4294967296) ∧ ((h = 0 → (cQ A R) ∧ ((p < R 0) ∧ ((∀ A1v1 : Nat → Nat → Nat, ((cQ A1v1 R) ∧ (frK A A1v1) ∧ (∀ a, (a < 61 ∨ 63 < a) → A1v1 a = A a)) → P (.inl (some (.int (nI (1 + lsum R (tbF R p) p 2)))), (G, (mI A1v1, j), cc)))))) ∧ (h = 1 → (cQ A R) ∧ ((p < R 0) ∧ ((∀ A1v2 : Nat → Nat → Nat, ((cQ A1v2 R) ∧ (frK A A1v2) ∧ (∀ a, (a < 61 ∨ 63 < a) → A1v2 a = A a)) → ((R 6 + lsum R (tbF R p) p 0) ≤ 4294967296) ∧ (P (.inl (some (.int (nI ((4294967296 - (R 6 + lsum R (tbF R p) p 0)) % 4294967296)))), (G, (mI A1v2, j), cc))))))) ∧ (h = 2 → P (.inl (some (.int (nI 4294967295))), (G, (mI A, j), cc))) ∧ ((h < 0 ∨ 2 < h) → P (.inl (some (.int (nI 1))), (G, (mI A, j), cc))))) : EvP X (d + 5) gvm_175 0 (gv_enter [.ref 0, .int (nI p), .int (nI h)] 3) [] (G, (mI A, j), cc) P :=
  (pv_iload_n rfl rfl   (Or.elim (Decidable.em (h = 0)) (fun c1e => (pn_tswl 0 28 rfl c1e (by decide) (by decide) rfl rfl (pv_aload_n rfl rfl   (pv_iload_n rfl rfl   (match (c_worth (p := p) (R := R) (A := A) (X := X) (d := d + 0) (G := G) (j := j) (cc := cc) hp0 (H.2.1 c1e).1 (H.2.1 c1e).2.1 ) with | ⟨A1v1, e1x30, h2⟩ => pv_virt rfl rfl rfl rfl rfl (oX11_k hp0) rfl rfl rfl e1x30 (pv_ireti rfl rfl ((H.2.1 c1e).2.2 A1v1 h2))))))) (fun c1n0 => (Or.elim (Decidable.em (h = 1)) (fun c1e => (pn_tswl 1 34 rfl c1e (by decide) (by decide) rfl rfl (pv_aload_n rfl rfl   (pv_iload_n rfl rfl   (match (c_emul (p := p) (R := R) (A := A) (X := X) (d := d + 0) (G := G) (j := j) (cc := cc) hp0 (H.2.2.1 c1e).1 (H.2.2.1 c1e).2.1 ) with | ⟨A1v2, e2x36, h3⟩ => pv_virt rfl rfl rfl rfl rfl (oX11_k hp0) rfl rfl rfl e2x36 (pn_ineg rfl ((H.2.2.1 c1e).2.2 A1v2 h3).1  (pv_ireti rfl rfl ((H.2.2.1 c1e).2.2 A1v2 h3).2))))))) (fun c1n1 => (Or.elim (Decidable.em (h = 2)) (fun c1e => (pn_tswl 2 41 rfl c1e (by decide) (by decide) rfl rfl (pn_iconst (u := 4294967295) rfl (by decide)   (pv_ireti rfl rfl (H.2.2.2.1 c1e))))) (fun c1n2 => (have c1d : h < 0 ∨ 2 < h := (by omega); pn_tswlD 0 2 43 rfl rfl rfl (by decide) H.1 c1d rfl (pn_iconst rfl rfl   (pv_ireti rfl rfl (H.2.2.2.2 c1d)))))))))))
theorem c_hostHas_p {X : gv_X} {d : Nat} {G : gv_Sh} {A : Nat → Nat → Nat} {j : Nat → Nat → Int64} {cc : gv_Rs} {P : gv_O × gv_S → Prop} {p : Nat} {h : Nat} {R : Nat → Nat} (hp0 : oX11 G 0) (p0 : cQ A R) (p1 : p < R 0) (p2 : h < 4) (hP : ∀ A1 : Nat → Nat → Nat, (cQ A1 R) ∧ (frK A A1) → P (.inl (some (.int (nI (enc (hoH R (tbF R) p (h / 2) (h % 2)))))), (G, (mI A1, j), cc))) : EvP X (d + 5) gvm_175 0 (gv_enter [.ref 0, .int (nI p), .int (nI h)] 3) [] (G, (mI A, j), cc) P := by
  have n := okW_n p0.1
  have l0 := lsum_le (t := tbF R p) (p := p) (w := 0) p0.2.2.2.1
  have l1 := lsum_le (t := tbF R p) (p := p) (w := 2) p0.2.2.2.1
  refine w175 (R := R) hp0 ⟨by omega, fun c1 => ⟨p0, p1, fun B h1 => qn (hP B ⟨h1.1, h1.2.1⟩) ?_⟩, fun c1 => ⟨p0, p1, fun B h1 => ⟨by omega, qn (hP B ⟨h1.1, h1.2.1⟩) ?_⟩⟩, fun c1 => qn (hP A ⟨p0, frK_rf A⟩) ?_, fun c1 => qn (hP A ⟨p0, frK_rf A⟩) ?_⟩
  · subst c1
    show enc ((1 + lsum R (tbF R p) p 2 : Nat) : Int) = _
    exact encN (by omega)
  · subst c1
    show enc (- ((R 6 + lsum R (tbF R p) p 0 : Nat) : Int)) = _
    unfold enc; omega
  · subst c1; rfl
  · obtain rfl : h = 3 := by omega
    show enc (1 : Int) = 1
    decide
theorem c_hostHas {X : gv_X} {d : Nat} {G : gv_Sh} {A : Nat → Nat → Nat} {j : Nat → Nat → Int64} {cc : gv_Rs} {p : Nat} {h : Nat} {R : Nat → Nat} (hp0 : oX11 G 0) (p0 : cQ A R) (p1 : p < R 0) (p2 : h < 4) : ∃ A1 : Nat → Nat → Nat, Ev X (d + 5) gvm_175 0 (gv_enter [.ref 0, .int (nI p), .int (nI h)] 3) [] (G, (mI A, j), cc) (.inl (some (.int (nI (enc (hoH R (tbF R) p (h / 2) (h % 2)))))), (G, (mI A1, j), cc)) ∧ (cQ A1 R) ∧ (frK A A1) := by
  obtain ⟨_, h, A1, rfl, hp⟩ := c_hostHas_p (X := X) (d := d) (G := G) (A := A) (j := j) (cc := cc) (p := p) (h := h) (R := R) (P := fun r => ∃ A1 : Nat → Nat → Nat, r = (.inl (some (.int (nI (enc (hoH R (tbF R) p (h / 2) (h % 2)))))), (G, (mI A1, j), cc)) ∧ (cQ A1 R) ∧ (frK A A1)) hp0 p0 p1 p2 (fun A1 h => ⟨A1, rfl, h⟩)
  exact ⟨A1, h, hp⟩
theorem w173 {X : gv_X} {d : Nat} {G : gv_Sh} {A : Nat → Nat → Nat} {j : Nat → Nat → Int64} {cc : gv_Rs} {P : gv_O × gv_S → Prop} {p : Nat} {R : Nat → Nat} (hp0 : oX11 G 0) (H : (p < 4294967296) ∧ ((A 3 0 ≤ 8) ∧ (((p < A 3 0) → (okW R) ∧ ((rO A 3 R) ∧ ((3 + 6 ≤ 54) ∧ ((knI A R) ∧ ((∀ A1v2 : Nat → Nat → Nat, ((stT A1v2 R) ∧ (knI A1v2 R) ∧ (frZ A A1v2)) → EvP X (d + 6) gvm_173 26 [some (.ref 0), some (.int (nI p)), some (.int (nI 0)), some (.int (nI 0)), none, none] [] (G, (mI A1v2, j), cc) P)))))) ∧ ((¬ p < A 3 0) → P (.inr 1, gv_ex (G, (mI A, j), cc)))))) : EvP X (d + 6) gvm_173 0 (gv_enter [.ref 0, .int (nI p)] 6) [] (G, (mI A, j), cc) P :=
  (pv_aload_n rfl rfl   (pv_iload_n rfl rfl   (Or.elim (Decidable.em (p < A 3 0)) (fun c1 => pv_virt rfl rfl rfl rfl rfl (oX11_k hp0) rfl rfl rfl (c_needOp (p := p) (A := A) hp0 H.1 H.2.1 c1) (pv_aload_n rfl rfl   (pv_getP rfl rfl (oX11_k hp0) (oX11_7 hp0)   (pv_getP rfl rfl (oX4_k (oX11_7c hp0)) (oX4_1 (oX11_7c hp0))   (pv_aload_n rfl rfl   (pv_getP rfl rfl (oX11_k hp0) (oX11_3 hp0)   (pv_getP rfl rfl (oX10_k (oX11_3c hp0)) (oX10_0 (oX11_3c hp0))   (match (c_learn (R := R) (A := A) (X := X) (d := d + 0) (G := G) (j := j) (cc := cc) (oX4_1c (oX11_7c hp0)) (oX10_0c (oX11_3c hp0)) (H.2.2.1 c1).1 (H.2.2.1 c1).2.1 (H.2.2.1 c1).2.2.1 (H.2.2.1 c1).2.2.2.1 ) with | ⟨A1v2, e2x19, h2⟩ => pv_virt rfl rfl rfl rfl rfl (oX9_k (oX4_1c (oX11_7c hp0))) rfl rfl rfl e2x19 (pn_iconst rfl rfl   (pv_istore_n rfl rfl   (pn_iconst rfl rfl   (pv_istore_n rfl rfl   ((H.2.2.1 c1).2.2.2.2 A1v2 h2))))))))))))) (fun c1 => pv_virtT rfl rfl rfl rfl rfl (oX11_k hp0) rfl rfl rfl rfl (c_needOp_x (p := p) (A := A) hp0 H.1 H.2.1 c1) (H.2.2.2 c1)))))
theorem w173_26 {X : gv_X} {d : Nat} {G : gv_Sh} {A : Nat → Nat → Nat} {j : Nat → Nat → Int64} {cc : gv_Rs} {P : gv_O × gv_S → Prop} {p : Nat} {l2 : Nat} {l3 : Nat} {l4 : Option Value} {l5 : Option Value} {R : Nat → Nat} (hp0 : oX11 G 0) (H : (l3 < 2147483648) ∧ (((4 ≤ l3) → P (.inl (some (.int (nI l2))), (G, (mI A, j), cc))) ∧ ((l3 < 4) → (cQ A R) ∧ ((p < R 0) ∧ ((l3 < 4) ∧ ((∀ A1v1 : Nat → Nat → Nat, ((cQ A1v1 R) ∧ (frK A A1v1)) → (cQ A1v1 R) ∧ ((p < R 0) ∧ (((l3 ^^^ 2) < 4) ∧ ((∀ A1v2 : Nat → Nat → Nat, ((cQ A1v2 R) ∧ (frK A1v1 A1v2)) → ((((enc (guH R (tbF R) p (l3 / 2) (l3 % 2))) + 2147483648) % 4294967296 < ((enc (guH R (tbF R) p ((l3 ^^^ 2) / 2) ((l3 ^^^ 2) % 2))) + 2147483648) % 4294967296) → (cQ A1v2 R) ∧ ((p < R 0) ∧ ((l3 < 4) ∧ ((∀ A1v3 : Nat → Nat → Nat, ((cQ A1v3 R) ∧ (frK A1v2 A1v3)) → (cQ A1v3 R) ∧ ((p < R 0) ∧ (((l3 ^^^ 1) < 4) ∧ ((∀ A1v4 : Nat → Nat → Nat, ((cQ A1v4 R) ∧ (frK A1v3 A1v4)) → ((((enc (hoH R (tbF R) p (l3 / 2) (l3 % 2))) + 2147483648) % 4294967296 < ((enc (hoH R (tbF R) p ((l3 ^^^ 1) / 2) ((l3 ^^^ 1) % 2))) + 2147483648) % 4294967296) → EvP X (d + 6) gvm_173 26 [some (.ref 0), some (.int (nI p)), some (.int (nI l2)), some (.int (nI (l3 + 1))), some (.int (nI 0)), some (.int (nI 0))] [] (G, (mI A1v4, j), cc) P) ∧ ((((enc (hoH R (tbF R) p ((l3 ^^^ 1) / 2) ((l3 ^^^ 1) % 2))) + 2147483648) % 4294967296 ≤ ((enc (hoH R (tbF R) p (l3 / 2) (l3 % 2))) + 2147483648) % 4294967296) → EvP X (d + 6) gvm_173 26 [some (.ref 0), some (.int (nI p)), some (.int (nI l2)), some (.int (nI (l3 + 1))), some (.int (nI 0)), some (.int (nI 1))] [] (G, (mI A1v4, j), cc) P)))))))))) ∧ ((((enc (guH R (tbF R) p ((l3 ^^^ 2) / 2) ((l3 ^^^ 2) % 2))) + 2147483648) % 4294967296 ≤ ((enc (guH R (tbF R) p (l3 / 2) (l3 % 2))) + 2147483648) % 4294967296) → (cQ A1v2 R) ∧ ((p < R 0) ∧ ((l3 < 4) ∧ ((∀ A1v5 : Nat → Nat → Nat, ((cQ A1v5 R) ∧ (frK A1v2 A1v5)) → (cQ A1v5 R) ∧ ((p < R 0) ∧ (((l3 ^^^ 1) < 4) ∧ ((∀ A1v6 : Nat → Nat → Nat, ((cQ A1v6 R) ∧ (frK A1v5 A1v6)) → ((((enc (hoH R (tbF R) p (l3 / 2) (l3 % 2))) + 2147483648) % 4294967296 < ((enc (hoH R (tbF R) p ((l3 ^^^ 1) / 2) ((l3 ^^^ 1) % 2))) + 2147483648) % 4294967296) → EvP X (d + 6) gvm_173 26 [some (.ref 0), some (.int (nI p)), some (.int (nI l2)), some (.int (nI (l3 + 1))), some (.int (nI 1)), some (.int (nI 0))] [] (G, (mI A1v6, j), cc) P) ∧ ((((enc (hoH R (tbF R) p ((l3 ^^^ 1) / 2) ((l3 ^^^ 1) % 2))) + 2147483648) % 4294967296 ≤ ((enc (hoH R (tbF R) p (l3 / 2) (l3 % 2))) + 2147483648) % 4294967296) → (l3 < 32) ∧ (EvP X (d + 6) gvm_173 26 [some (.ref 0), some (.int (nI p)), some (.int (nI (l2 ||| (2 ^ l3)))), some (.int (nI (l3 + 1))), some (.int (nI 1)), some (.int (nI 1))] [] (G, (mI A1v6, j), cc) P)))))))))))))))))))))) : EvP X (d + 6) gvm_173 26 [some (.ref 0), some (.int (nI p)), some (.int (nI l2)), some (.int (nI l3)), l4, l5] [] (G, (mI A, j), cc) P :=
  (pv_iload_n rfl rfl   (pn_iconst rfl rfl   (pn_ic_ge rfl H.1 (by decide) (fun c1 => (pv_iload_n rfl rfl   (pv_ireti rfl rfl (H.2.1 c1)))) (fun c1 => (pv_aload_n rfl rfl   (pv_iload_n rfl rfl   (pv_iload_n rfl rfl   (match (c_guestHas (p := p) (h := l3) (R := R) (A := A) (X := X) (d := d + 0) (G := G) (j := j) (cc := cc) hp0 (H.2.2 c1).1 (H.2.2 c1).2.1 (H.2.2 c1).2.2.1 ) with | ⟨A1v1, e6x34, h2⟩ => pv_virt rfl rfl rfl rfl rfl (oX11_k hp0) rfl rfl rfl e6x34 (pv_aload_n rfl rfl   (pv_iload_n rfl rfl   (pv_iload_n rfl rfl   (pn_iconst rfl rfl   (pn_ixor rfl   (match (c_guestHas (p := p) (h := (l3 ^^^ 2)) (R := R) (A := A1v1) (X := X) (d := d + 0) (G := G) (j := j) (cc := cc) hp0 ((H.2.2 c1).2.2.2 A1v1 h2).1 ((H.2.2 c1).2.2.2 A1v1 h2).2.1 ((H.2.2 c1).2.2.2 A1v1 h2).2.2.1 ) with | ⟨A1v2, e6x42, h3⟩ => pv_virt rfl rfl rfl rfl rfl (oX11_k hp0) rfl rfl rfl e6x42 (pn_ic_ltw rfl  (fun c4 => (pn_iconst rfl rfl   (pv_istore rfl rfl   (pv_aload_n rfl rfl   (pv_iload_n rfl rfl   (pv_iload_n rfl rfl   (match (c_hostHas (p := p) (h := l3) (R := R) (A := A1v2) (X := X) (d := d + 0) (G := G) (j := j) (cc := cc) hp0 ((((H.2.2 c1).2.2.2 A1v1 h2).2.2.2 A1v2 h3).1 c4).1 ((((H.2.2 c1).2.2.2 A1v1 h2).2.2.2 A1v2 h3).1 c4).2.1 ((((H.2.2 c1).2.2.2 A1v1 h2).2.2.2 A1v2 h3).1 c4).2.2.1 ) with | ⟨A1v3, e4x58, h5⟩ => pv_virt rfl rfl rfl rfl rfl (oX11_k hp0) rfl rfl rfl e4x58 (pv_aload_n rfl rfl   (pv_iload_n rfl rfl   (pv_iload_n rfl rfl   (pn_iconst rfl rfl   (pn_ixor rfl   (match (c_hostHas (p := p) (h := (l3 ^^^ 1)) (R := R) (A := A1v3) (X := X) (d := d + 0) (G := G) (j := j) (cc := cc) hp0 (((((H.2.2 c1).2.2.2 A1v1 h2).2.2.2 A1v2 h3).1 c4).2.2.2 A1v3 h5).1 (((((H.2.2 c1).2.2.2 A1v1 h2).2.2.2 A1v2 h3).1 c4).2.2.2 A1v3 h5).2.1 (((((H.2.2 c1).2.2.2 A1v1 h2).2.2.2 A1v2 h3).1 c4).2.2.2 A1v3 h5).2.2.1 ) with | ⟨A1v4, e4x66, h6⟩ => pv_virt rfl rfl rfl rfl rfl (oX11_k hp0) rfl rfl rfl e4x66 (pn_ic_ltw rfl  (fun c7 => (pn_iconst rfl rfl   (pv_istore rfl rfl   (pv_iload rfl rfl   (pn_if_eq rfl (by decide) (fun _ => (pn_iinc rfl rfl rfl rfl   (pv_goto rfl (((((((H.2.2 c1).2.2.2 A1v1 h2).2.2.2 A1v2 h3).1 c4).2.2.2 A1v3 h5).2.2.2 A1v4 h6).1 c7)))) (fun e => absurd e (by decide))))))) (fun c7 => (pn_iconst rfl rfl   (pv_goto rfl (pv_istore rfl rfl   (pv_iload rfl rfl   (pn_if_eq rfl (by decide) (fun _ => (pn_iinc rfl rfl rfl rfl   (pv_goto rfl (((((((H.2.2 c1).2.2.2 A1v1 h2).2.2.2 A1v2 h3).1 c4).2.2.2 A1v3 h5).2.2.2 A1v4 h6).2 c7)))) (fun e => absurd e (by decide)))))))))))))))))))))) (fun c4 => (pn_iconst rfl rfl   (pv_goto rfl (pv_istore rfl rfl   (pv_aload_n rfl rfl   (pv_iload_n rfl rfl   (pv_iload_n rfl rfl   (match (c_hostHas (p := p) (h := l3) (R := R) (A := A1v2) (X := X) (d := d + 0) (G := G) (j := j) (cc := cc) hp0 ((((H.2.2 c1).2.2.2 A1v1 h2).2.2.2 A1v2 h3).2 c4).1 ((((H.2.2 c1).2.2.2 A1v1 h2).2.2.2 A1v2 h3).2 c4).2.1 ((((H.2.2 c1).2.2.2 A1v1 h2).2.2.2 A1v2 h3).2 c4).2.2.1 ) with | ⟨A1v5, e6x58, h10⟩ => pv_virt rfl rfl rfl rfl rfl (oX11_k hp0) rfl rfl rfl e6x58 (pv_aload_n rfl rfl   (pv_iload_n rfl rfl   (pv_iload_n rfl rfl   (pn_iconst rfl rfl   (pn_ixor rfl   (match (c_hostHas (p := p) (h := (l3 ^^^ 1)) (R := R) (A := A1v5) (X := X) (d := d + 0) (G := G) (j := j) (cc := cc) hp0 (((((H.2.2 c1).2.2.2 A1v1 h2).2.2.2 A1v2 h3).2 c4).2.2.2 A1v5 h10).1 (((((H.2.2 c1).2.2.2 A1v1 h2).2.2.2 A1v2 h3).2 c4).2.2.2 A1v5 h10).2.1 (((((H.2.2 c1).2.2.2 A1v1 h2).2.2.2 A1v2 h3).2 c4).2.2.2 A1v5 h10).2.2.1 ) with | ⟨A1v6, e6x66, h11⟩ => pv_virt rfl rfl rfl rfl rfl (oX11_k hp0) rfl rfl rfl e6x66 (pn_ic_ltw rfl  (fun c12 => (pn_iconst rfl rfl   (pv_istore rfl rfl   (pv_iload rfl rfl   (pn_if_eq rfl (by decide) (fun e => absurd e (by decide)) (fun _ => (pv_iload rfl rfl   (pn_if_eq rfl (by decide) (fun _ => (pn_iinc rfl rfl rfl rfl   (pv_goto rfl (((((((H.2.2 c1).2.2.2 A1v1 h2).2.2.2 A1v2 h3).2 c4).2.2.2 A1v5 h10).2.2.2 A1v6 h11).1 c12)))) (fun e => absurd e (by decide)))))))))) (fun c12 => (pn_iconst rfl rfl   (pv_goto rfl (pv_istore rfl rfl   (pv_iload rfl rfl   (pn_if_eq rfl (by decide) (fun e => absurd e (by decide)) (fun _ => (pv_iload rfl rfl   (pn_if_eq rfl (by decide) (fun e => absurd e (by decide)) (fun _ => (pv_iload_n rfl rfl   (pn_iconst rfl rfl   (pv_iload_n rfl rfl   (pn_ishl1 rfl (((((((H.2.2 c1).2.2.2 A1v1 h2).2.2.2 A1v2 h3).2 c4).2.2.2 A1v5 h10).2.2.2 A1v6 h11).2 c12).1  (pn_ior rfl   (pv_istore_n rfl rfl   (pn_iinc rfl rfl rfl rfl   (pv_goto rfl (((((((H.2.2 c1).2.2.2 A1v1 h2).2.2.2 A1v2 h3).2 c4).2.2.2 A1v5 h10).2.2.2 A1v6 h11).2 c12).2))))))))))))))))))))))))))))))))))))))))))))))))
theorem c_rests_p {X : gv_X} {d : Nat} {G : gv_Sh} {A : Nat → Nat → Nat} {j : Nat → Nat → Int64} {cc : gv_Rs} {P : gv_O × gv_S → Prop} {p : Nat} {R : Nat → Nat} (hp0 : oX11 G 0) (p0 : cK A R) (p1 : p < 4294967296) (hP : ∀ A1 : Nat → Nat → Nat, (cK A1 R) ∧ (frK A A1) → P (oc (fun _ => 1) (spRests R p).1 (spRests R p).2 (G, (mI A1, j), cc))) : EvP X (d + 6) gvm_173 0 (gv_enter [.ref 0, .int (nI p)] 6) [] (G, (mI A, j), cc) P := by
  have ok : ∀ B x, cK B R ∧ frK A B → spRests R p = (0, x) → P (.inl (some (.int (nI x))), (G, (mI B, j), cc)) := fun B x h1 h3 => by
    have := hP B h1
    rw [h3] at this
    exact this
  have no1 : ∀ B, cK B R ∧ frK A B → spRests R p = (1, 0) → P (.inr 1, gv_ex (G, (mI B, j), cc)) := fun B h1 h3 => by
    have := hP B h1
    rw [h3] at this
    exact this
  have n := okW_n p0.1
  have ro : rO A 3 R := p0.2.1.1
  have e0 : A 3 0 = R 0 := ro.1
  have X2 : ∀ k, k < 4 → (k ^^^ 2) < 4 ∧ (k ^^^ 2) / 2 = 1 - k / 2 ∧ (k ^^^ 2) % 2 = k % 2 := by decide
  have X1 : ∀ k, k < 4 → (k ^^^ 1) < 4 ∧ (k ^^^ 1) / 2 = k / 2 ∧ (k ^^^ 1) % 2 = 1 - k % 2 := by decide
  have Lp : p < R 0 → ∀ i k B l4 l5, k + i = 4 → cQ B R → frK A B → EvP X (d + 6) gvm_173 26 [some (.ref 0), some (.int (nI p)), some (.int (nI (bitN (fun i => rsB R (tbF R) p (i / 2) (i % 2)) k))), some (.int (nI k)), l4, l5] [] (G, (mI B, j), cc) P := by
    intro hp i
    induction i with
    | zero =>
      intro k B l4 l5 hk hQ hf
      obtain rfl : k = 4 := by omega
      refine w173_26 (R := R) hp0 ⟨by omega, fun c1 => ok B _ ⟨cQ_K hQ, hf⟩ ?_, fun c1 => absurd c1 (by omega)⟩
      unfold spRests; rw [if_neg (by omega)]; rfl
    | succ i ih =>
      intro k B l4 l5 hk hQ hf
      obtain ⟨x1, x2, x3⟩ := X2 k (by omega)
      obtain ⟨y1, y2, y3⟩ := X1 k (by omega)
      have ih := ih (k + 1)
      rw [show bitN (fun i => rsB R (tbF R) p (i / 2) (i % 2)) (k + 1) = bitN (fun i => rsB R (tbF R) p (i / 2) (i % 2)) k ||| (if rsB R (tbF R) p (k / 2) (k % 2) = true then 2 ^ k else 0) from rfl] at ih
      have g1 := guH_b (T := tbF R) p0.1 p0.2.2.2.1 (p := p) (a := k / 2) (b := k % 2) (by omega)
      have g2 := guH_b (T := tbF R) p0.1 p0.2.2.2.1 (p := p) (a := 1 - k / 2) (b := k % 2) (by omega)
      have h1 := hoH_b (T := tbF R) p0.1 p0.2.2.2.1 (p := p) (a := k / 2) (b := k % 2)
      have h2 := hoH_b (T := tbF R) p0.1 p0.2.2.2.1 (p := p) (a := k / 2) (b := 1 - k % 2)
      have cg := enc_cmp g1.1 g1.2 g2.1 g2.2
      have ch := enc_cmp h1.1 h1.2 h2.1 h2.2
      have h := w173_26 (X := X) (d := d) (G := G) (A := B) (j := j) (cc := cc) (P := P) (p := p) (l2 := bitN (fun i => rsB R (tbF R) p (i / 2) (i % 2)) k) (l3 := k) (l4 := l4) (l5 := l5) (R := R) hp0
      rw [x2, x3, y2, y3] at h
      have no : rsB R (tbF R) p (k / 2) (k % 2) = false → ∀ D l4 l5, cQ D R → frK A D → EvP X (d + 6) gvm_173 26 [some (.ref 0), some (.int (nI p)), some (.int (nI (bitN (fun i => rsB R (tbF R) p (i / 2) (i % 2)) k))), some (.int (nI (k + 1))), l4, l5] [] (G, (mI D, j), cc) P := fun z D l4 l5 a b => by
        have := ih D l4 l5 (by omega) a b
        rw [z, if_neg (by decide), Nat.or_zero] at this
        exact this
      refine h ⟨by omega, fun c1 => absurd c1 (by omega), fun c1 => ⟨hQ, hp, by omega, fun C f1 => ⟨f1.1, hp, x1, fun D f2 => ⟨fun c3 => ⟨f2.1, hp, by omega, fun E f3 => ⟨f3.1, hp, y1, fun F f4 => ⟨fun c4 => no ?_ F _ _ f4.1 (frK_tr hf (frK_tr f1.2 (frK_tr f2.2 (frK_tr f3.2 f4.2)))), fun c4 => no ?_ F _ _ f4.1 (frK_tr hf (frK_tr f1.2 (frK_tr f2.2 (frK_tr f3.2 f4.2))))⟩⟩⟩, fun c3 => ⟨f2.1, hp, by omega, fun E f3 => ⟨f3.1, hp, y1, fun F f4 => ⟨fun c4 => no ?_ F _ _ f4.1 (frK_tr hf (frK_tr f1.2 (frK_tr f2.2 (frK_tr f3.2 f4.2)))), fun c4 => ⟨by omega, ?_⟩⟩⟩⟩⟩⟩⟩⟩
      · unfold rsB; rw [decide_eq_false (_root_.mt cg.mpr (by omega))]; rfl
      · unfold rsB; rw [decide_eq_false (_root_.mt cg.mpr (by omega))]; rfl
      · unfold rsB; rw [decide_eq_false (_root_.mt ch.mpr (by omega)), Bool.and_false]
      · have := ih F (some (.int (nI 1))) (some (.int (nI 1))) (by omega) f4.1 (frK_tr hf (frK_tr f1.2 (frK_tr f2.2 (frK_tr f3.2 f4.2))))
        rw [if_pos (by unfold rsB; rw [decide_eq_true (cg.mp c3), decide_eq_true (ch.mp c4)]; rfl)] at this
        exact this
  refine w173 (R := R) hp0 ⟨p1, rO_n ro p0.1, fun c1 => ⟨p0.1, ro, by decide, p0.2.2.1, fun B h2 => ?_⟩, fun c1 => no1 A ⟨p0, frK_rf A⟩ (by unfold spRests; rw [if_pos (by omega)])⟩
  obtain ⟨hQ, hf⟩ := cK_Z p0 h2.1 h2.2.1 h2.2.2
  exact Lp (by omega) 4 0 B none none rfl hQ hf
theorem w151 {X : gv_X} {d : Nat} {G : gv_Sh} {A : Nat → Nat → Nat} {j : Nat → Nat → Int64} {cc : gv_Rs} {P : gv_O × gv_S → Prop}  (hp0 : oX11 G 0) (H : EvP X (d + 5) gvm_151 4 [some (.ref 0), some (.int (nI 0)), some (.int (nI 1))] [] (G, (mI A, j), cc) P) : EvP X (d + 5) gvm_151 0 (gv_enter [.ref 0] 3) [] (G, (mI A, j), cc) P :=
  (pn_iconst rfl rfl   (pv_istore_n rfl rfl   (pn_iconst rfl rfl   (pv_istore_n rfl rfl   H))))
theorem w151_4 {X : gv_X} {d : Nat} {G : gv_Sh} {A : Nat → Nat → Nat} {j : Nat → Nat → Int64} {cc : gv_Rs} {P : gv_O × gv_S → Prop} {l1 : Nat} {l2 : Nat} {R : Nat → Nat} (hp0 : oX11 G 0) (H : ((A 3 0) < 32) ∧ ((l2 < 2147483648) ∧ (((2 ^ (A 3 0)) < 2147483648) ∧ ((((2 ^ (A 3 0)) ≤ l2) → P (.inl (some (.int (nI l1))), (G, (mI A, j), cc))) ∧ ((l2 < (2 ^ (A 3 0))) → (l2 < 256) ∧ ((l1 < 256) ∧ (((bcN l2) < 2147483648) ∧ (((bcN l1) < 2147483648) ∧ ((((bcN l2) ≤ (bcN l1)) → EvP X (d + 5) gvm_151 4 [some (.ref 0), some (.int (nI l1)), some (.int (nI (l2 + 1)))] [] (G, (mI A, j), cc) P) ∧ (((bcN l1) < (bcN l2)) → (cK A R) ∧ ((l2 < 256) ∧ ((((ncA R l2 (R 0)) = false) → EvP X (d + 5) gvm_151 4 [some (.ref 0), some (.int (nI l1)), some (.int (nI (l2 + 1)))] [] (G, (mI A, j), cc) P) ∧ (((ncA R l2 (R 0)) = true) → EvP X (d + 5) gvm_151 4 [some (.ref 0), some (.int (nI l2)), some (.int (nI (l2 + 1)))] [] (G, (mI A, j), cc) P))))))))))))) : EvP X (d + 5) gvm_151 4 [some (.ref 0), some (.int (nI l1)), some (.int (nI l2))] [] (G, (mI A, j), cc) P :=
  (pv_iload_n rfl rfl   (pn_iconst rfl rfl   (pv_aload_n rfl rfl   (pv_getP rfl rfl (oX11_k hp0) (oX11_3 hp0)   (pv_getP rfl rfl (oX10_k (oX11_3c hp0)) (oX10_0 (oX11_3c hp0))   (pn_getI rfl rfl (oX6_k (oX10_0c (oX11_3c hp0))) rfl   (pn_ishl1 rfl H.1  (pn_ic_ge rfl H.2.1 H.2.2.1 (fun c1 => (pv_iload_n rfl rfl   (pv_ireti rfl rfl (H.2.2.2.1 c1)))) (fun c1 => (pv_iload_n rfl rfl   (pv_stat rfl rfl rfl rfl rfl rfl rfl rfl (k_bitCount (x := l2) (A := A) (H.2.2.2.2 c1).1 ) (pv_iload_n rfl rfl   (pv_stat rfl rfl rfl rfl rfl rfl rfl rfl (k_bitCount (x := l1) (A := A) (H.2.2.2.2 c1).2.1 ) (pn_ic_le rfl (H.2.2.2.2 c1).2.2.1 (H.2.2.2.2 c1).2.2.2.1 (fun c2 => (pn_iinc rfl rfl rfl rfl   (pv_goto rfl ((H.2.2.2.2 c1).2.2.2.2.1 c2)))) (fun c2 => (pv_aload_n rfl rfl   (pv_iload_n rfl rfl   (pv_virt rfl rfl rfl rfl rfl (oX11_k hp0) rfl rfl rfl (c_isPeaceful (s := l2) (R := R) (A := A) hp0 ((H.2.2.2.2 c1).2.2.2.2.2 c2).1 ((H.2.2.2.2 c1).2.2.2.2.2 c2).2.1 ) (pv_if_eq_zo rfl  (fun c3 => (pn_iinc rfl rfl rfl rfl   (pv_goto rfl (((H.2.2.2.2 c1).2.2.2.2.2 c2).2.2.1 c3)))) (fun c3 => (pv_iload_n rfl rfl   (pv_istore_n rfl rfl   (pn_iinc rfl rfl rfl rfl   (pv_goto rfl (((H.2.2.2.2 c1).2.2.2.2.2 c2).2.2.2 c3)))))))))))))))))))))))))
theorem c_beside_p {X : gv_X} {d : Nat} {G : gv_Sh} {A : Nat → Nat → Nat} {j : Nat → Nat → Int64} {cc : gv_Rs} {P : gv_O × gv_S → Prop} {R : Nat → Nat} (hp0 : oX11 G 0) (p0 : cK A R) (hP : P (.inl (some (.int (nI (besN R (2 ^ (R 0) - 1))))), (G, (mI A, j), cc))) : EvP X (d + 5) gvm_151 0 (gv_enter [.ref 0] 3) [] (G, (mI A, j), cc) P := by
  have n := okW_n p0.1
  have e0 : A 3 0 = R 0 := p0.2.1.1.1
  have pl := pow_le8 n.1
  have pg : 1 ≤ 2 ^ R 0 := Nat.pow_pos (by decide)
  have Lp : ∀ i k, k + i = 2 ^ R 0 - 1 → EvP X (d + 5) gvm_151 4 [some (.ref 0), some (.int (nI (besN R k))), some (.int (nI (k + 1)))] [] (G, (mI A, j), cc) P := by
    intro i
    induction i with
    | zero =>
      intro k hk
      have h := w151_4 (X := X) (d := d) (G := G) (A := A) (j := j) (cc := cc) (P := P) (l1 := besN R k) (l2 := k + 1) (R := R) hp0
      rw [e0] at h
      refine h ⟨by omega, by omega, by omega, fun c1 => ?_, fun c1 => absurd c1 (by omega)⟩
      rw [show k = 2 ^ R 0 - 1 by omega]; exact hP
    | succ i ih =>
      intro k hk
      have h := w151_4 (X := X) (d := d) (G := G) (A := A) (j := j) (cc := cc) (P := P) (l1 := besN R k) (l2 := k + 1) (R := R) hp0
      rw [e0] at h
      have ih := ih (k + 1) (by omega)
      have b1 := bcN_lt (besN R k)
      have b2 := bcN_lt (k + 1)
      have b3 := besN_le R k
      rw [show besN R (k + 1) = if bcN (besN R k) < bcN (k + 1) ∧ ncA R (k + 1) (R 0) = true then k + 1 else besN R k from rfl] at ih
      refine h ⟨by omega, by omega, by omega, fun c1 => absurd c1 (by omega), fun c1 => ⟨by omega, by omega, by omega, by omega, fun c2 => ?_, fun c2 => ⟨p0, by omega, fun c3 => ?_, fun c3 => ?_⟩⟩⟩
      · rw [if_neg (fun y => absurd y.1 (by omega))] at ih; exact ih
      · rw [if_neg (fun y => by rw [c3] at y; exact absurd y.2 (by decide))] at ih; exact ih
      · rw [if_pos ⟨c2, c3⟩] at ih; exact ih
  exact w151 hp0 (Lp _ 0 (Nat.zero_add _))
theorem c_beside {X : gv_X} {d : Nat} {G : gv_Sh} {A : Nat → Nat → Nat} {j : Nat → Nat → Int64} {cc : gv_Rs} {R : Nat → Nat} (hp0 : oX11 G 0) (p0 : cK A R) : Ev X (d + 5) gvm_151 0 (gv_enter [.ref 0] 3) [] (G, (mI A, j), cc) (.inl (some (.int (nI (besN R (2 ^ (R 0) - 1))))), (G, (mI A, j), cc)) := evp_det (c_beside_p hp0 p0 rfl)
