/-! the class: rows told -/
/-- good rows lie in the reader -/
def tdI (A : Nat → Nat → Nat) (t : Nat → Nat) (E : Nat) : Prop := A 258 1 = E ∧ E % 2 = 0 ∧ E ≤ 40 ∧ (∀ r, r < E / 2 → A 259 (2 * r) ≤ 6 ∧ A 259 (2 * r + 1) ≤ 10) ∧ ∀ i, i < E → A 259 i = t i
theorem sx8_le {a k : Nat} (h : a < 256) (hk : k < 128) : sx8 a ≤ k ↔ a ≤ k := by
  unfold sx8
  split <;> omega
theorem sx8_sm {a : Nat} (h : a < 128) : sx8 a = a := if_pos h
/-- what stays when rows are told -/
def frT2 (A B : Nat → Nat → Nat) : Prop := B 0 1 = 0 ∧ (∀ k, k ≠ 1 → B 0 k = A 0 k) ∧ ∀ q, q ≠ 0 → ¬ (55 ≤ q ∧ q ≤ 60) → q ≠ 258 → q ≠ 259 → B q = A q
theorem tz_up : ∀ n, n < 8 → ∀ x, x < 128 → (!decide (x < 2 ^ n) || decide (tzN (x ||| 2 ^ n) = if x = 0 then n else tzN x)) = true := by decide +kernel
theorem tz_s {n x : Nat} (hn : n < 8) (h : x < 2 ^ n) : tzN (x ||| 2 ^ n) = if x = 0 then n else tzN x := by
  have h7 : 2 ^ n ≤ 2 ^ 7 := Nat.pow_le_pow_right (by decide) (by omega)
  have := tz_up n hn x (by omega)
  rw [decide_eq_true h, Bool.not_true, Bool.false_or] at this
  exact of_decide_eq_true this
theorem nni {p : Prop} (h : p) : ¬ ¬ p := fun k => k h
theorem or_0 {x n : Nat} : ¬ (x ||| 2 ^ n) = 0 := fun z => by
  have : (x ||| 2 ^ n).testBit n = false := by rw [z]; exact Nat.zero_testBit n
  rw [Nat.testBit_or, Nat.testBit_two_pow_self, Bool.or_true] at this
  cases this
theorem w154 {X : gv_X} {d : Nat} {G : gv_Sh} {A : Nat → Nat → Nat} {j : Nat → Nat → Int64} {cc : gv_Rs} {P : gv_O × gv_S → Prop}  (hp0 : oX11 G 0) (H : (A 0 1 ≤ 400) ∧ ((∀ A1v1 : Nat → Nat → Nat, ((A1v1 0 1 = 0) ∧ (∀ k, k ≠ 1 → A1v1 0 k = A 0 k) ∧ (A1v1 258 1 = A 0 1) ∧ (A1v1 258 2 = 0) ∧ (A1v1 258 3 = 4294967295) ∧ (∀ i, i < A 0 1 → A1v1 259 i = A 1 i) ∧ (∀ q, q ≠ 0 → q ≠ 258 → q ≠ 259 → A1v1 q = A q)) → ((A1v1 258 1) < 2147483648) ∧ (((40 < (A1v1 258 1)) → P (.inr 0, gv_ex (G, (mI A1v1, j), cc))) ∧ (((A1v1 258 1) ≤ 40) → ((A1v1 258 1) < 2147483648) ∧ ((((A1v1 258 1) % 2) < 4294967296) ∧ (((((A1v1 258 1) % 2) = 0) → EvP X (d + 6) gvm_154 41 [some (.ref 0), some (.int (nI 0))] [] (G, (mI A1v1, j), cc) P) ∧ ((¬ ((A1v1 258 1) % 2) = 0) → P (.inr 0, gv_ex (G, (mI A1v1, j), cc)))))))))) : EvP X (d + 6) gvm_154 0 (gv_enter [.ref 0] 2) [] (G, (mI A, j), cc) P :=
  (pv_aload_n rfl rfl   (match (c_useTape (A := A) (X := X) (d := d + 3) (G := G) (j := j) (cc := cc) hp0 H.1 ) with | ⟨A1v1, e1x1, h1⟩ => pv_virt rfl rfl rfl rfl rfl (oX11_k hp0) rfl rfl rfl e1x1 (pv_aload_n rfl rfl   (pv_getP rfl rfl (oX11_k hp0) (oX11_11 hp0)   (pn_getI rfl rfl (oX7_k (oX11_11c hp0)) rfl   (pn_bipush rfl rfl   (pn_ic_gt rfl (H.2 A1v1 h1).1 (by decide) (fun c2 => (pv_throw rfl rfl rfl ((H.2 A1v1 h1).2.1 c2))) (fun c2 => (pv_aload_n rfl rfl   (pv_getP rfl rfl (oX11_k hp0) (oX11_11 hp0)   (pn_getI rfl rfl (oX7_k (oX11_11c hp0)) rfl   (pn_iconst rfl rfl   (pn_irem rfl ((H.2 A1v1 h1).2.2 c2).1 (by decide) (by decide)  (pn_if_eq rfl ((H.2 A1v1 h1).2.2 c2).2.1 (fun c3 => (pn_iconst rfl rfl   (pv_istore_n rfl rfl   (((H.2 A1v1 h1).2.2 c2).2.2.1 c3)))) (fun c3 => (pv_throw rfl rfl rfl (((H.2 A1v1 h1).2.2 c2).2.2.2 c3)))))))))))))))))
theorem w154_41 {X : gv_X} {d : Nat} {G : gv_Sh} {A : Nat → Nat → Nat} {j : Nat → Nat → Int64} {cc : gv_Rs} {P : gv_O × gv_S → Prop} {l1 : Nat} {R : Nat → Nat} (hp0 : oX11 G 0) (H : (l1 < 2147483648) ∧ (((A 258 1) < 2147483648) ∧ ((((A 258 1) ≤ l1) → (okW R) ∧ ((rO A 3 R) ∧ ((3 + 6 ≤ 54) ∧ ((knI A R) ∧ ((∀ A1v1 : Nat → Nat → Nat, ((stT A1v1 R) ∧ (knI A1v1 R) ∧ (frZ A A1v1)) → P (.inl none, (G, (mI A1v1, j), cc)))))))) ∧ ((l1 < (A 258 1)) → (l1 < 4294967296) ∧ ((A 258 1 ≤ 400) ∧ (((if l1 < A 258 1 then A 259 l1 else 4294967295) < 2147483648) ∧ (((6 < (if l1 < A 258 1 then A 259 l1 else 4294967295)) → P (.inr 0, gv_ex (G, (mI A, j), cc))) ∧ (((if l1 < A 258 1 then A 259 l1 else 4294967295) ≤ 6) → ((l1 + 1) < 4294967296) ∧ ((A 258 1 ≤ 400) ∧ (((if (l1 + 1) < A 258 1 then A 259 (l1 + 1) else 4294967295) < 2147483648) ∧ ((((if (l1 + 1) < A 258 1 then A 259 (l1 + 1) else 4294967295) ≤ 10) → EvP X (d + 6) gvm_154 41 [some (.ref 0), some (.int (nI (l1 + 2)))] [] (G, (mI A, j), cc) P) ∧ ((10 < (if (l1 + 1) < A 258 1 then A 259 (l1 + 1) else 4294967295)) → P (.inr 0, gv_ex (G, (mI A, j), cc)))))))))))))) : EvP X (d + 6) gvm_154 41 [some (.ref 0), some (.int (nI l1))] [] (G, (mI A, j), cc) P :=
  (pv_iload_n rfl rfl   (pv_aload_n rfl rfl   (pv_getP rfl rfl (oX11_k hp0) (oX11_11 hp0)   (pn_getI rfl rfl (oX7_k (oX11_11c hp0)) rfl   (pn_ic_ge rfl H.1 H.2.1 (fun c1 => (pv_aload_n rfl rfl   (pv_getP rfl rfl (oX11_k hp0) (oX11_7 hp0)   (pv_getP rfl rfl (oX4_k (oX11_7c hp0)) (oX4_1 (oX11_7c hp0))   (pv_aload_n rfl rfl   (pv_getP rfl rfl (oX11_k hp0) (oX11_3 hp0)   (pv_getP rfl rfl (oX10_k (oX11_3c hp0)) (oX10_0 (oX11_3c hp0))   (match (c_learn (R := R) (A := A) (X := X) (d := d + 0) (G := G) (j := j) (cc := cc) (oX4_1c (oX11_7c hp0)) (oX10_0c (oX11_3c hp0)) (H.2.2.1 c1).1 (H.2.2.1 c1).2.1 (H.2.2.1 c1).2.2.1 (H.2.2.1 c1).2.2.2.1 ) with | ⟨A1v1, e1x111, h2⟩ => pv_virt rfl rfl rfl rfl rfl (oX9_k (oX4_1c (oX11_7c hp0))) rfl rfl rfl e1x111 (pv_vret rfl ((H.2.2.1 c1).2.2.2.2 A1v1 h2)))))))))) (fun c1 => (pv_aload_n rfl rfl   (pv_getP rfl rfl (oX11_k hp0) (oX11_11 hp0)   (pv_iload_n rfl rfl   (pv_virt rfl rfl rfl rfl rfl (oX7_k (oX11_11c hp0)) rfl rfl rfl (c_byteAt (i := l1) (A := A) (oX11_11c hp0) (H.2.2.2 c1).1 (H.2.2.2 c1).2.1 ) (pn_bipush rfl rfl   (pn_ic_gt rfl (H.2.2.2 c1).2.2.1 (by decide) (fun c3 => (pv_throw rfl rfl rfl ((H.2.2.2 c1).2.2.2.1 c3))) (fun c3 => (pv_aload_n rfl rfl   (pv_getP rfl rfl (oX11_k hp0) (oX11_11 hp0)   (pv_iload_n rfl rfl   (pn_iconst rfl rfl   (pn_iadd rfl   (pv_virt rfl rfl rfl rfl rfl (oX7_k (oX11_11c hp0)) rfl rfl rfl (c_byteAt (i := (l1 + 1)) (A := A) (oX11_11c hp0) ((H.2.2.2 c1).2.2.2.2 c3).1 ((H.2.2.2 c1).2.2.2.2 c3).2.1 ) (pn_bipush rfl rfl   (pn_ic_le rfl ((H.2.2.2 c1).2.2.2.2 c3).2.2.1 (by decide) (fun c4 => (pn_iinc rfl rfl rfl rfl   (pv_goto rfl (((H.2.2.2 c1).2.2.2.2 c3).2.2.2.1 c4)))) (fun c4 => (pv_throw rfl rfl rfl (((H.2.2.2 c1).2.2.2.2 c3).2.2.2.2 c4))))))))))))))))))))))))
theorem c_takeRows_p {X : gv_X} {d : Nat} {G : gv_Sh} {A : Nat → Nat → Nat} {j : Nat → Nat → Int64} {cc : gv_Rs} {P : gv_O × gv_S → Prop} {t R : Nat → Nat} (hp0 : oX11 G 0) (p0 : cK A R) (p1 : A 0 1 ≤ 400) (p2 : ∀ i, i < A 0 1 → A 1 i < 256 ∧ t i = sx8 (A 1 i)) (hP : ∀ A1 : Nat → Nat → Nat, frT2 A A1 ∧ cK A1 R ∧ (tdB t (A 0 1) = true → cQ A1 R ∧ tdI A1 t (A 0 1)) → P (if tdB t (A 0 1) = true then (.inl none, (G, (mI A1, j), cc)) else (.inr 0, gv_ex (G, (mI A1, j), cc)))) : EvP X (d + 6) gvm_154 0 (gv_enter [.ref 0] 2) [] (G, (mI A, j), cc) P := by
  have OK : ∀ B, tdB t (A 0 1) = true → frT2 A B ∧ cK B R ∧ (tdB t (A 0 1) = true → cQ B R ∧ tdI B t (A 0 1)) → P (.inl none, (G, (mI B, j), cc)) := fun B h1 h2 => by
    have := hP B h2
    rw [if_pos h1] at this; exact this
  have NO : ∀ B, ¬ tdB t (A 0 1) = true → frT2 A B → cK B R → P (.inr 0, gv_ex (G, (mI B, j), cc)) := fun B h1 h2 h3 => by
    have := hP B ⟨h2, h3, fun z => absurd z h1⟩
    rw [if_neg h1] at this; exact this
  refine w154 hp0 ⟨p1, fun B h => ?_⟩
  have K : cK B R := ⟨p0.1, rW_fr p0.2.1 (fun q a b => h.2.2.2.2.2.2 q (by omega) (by omega) (by omega)), knI_of p0.2.2.1 (h.2.2.2.2.2.2 55 (by omega) (by omega) (by omega)), p0.2.2.2.1, rRu_of p0.2.2.2.2.1 (fun q a b => h.2.2.2.2.2.2 q (by omega) (by omega) (by omega)), smI_of p0.2.2.2.2.2 (h.2.2.2.2.2.2 61 (by omega) (by omega) (by omega))⟩
  have fr : frT2 A B := ⟨h.1, h.2.1, fun q a b c e => h.2.2.2.2.2.2 q a c e⟩
  obtain ⟨E, hE⟩ : ∃ E, E = A 0 1 := ⟨_, rfl⟩
  have s1 : B 258 1 = E := h.2.2.1.trans hE.symm
  have tx : ∀ i, i < E → B 259 i < 256 ∧ t i = sx8 (B 259 i) := fun i hi => by rw [h.2.2.2.2.2.1 i (by omega)]; exact p2 i (by omega)
  rw [← hE] at OK NO p1
  rw [s1]
  have td : tdB t E = (decide (E % 2 = 0) && (decide (E ≤ 40) && allN (tdF t) (E / 2))) := rfl
  refine ⟨by omega, fun c1 => NO B (fun z => ?_) fr K, fun c1 => ⟨by omega, by omega, fun c2 => ?_, fun c2 => NO B (fun z => ?_) fr K⟩⟩
  · exact absurd (tdB_t z).2.1 (by omega)
  · have L : ∀ f r, r + f = E / 2 → allN (tdF t) r = true → EvP X (d + 6) gvm_154 41 [some (.ref 0), some (.int (nI (2 * r)))] [] (G, (mI B, j), cc) P := by
      intro f
      induction f with
      | zero =>
        intro r hr ha
        obtain rfl : r = E / 2 := by omega
        refine w154_41 (R := R) hp0 ⟨by omega, by omega, fun _ => ⟨K.1, K.2.1.1, by decide, K.2.2.1, fun C hC => ?_⟩, fun c => absurd c (by omega)⟩
        obtain ⟨q1, q2⟩ := cK_Z K hC.1 hC.2.1 hC.2.2
        have tt : tdB t E = true := by rw [td, decide_eq_true c2, decide_eq_true c1, ha]; rfl
        have e8 : ∀ q, (q < 55 ∨ 60 < q) → C q = B q := hC.2.2
        refine OK C tt ⟨⟨?_, fun k hk => ?_, fun q a b c e => ?_⟩, cQ_K q1, fun _ => ⟨q1, ?_, c2, c1, fun r hr => ?_, fun i hi => ?_⟩⟩
        · rw [e8 0 (by omega)]; exact fr.1
        · rw [e8 0 (by omega)]; exact fr.2.1 k hk
        · rw [e8 q (by omega)]; exact fr.2.2 q a b c e
        · rw [e8 258 (by omega)]; exact s1
        · have := (tdB_t tt).2.2 r hr
          have t0 := tx (2 * r) (by omega)
          have t1 := tx (2 * r + 1) (by omega)
          rw [e8 259 (by omega)]
          rw [t0.2, t1.2, sx8_le t0.1 (by decide), sx8_le t1.1 (by decide)] at this
          exact this
        · have ti := tx i hi
          rw [e8 259 (by omega), ti.2]
          have := (tdB_t tt).2.2 (i / 2) (by omega)
          refine (sx8_sm ?_).symm
          rcases (by omega : i = 2 * (i / 2) ∨ i = 2 * (i / 2) + 1) with z | z
          · rw [← z, ti.2, sx8_le ti.1 (by decide)] at this; omega
          · rw [← z, ti.2, sx8_le ti.1 (by decide)] at this; omega
      | succ f ih =>
        intro r hr ha
        have t0 := tx (2 * r) (by omega)
        have t1 := tx (2 * r + 1) (by omega)
        have bad : tdF t r = false → ¬ tdB t E = true := fun e z => by
          have := (tdB_t z).2.2 r (by omega)
          unfold tdF at e
          rw [decide_eq_true this.1, decide_eq_true this.2] at e; cases e
        have e0 : (if 2 * r < B 258 1 then B 259 (2 * r) else 4294967295) = B 259 (2 * r) := if_pos (by omega)
        have e1 : (if 2 * r + 1 < B 258 1 then B 259 (2 * r + 1) else 4294967295) = B 259 (2 * r + 1) := if_pos (by omega)
        refine w154_41 (R := R) hp0 ⟨by omega, by omega, fun c => absurd c (by omega), fun _ => ⟨by omega, by omega, ?_⟩⟩
        rw [e0, e1]
        refine ⟨by omega, fun c3 => NO B (bad ?_) fr K, fun c3 => ⟨by omega, by omega, by omega, fun c4 => ?_, fun c4 => NO B (bad ?_) fr K⟩⟩
        · unfold tdF
          rw [t0.2, decide_eq_false (fun z => absurd ((sx8_le t0.1 (by decide)).mp z) (by omega))]; rfl
        · rw [show 2 * r + 2 = 2 * (r + 1) by omega]
          refine ih (r + 1) (by omega) ?_
          rw [show allN (tdF t) (r + 1) = (allN (tdF t) r && tdF t r) from rfl, ha, Bool.true_and]
          unfold tdF
          rw [t0.2, t1.2, decide_eq_true ((sx8_le t0.1 (by decide)).mpr c3), decide_eq_true ((sx8_le t1.1 (by decide)).mpr c4)]; rfl
        · unfold tdF
          rw [t1.2, decide_eq_false (fun z => absurd ((sx8_le t1.1 (by decide)).mp z) (by omega)), Bool.and_false]
    exact L (E / 2) 0 (by omega) rfl
  · exact absurd (tdB_t z).1 c2
theorem c_takeRows {X : gv_X} {d : Nat} {G : gv_Sh} {A : Nat → Nat → Nat} {j : Nat → Nat → Int64} {cc : gv_Rs} {t R : Nat → Nat} (hp0 : oX11 G 0) (p0 : cK A R) (p1 : A 0 1 ≤ 400) (p2 : ∀ i, i < A 0 1 → A 1 i < 256 ∧ t i = sx8 (A 1 i)) : ∃ A1 : Nat → Nat → Nat, (frT2 A A1 ∧ cK A1 R ∧ (tdB t (A 0 1) = true → cQ A1 R ∧ tdI A1 t (A 0 1))) ∧ ((tdB t (A 0 1) = true → Ev X (d + 6) gvm_154 0 (gv_enter [.ref 0] 2) [] (G, (mI A, j), cc) (.inl none, (G, (mI A1, j), cc))) ∧ (¬ (tdB t (A 0 1) = true) → Ev X (d + 6) gvm_154 0 (gv_enter [.ref 0] 2) [] (G, (mI A, j), cc) (.inr 0, gv_ex (G, (mI A1, j), cc)))) := by
  obtain ⟨r, h1, B, h2, h3⟩ := c_takeRows_p (X := X) (d := d) (G := G) (A := A) (j := j) (cc := cc) (t := t) (R := R) (P := fun r => ∃ A1 : Nat → Nat → Nat, (frT2 A A1 ∧ cK A1 R ∧ (tdB t (A 0 1) = true → cQ A1 R ∧ tdI A1 t (A 0 1))) ∧ r = (if tdB t (A 0 1) = true then (.inl none, (G, (mI A1, j), cc)) else (.inr 0, gv_ex (G, (mI A1, j), cc)))) hp0 p0 p1 p2 (fun B h => ⟨B, h, rfl⟩)
  refine ⟨B, h2, fun c => ?_, fun c => ?_⟩
  · rw [if_pos c] at h3; rw [h3] at h1; exact h1
  · rw [if_neg c] at h3; rw [h3] at h1; exact h1
