/-! many ticks; what stays where the reference answers -/
theorem qz0 {P : gv_O × gv_S → Prop} {b : Bool} {S : gv_S} (hP : P (.inl (some (.int (zo b))), S)) (h : b = false) : P (.inl (some (.int (nI 0))), S) := by rw [h] at hP; exact hP
theorem qz1 {P : gv_O × gv_S → Prop} {b : Bool} {S : gv_S} (hP : P (.inl (some (.int (zo b))), S)) (h : b = true) : P (.inl (some (.int (nI 1))), S) := by rw [h] at hP; exact hP
theorem qzz {P : gv_O × gv_S → Prop} {b c : Bool} {S : gv_S} (hP : P (.inl (some (.int (zo b))), S)) (h : b = c) : P (.inl (some (.int (zo c))), S) := by rw [h] at hP; exact hP
theorem qn {P : gv_O × gv_S → Prop} {a b : Nat} {S : gv_S} (hP : P (.inl (some (.int (nI a))), S)) (h : a = b) : P (.inl (some (.int (nI b))), S) := by rw [h] at hP; exact hP
theorem qm {P : gv_O × gv_S → Prop} {o : gv_O} {G : gv_Sh} {A B : Nat → Nat → Nat} {j : Nat → Nat → Int64} {cc : gv_Rs} (hP : P (o, (G, (mI A, j), cc))) (h : A = B) : P (o, (G, (mI B, j), cc)) := by rw [h] at hP; exact hP
def tbF (R : Nat → Nat) : Nat → Nat := fun p => tbN R p 4
theorem tbF_lt (R : Nat → Nat) (p : Nat) : tbF R p < 16 := tbN_lt R p 4
def TrJ (A : Nat → Nat → Nat) (j : Nat → Nat → Int64) : Prop := TrI A j ∧ ∀ p, p < 8 → A 273 p < 16
theorem TrJ_of {A B : Nat → Nat → Nat} {j k : Nat → Nat → Int64} (h : TrJ A j) (e : B 273 = A 273) (e2 : k 274 = j 274) : TrJ B k := by
  refine ⟨fun p hp R hR h1 hj => ?_, fun p hp => by rw [e]; exact h.2 p hp⟩
  rw [e]
  rw [e2] at hj
  exact h.1 p hp R hR h1 hj
/-- what stays where traits are laid and guests go on -/
def frU (A B : Nat → Nat → Nat) : Prop := (∀ q, q ≠ 263 → q ≠ 264 → q ≠ 271 → q ≠ 272 → q ≠ 273 → q ≠ 275 → B q = A q) ∧ ∀ k, k < 19 ∨ 25 < k → B 263 k = A 263 k
theorem frU_rf (A : Nat → Nat → Nat) : frU A A := ⟨fun _ _ _ _ _ _ _ => rfl, fun _ _ => rfl⟩
theorem frU_tr {A B C : Nat → Nat → Nat} (h : frU A B) (h2 : frU B C) : frU A C := ⟨fun q a b c e f g => (h2.1 q a b c e f g).trans (h.1 q a b c e f g), fun k hk => (h2.2 k hk).trans (h.2 k hk)⟩
theorem frU_T {A B : Nat → Nat → Nat} (h : frT A B) : frU A B := ⟨fun q a _ c e f _ => h.1 q a c e f, h.2⟩
theorem frU_S {A B : Nat → Nat → Nat} (h : frS A B) : frU A B := frU_T (frS_T h)
theorem frU_G {A B : Nat → Nat → Nat} (h : frG A B) : frU A B := ⟨fun q a b c _ _ g => h.1 q a b c g, fun k hk => h.2 k (by omega)⟩
theorem frU_gw (A : Nat → Nat → Nat) (f : Nat → Nat) : frU A (gw A 264 f) := frU_G (frG_gw A f)
theorem frU_275 {A B : Nat → Nat → Nat} (h : ∀ q, q ≠ 275 → B q = A q) : frU A B := frU_G (frG_275 h)
theorem frG_273 {A B : Nat → Nat → Nat} (h : frG A B) : B 273 = A 273 := h.1 273 (by decide) (by decide) (by decide) (by decide)
theorem r_lays {X : gv_X} {d : Nat} {G : gv_Sh} {A : Nat → Nat → Nat} {j : Nat → Nat → Int64} {cc : gv_Rs} (hp263 : oX12 G 263) (p0 : okW (A 264)) (p1 : TrJ A j) : ∃ A1 : Nat → Nat → Nat, ∃ j1 : Nat → Nat → Int64, Ev X (d + 7) gvm_262 0 (gv_enter [.ref 263] 5) [] (G, (mI A, j), cc) (.inl none, (G, (mI A1, j1), cc)) ∧ (frT A A1) ∧ (∀ q, q ≠ 274 → j1 q = j q) ∧ (TrJ A1 j1) ∧ (∀ p, p < A 264 0 → A1 273 p = tbF (A 264) p) := by
  obtain ⟨A1, j1, hE, h1, h2, h3, h4, h5⟩ := r_laysTraits (X := X) (d := d) (G := G) (cc := cc) hp263 p0 p1.1
  refine ⟨A1, j1, hE, h1, h2, ⟨h3, fun p hp => ?_⟩, h4⟩
  by_cases h : p < A 264 0
  · rw [h4 p h]; exact tbF_lt _ _
  · rw [h5 p (by omega)]; exact p1.2 p hp
theorem w279 {X : gv_X} {d : Nat} {G : gv_Sh} {A : Nat → Nat → Nat} {j : Nat → Nat → Int64} {cc : gv_Rs} {P : gv_O × gv_S → Prop} {n : Nat} {calm : Bool} (hp263 : oX12 G 263) (H : (okW (A 264)) ∧ ((TrJ A j) ∧ ((∀ A11 : Nat → Nat → Nat, ∀ j11 : Nat → Nat → Int64, ((frT A A11) ∧ (∀ q, q ≠ 274 → j11 q = j q) ∧ (TrJ A11 j11) ∧ (∀ p, p < A 264 0 → A11 273 p = tbF (A 264) p)) → EvP X (d + 8) gvm_279 9 [some (.ref 263), some (.int (nI n)), some (.int (zo calm)), some (.int (nI 0)), some (.int (nI 0))] [] (G, (mI A11, j11), cc) P)))) : EvP X (d + 8) gvm_279 0 (gv_enter [.ref 263, .int (nI n), .int (zo calm)] 5) [] (G, (mI A, j), cc) P :=
  (pv_aload_n rfl rfl   (match (r_lays (A := A) (X := X) (d := d + 0) (G := G) (j := j) (cc := cc) hp263 H.1 H.2.1 ) with | ⟨A11, j11, e1x1, h1⟩ => pv_virt rfl rfl rfl rfl rfl (oX12_k hp263) rfl rfl rfl e1x1 (pn_iconst rfl rfl   (pv_istore_n rfl rfl   (pn_iconst rfl rfl   (pv_istore rfl rfl   (H.2.2 A11 j11 h1)))))))
theorem w279_9 {X : gv_X} {d : Nat} {G : gv_Sh} {A : Nat → Nat → Nat} {j : Nat → Nat → Int64} {cc : gv_Rs} {P : gv_O × gv_S → Prop} {n : Nat} {calm : Bool} {l3 : Nat} {l4 : Nat} (hp263 : oX12 G 263) (H : (l4 < 2147483648) ∧ ((n < 2147483648) ∧ (((n ≤ l4) → P (.inl (some (.int (nI l3))), (G, (mI A, j), cc))) ∧ ((l4 < n) → ((calm = true) → (okW (A 264)) ∧ ((okLw (A 264)) ∧ ((∀ p, p < 8 → A 273 p < 16) ∧ ((∀ A11 : Nat → Nat → Nat, ((A11 264 = tkR (A 264) (A 273) false) ∧ (frG A A11)) → (((tkB (A 264) false) = false) → EvP X (d + 8) gvm_279 9 [some (.ref 263), some (.int (nI n)), some (.int (zo calm)), some (.int (nI (l3 + 0))), some (.int (nI (l4 + 1)))] [] (G, (mI A11, j), cc) P) ∧ (((tkB (A 264) false) = true) → EvP X (d + 8) gvm_279 9 [some (.ref 263), some (.int (nI n)), some (.int (zo calm)), some (.int (nI (l3 + 1))), some (.int (nI (l4 + 1)))] [] (G, (mI A11, j), cc) P)))))) ∧ ((calm = false) → (okW (A 264)) ∧ ((∀ A5 : Nat → Nat → Nat, A5 = (gw A 264 (sdR (A 264))) → ((drw (sdN (A 264 11)) 100) < 2147483648) ∧ (((A5 264 7) < 2147483648) ∧ ((((A5 264 7) ≤ (drw (sdN (A 264 11)) 100)) → (okW (A5 264)) ∧ ((okLw (A5 264)) ∧ ((∀ p, p < 8 → A5 273 p < 16) ∧ ((∀ A13 : Nat → Nat → Nat, ((A13 264 = tkR (A5 264) (A5 273) false) ∧ (frG A5 A13)) → (((tkB (A5 264) false) = false) → EvP X (d + 8) gvm_279 9 [some (.ref 263), some (.int (nI n)), some (.int (zo calm)), some (.int (nI (l3 + 0))), some (.int (nI (l4 + 1)))] [] (G, (mI A13, j), cc) P) ∧ (((tkB (A5 264) false) = true) → EvP X (d + 8) gvm_279 9 [some (.ref 263), some (.int (nI n)), some (.int (zo calm)), some (.int (nI (l3 + 1))), some (.int (nI (l4 + 1)))] [] (G, (mI A13, j), cc) P)))))) ∧ (((drw (sdN (A 264 11)) 100) < (A5 264 7)) → (okW (A5 264)) ∧ ((okLw (A5 264)) ∧ ((∀ p, p < 8 → A5 273 p < 16) ∧ ((∀ A14 : Nat → Nat → Nat, ((A14 264 = tkR (A5 264) (A5 273) true) ∧ (frG A5 A14)) → (((tkB (A5 264) true) = false) → EvP X (d + 8) gvm_279 9 [some (.ref 263), some (.int (nI n)), some (.int (zo calm)), some (.int (nI (l3 + 0))), some (.int (nI (l4 + 1)))] [] (G, (mI A14, j), cc) P) ∧ (((tkB (A5 264) true) = true) → EvP X (d + 8) gvm_279 9 [some (.ref 263), some (.int (nI n)), some (.int (zo calm)), some (.int (nI (l3 + 1))), some (.int (nI (l4 + 1)))] [] (G, (mI A14, j), cc) P))))))))))))))) : EvP X (d + 8) gvm_279 9 [some (.ref 263), some (.int (nI n)), some (.int (zo calm)), some (.int (nI l3)), some (.int (nI l4))] [] (G, (mI A, j), cc) P :=
  (pv_iload rfl rfl   (pv_iload_n rfl rfl   (pn_ic_ge rfl H.1 H.2.1 (fun c1 => (pv_iload_n rfl rfl   (pv_ireti rfl rfl (H.2.2.1 c1)))) (fun c1 => (pv_iload_n rfl rfl   (pv_aload_n rfl rfl   (pv_iload_n rfl rfl   (pv_if_ne_zo rfl  (fun c2 => (pn_iconst rfl rfl   (match (r_oneTick (al := false) (A := A) (X := X) (d := d + 0) (G := G) (j := j) (cc := cc) hp263 ((H.2.2.2 c1).1 c2).1 ((H.2.2.2 c1).1 c2).2.1 ((H.2.2.2 c1).1 c2).2.2.1 ) with | ⟨A11, e1x42, h3⟩ => pv_virt rfl rfl rfl rfl rfl (oX12_k hp263) rfl rfl rfl e1x42 (pv_if_eq_zo rfl  (fun c4 => (pn_iconst rfl rfl   (pn_iadd rfl   (pv_istore_n rfl rfl   (pn_iinc rfl rfl rfl rfl   (pv_goto rfl ((((H.2.2.2 c1).1 c2).2.2.2 A11 h3).1 c4))))))) (fun c4 => (pn_iconst rfl rfl   (pv_goto rfl (pn_iadd rfl   (pv_istore_n rfl rfl   (pn_iinc rfl rfl rfl rfl   (pv_goto rfl ((((H.2.2.2 c1).1 c2).2.2.2 A11 h3).2 c4)))))))))))) (fun c2 => (pv_aload_n rfl rfl   (pn_bipush rfl rfl   (match (⟨(gw A 264 (sdR (A 264))), rfl⟩ : ∃ Z : Nat → Nat → Nat, Z = (gw A 264 (sdR (A 264)))) with | ⟨A5, q5⟩ => pv_virt rfl rfl rfl rfl rfl (oX12_k hp263) rfl rfl rfl (ev_eqM q5 (r_drawn (n := 100) (A := A) hp263 ((H.2.2.2 c1).2 c2).1 (by decide) (by decide) )) (pv_aload_n rfl rfl   (pv_getP rfl rfl (oX12_k hp263) (oX12_1 hp263)   (pn_bipush rfl rfl   (pn_iald rfl (oX12_1c hp263) (by decide) (by decide) rfl (pn_ic_ge rfl (((H.2.2.2 c1).2 c2).2 A5 q5).1 (((H.2.2.2 c1).2 c2).2 A5 q5).2.1 (fun c6 => (pn_iconst rfl rfl   (match (r_oneTick (al := false) (A := A5) (X := X) (d := d + 0) (G := G) (j := j) (cc := cc) hp263 ((((H.2.2.2 c1).2 c2).2 A5 q5).2.2.1 c6).1 ((((H.2.2.2 c1).2 c2).2 A5 q5).2.2.1 c6).2.1 ((((H.2.2.2 c1).2 c2).2 A5 q5).2.2.1 c6).2.2.1 ) with | ⟨A13, e3x42, h7⟩ => pv_virt rfl rfl rfl rfl rfl (oX12_k hp263) rfl rfl rfl e3x42 (pv_if_eq_zo rfl  (fun c8 => (pn_iconst rfl rfl   (pn_iadd rfl   (pv_istore_n rfl rfl   (pn_iinc rfl rfl rfl rfl   (pv_goto rfl ((((((H.2.2.2 c1).2 c2).2 A5 q5).2.2.1 c6).2.2.2 A13 h7).1 c8))))))) (fun c8 => (pn_iconst rfl rfl   (pv_goto rfl (pn_iadd rfl   (pv_istore_n rfl rfl   (pn_iinc rfl rfl rfl rfl   (pv_goto rfl ((((((H.2.2.2 c1).2 c2).2 A5 q5).2.2.1 c6).2.2.2 A13 h7).2 c8)))))))))))) (fun c6 => (pn_iconst rfl rfl   (pv_goto rfl (match (r_oneTick (al := true) (A := A5) (X := X) (d := d + 0) (G := G) (j := j) (cc := cc) hp263 ((((H.2.2.2 c1).2 c2).2 A5 q5).2.2.2 c6).1 ((((H.2.2.2 c1).2 c2).2 A5 q5).2.2.2 c6).2.1 ((((H.2.2.2 c1).2 c2).2 A5 q5).2.2.2 c6).2.2.1 ) with | ⟨A14, e4x42, h9⟩ => pv_virt rfl rfl rfl rfl rfl (oX12_k hp263) rfl rfl rfl e4x42 (pv_if_eq_zo rfl  (fun c10 => (pn_iconst rfl rfl   (pn_iadd rfl   (pv_istore_n rfl rfl   (pn_iinc rfl rfl rfl rfl   (pv_goto rfl ((((((H.2.2.2 c1).2 c2).2 A5 q5).2.2.2 c6).2.2.2 A14 h9).1 c10))))))) (fun c10 => (pn_iconst rfl rfl   (pv_goto rfl (pn_iadd rfl   (pv_istore_n rfl rfl   (pn_iinc rfl rfl rfl rfl   (pv_goto rfl ((((((H.2.2.2 c1).2 c2).2 A5 q5).2.2.2 c6).2.2.2 A14 h9).2 c10))))))))))))))))))))))))))))))
theorem r_goesOn_p {X : gv_X} {d : Nat} {G : gv_Sh} {A : Nat → Nat → Nat} {j : Nat → Nat → Int64} {cc : gv_Rs} {P : gv_O × gv_S → Prop} {n : Nat} {calm : Bool} (hp263 : oX12 G 263) (p0 : okW (A 264)) (p1 : okLw (A 264)) (p2 : TrJ A j) (p3 : n ≤ 60) (hP : ∀ A1 : Nat → Nat → Nat, ∀ j1 : Nat → Nat → Int64, (A1 264 = gsR (tbF (A 264)) calm n (A 264)) ∧ (frU A A1) ∧ (∀ q, q ≠ 274 → j1 q = j q) ∧ (TrJ A1 j1) → P (.inl (some (.int (nI (gsN (tbF (A 264)) calm n (A 264))))), (G, (mI A1, j1), cc))) : EvP X (d + 8) gvm_279 0 (gv_enter [.ref 263, .int (nI n), .int (zo calm)] 5) [] (G, (mI A, j), cc) P := by
  have hn := okW_n p0
  refine w279 hp263 ⟨p0, p2, fun A11 j11 h1 => ?_⟩
  obtain ⟨f1, f2, f3, f4⟩ := h1
  have L : ∀ i k B m, i + k = n → okW (B 264) → okLw (B 264) → B 264 0 = A 264 0 → B 273 = A11 273 → frU A B → gsR (tbF (A 264)) calm i (B 264) = gsR (tbF (A 264)) calm n (A 264) → m + gsN (tbF (A 264)) calm i (B 264) = gsN (tbF (A 264)) calm n (A 264) → EvP X (d + 8) gvm_279 9 [some (.ref 263), some (.int (nI n)), some (.int (zo calm)), some (.int (nI m)), some (.int (nI k))] [] (G, (mI B, j11), cc) P := by
    intro i
    induction i with
    | zero =>
      intro k B m hi h0 h1 h2 h3 h4 h5 h6
      refine w279_9 hp263 ⟨by omega, by omega, fun c1 => ?_, fun c1 => by omega⟩
      exact qn (hP B j11 ⟨h5, h4, f2, TrJ_of f3 h3 rfl⟩) h6.symm
    | succ i ih =>
      intro k B m hi h0 h1 h2 h3 h4 h5 h6
      obtain ⟨a, b⟩ := ok_dr h0 calm
      have ht : ∀ p, p < drR (B 264) calm 0 → A11 273 p = (tbF (A 264)) p := fun p hp => f4 p (by rw [b 0 (by omega), h2] at hp; exact hp)
      have e3 := tkR_T a ht (drA (B 264) calm)
      obtain ⟨c, f⟩ := ok_tk a (tbF (A 264)) (drA (B 264) calm)
      have go : ∀ C D, D 264 = drR (B 264) calm → D 273 = A11 273 → frU A D → C 264 = tkR (D 264) (D 273) (drA (B 264) calm) → frG D C → EvP X (d + 8) gvm_279 9 [some (.ref 263), some (.int (nI n)), some (.int (zo calm)), some (.int (nI (m + (tkB (drR (B 264) calm) (drA (B 264) calm)).toNat))), some (.int (nI (k + 1)))] [] (G, (mI C, j11), cc) P := by
        intro C D hD hD3 hD4 hC hf
        rw [hD, hD3, e3] at hC
        refine ih (k + 1) C _ (by omega) (by rw [hC]; exact c) (by rw [hC]; exact okLw_X (okLw_X h1 b) f) (by rw [hC, f 0 (by omega), b 0 (by omega), h2]) (by rw [frG_273 hf, hD3]) (frU_tr hD4 (frU_G hf)) ?_ ?_
        · rw [← h5, hC]; rfl
        · rw [← h6, hC, Nat.add_assoc]; rfl
      have h16 : ∀ p, p < 8 → B 273 p < 16 := by rw [h3]; exact f3.2
      cases calm with
      | true =>
        refine w279_9 hp263 ⟨by omega, by omega, fun c1 => by omega, fun c1 => ⟨fun _ => ⟨h0, h1, h16, fun C h' => ⟨fun c4 => ?_, fun c4 => ?_⟩⟩, fun c2 => by cases c2⟩⟩
        · have := go C B rfl h3 h4 h'.1 h'.2
          rw [show tkB (drR (B 264) true) (drA (B 264) true) = false from c4] at this
          exact this
        · have := go C B rfl h3 h4 h'.1 h'.2
          rw [show tkB (drR (B 264) true) (drA (B 264) true) = true from c4] at this
          exact this
      | false =>
        have hs : drw (sdN (B 264 11)) 100 < 100 := Nat.mod_lt _ (by decide)
        refine w279_9 hp263 ⟨by omega, by omega, fun c1 => by omega, fun c1 => ⟨fun c2 => (by cases c2), fun _ => ⟨h0, fun D q => ?_⟩⟩⟩
        have q4 : D 264 = drR (B 264) false := by rw [q, gw_at]; rfl
        have q3 : D 273 = A11 273 := by rw [q, gw_row (by decide), h3]
        have qf : frU A D := by rw [q]; exact frU_tr h4 (frU_gw _ _)
        have q7 : D 264 7 = B 264 7 := by rw [q4]; exact b 7 (by omega)
        have hb := (okW_n h0).2.2.2.2.2.2.2.2.1
        have hal : ∀ y, decide (drw (sdN (B 264 11)) 100 < B 264 7) = y → drA (B 264) false = y := fun y hy => hy
        refine ⟨by omega, by omega, fun c6 => ?_, fun c6 => ?_⟩
        · have e := hal false (decide_eq_false (by omega))
          rw [e] at go
          refine ⟨by rw [q4]; exact a, by rw [q4]; exact okLw_X h1 b, by rw [q3]; exact f3.2, fun C h' => ⟨fun c4 => ?_, fun c4 => ?_⟩⟩
          all_goals
            have := go C D q4 q3 qf h'.1 h'.2
            rw [← q4, c4] at this
            exact this
        · have e := hal true (decide_eq_true (by omega))
          rw [e] at go
          refine ⟨by rw [q4]; exact a, by rw [q4]; exact okLw_X h1 b, by rw [q3]; exact f3.2, fun C h' => ⟨fun c4 => ?_, fun c4 => ?_⟩⟩
          all_goals
            have := go C D q4 q3 qf h'.1 h'.2
            rw [← q4, c4] at this
            exact this
  have g4 := frT_264 f1
  exact L n 0 A11 0 (by omega) (by rw [g4]; exact p0) (by rw [g4]; exact p1) (by rw [g4]) rfl (frU_T f1) (by rw [g4]) (by rw [g4, Nat.zero_add])
theorem r_goesOn {X : gv_X} {d : Nat} {G : gv_Sh} {A : Nat → Nat → Nat} {j : Nat → Nat → Int64} {cc : gv_Rs} {n : Nat} {calm : Bool} (hp263 : oX12 G 263) (p0 : okW (A 264)) (p1 : okLw (A 264)) (p2 : TrJ A j) (p3 : n ≤ 60) : ∃ A1 : Nat → Nat → Nat, ∃ j1 : Nat → Nat → Int64, Ev X (d + 8) gvm_279 0 (gv_enter [.ref 263, .int (nI n), .int (zo calm)] 5) [] (G, (mI A, j), cc) (.inl (some (.int (nI (gsN (tbF (A 264)) calm n (A 264))))), (G, (mI A1, j1), cc)) ∧ (A1 264 = gsR (tbF (A 264)) calm n (A 264)) ∧ (frU A A1) ∧ (∀ q, q ≠ 274 → j1 q = j q) ∧ (TrJ A1 j1) := by
  obtain ⟨_, h, A1, j1, rfl, hp⟩ := r_goesOn_p (X := X) (d := d) (G := G) (A := A) (j := j) (cc := cc) (n := n) (calm := calm) (P := fun r => ∃ A1 : Nat → Nat → Nat, ∃ j1 : Nat → Nat → Int64, r = (.inl (some (.int (nI (gsN (tbF (A 264)) calm n (A 264))))), (G, (mI A1, j1), cc)) ∧ (A1 264 = gsR (tbF (A 264)) calm n (A 264)) ∧ (frU A A1) ∧ (∀ q, q ≠ 274 → j1 q = j q) ∧ (TrJ A1 j1)) hp263 p0 p1 p2 p3 (fun A1 j1 h => ⟨A1, j1, rfl, h⟩)
  exact ⟨A1, j1, h, hp⟩
