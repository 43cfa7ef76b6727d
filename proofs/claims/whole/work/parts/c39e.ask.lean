theorem w160 {X : gv_X} {d : Nat} {G : gv_Sh} {A : Nat → Nat → Nat} {j : Nat → Nat → Int64} {cc : gv_Rs} {P : gv_O × gv_S → Prop} {t : Nat → Nat} {R : Nat → Nat} (hp0 : oX11 G 0) (H : (cK A R) ∧ ((A 0 1 ≤ 400) ∧ ((∀ i, i < A 0 1 → A 1 i < 256 ∧ t i = sx8 (A 1 i)) ∧ ((∀ A1v1 : Nat → Nat → Nat, ((frT2 A A1v1 ∧ cK A1v1 R ∧ (tdB t (A 0 1) = true → cQ A1v1 R ∧ tdI A1v1 t (A 0 1)))) → (((tdB t (A 0 1) = true) → EvP X (d + 7) gvm_160 4 [some (.ref 0), none, none, none, none, none] [] (G, (mI A1v1, j), cc) P) ∧ ((¬ (tdB t (A 0 1) = true)) → P (.inr 0, gv_ex (G, (mI A1v1, j), cc))))))))) : EvP X (d + 7) gvm_160 0 (gv_enter [.ref 0] 6) [] (G, (mI A, j), cc) P :=
  (pv_aload_n rfl rfl   (match (c_takeRows (t := t) (R := R) (A := A) (X := X) (d := d + 0) (G := G) (j := j) (cc := cc) hp0 H.1 H.2.1 H.2.2.1 ) with | ⟨A1v1, h1, e1x1⟩ => (Or.elim (Decidable.em (tdB t (A 0 1) = true)) (fun c2 => pv_virt rfl rfl rfl rfl rfl (oX11_k hp0) rfl rfl rfl (e1x1.1 c2) ((H.2.2.2 A1v1 h1).1 c2)) (fun c2 => pv_virtT rfl rfl rfl rfl rfl (oX11_k hp0) rfl rfl rfl rfl (e1x1.2 c2) ((H.2.2.2 A1v1 h1).2 c2)))))
theorem w160_4 {X : gv_X} {d : Nat} {G : gv_Sh} {A : Nat → Nat → Nat} {j : Nat → Nat → Int64} {cc : gv_Rs} {P : gv_O × gv_S → Prop} {t : Nat → Nat} {E : Nat} {R : Nat → Nat} (hp0 : oX11 G 0) (H : (cQ A R) ∧ ((tdI A t E) ∧ (((fitN R (tbF R) t E 1) < 256) ∧ (((bcN (fitN R (tbF R) t E 1)) < 2147483648) ∧ (((2 ≤ (bcN (fitN R (tbF R) t E 1))) → EvP X (d + 7) gvm_160 27 [some (.ref 0), some (.int (nI (fitN R (tbF R) t E 1))), some (.int (nI 0)), some (.int (nI 9)), some (.int (nI 0)), none] [] (G, (mI A, j), cc) P) ∧ (((bcN (fitN R (tbF R) t E 1)) < 2) → P (.inl (some (.int (nI 4294967295))), (G, (mI A, j), cc)))))))) : EvP X (d + 7) gvm_160 4 [some (.ref 0), none, none, none, none, none] [] (G, (mI A, j), cc) P :=
  (pv_aload_n rfl rfl   (pv_virt rfl rfl rfl rfl rfl (oX11_k hp0) rfl rfl rfl (c_fitting (t := t) (E := E) (R := R) (A := A) hp0 H.1 H.2.1 ) (pv_istore_n rfl rfl   (pv_iload_n rfl rfl   (pv_stat rfl rfl rfl rfl rfl rfl rfl rfl (k_bitCount (x := (fitN R (tbF R) t E 1)) (A := A) H.2.2.1 ) (pn_iconst rfl rfl   (pn_ic_ge rfl H.2.2.2.1 (by decide) (fun c1 => (pn_iconst rfl rfl   (pv_istore_n rfl rfl   (pn_bipush rfl rfl   (pv_istore_n rfl rfl   (pn_iconst rfl rfl   (pv_istore rfl rfl   (H.2.2.2.2.1 c1)))))))) (fun c1 => (pn_iconst (u := 4294967295) rfl (by decide)   (pv_ireti rfl rfl (H.2.2.2.2.2 c1)))))))))))
theorem w160_27 {X : gv_X} {d : Nat} {G : gv_Sh} {A : Nat → Nat → Nat} {j : Nat → Nat → Int64} {cc : gv_Rs} {P : gv_O × gv_S → Prop} {l1 : Nat} {l2 : Nat} {l3 : Nat} {l4 : Nat} {l5 : Option Value} {R : Nat → Nat} (hp0 : oX11 G 0) (H : (l4 < 2147483648) ∧ (((6 < l4) → P (.inl (some (.int (nI l2))), (G, (mI A, j), cc))) ∧ ((l4 ≤ 6) → (cQ A R) ∧ ((l1 < 256) ∧ ((l4 ≤ 6) ∧ (((ptN R (tbF R) l1 l4 11) < 2147483648) ∧ ((l3 < 2147483648) ∧ (((l3 ≤ (ptN R (tbF R) l1 l4 11)) → EvP X (d + 7) gvm_160 27 [some (.ref 0), some (.int (nI l1)), some (.int (nI l2)), some (.int (nI l3)), some (.int (nI (l4 + 1))), some (.int (nI (ptN R (tbF R) l1 l4 11)))] [] (G, (mI A, j), cc) P) ∧ (((ptN R (tbF R) l1 l4 11) < l3) → EvP X (d + 7) gvm_160 27 [some (.ref 0), some (.int (nI l1)), some (.int (nI l4)), some (.int (nI (ptN R (tbF R) l1 l4 11))), some (.int (nI (l4 + 1))), some (.int (nI (ptN R (tbF R) l1 l4 11)))] [] (G, (mI A, j), cc) P))))))))) : EvP X (d + 7) gvm_160 27 [some (.ref 0), some (.int (nI l1)), some (.int (nI l2)), some (.int (nI l3)), some (.int (nI l4)), l5] [] (G, (mI A, j), cc) P :=
  (pv_iload rfl rfl   (pn_bipush rfl rfl   (pn_ic_gt rfl H.1 (by decide) (fun c1 => (pv_iload_n rfl rfl   (pv_ireti rfl rfl (H.2.1 c1)))) (fun c1 => (pv_aload_n rfl rfl   (pv_iload_n rfl rfl   (pv_iload rfl rfl   (pv_virt rfl rfl rfl rfl rfl (oX11_k hp0) rfl rfl rfl (c_greatestPart (s := l1) (w := l4) (R := R) (A := A) hp0 (H.2.2 c1).1 (H.2.2 c1).2.1 (H.2.2 c1).2.2.1 ) (pv_istore rfl rfl   (pv_iload rfl rfl   (pv_iload_n rfl rfl   (pn_ic_ge rfl (H.2.2 c1).2.2.2.1 (H.2.2 c1).2.2.2.2.1 (fun c2 => (pn_iinc rfl rfl rfl rfl   (pv_goto rfl ((H.2.2 c1).2.2.2.2.2.1 c2)))) (fun c2 => (pv_iload rfl rfl   (pv_istore_n rfl rfl   (pv_iload rfl rfl   (pv_istore_n rfl rfl   (pn_iinc rfl rfl rfl rfl   (pv_goto rfl ((H.2.2 c1).2.2.2.2.2.2 c2))))))))))))))))))))
theorem c_ask_p {X : gv_X} {d : Nat} {G : gv_Sh} {A : Nat → Nat → Nat} {j : Nat → Nat → Int64} {cc : gv_Rs} {P : gv_O × gv_S → Prop} {t : Nat → Nat} {R : Nat → Nat} (hp0 : oX11 G 0) (p0 : cK A R) (p1 : A 0 1 ≤ 400) (p2 : ∀ i, i < A 0 1 → A 1 i < 256 ∧ t i = sx8 (A 1 i)) (hP : ∀ A1 : Nat → Nat → Nat, (cK A1 R) ∧ (frT2 A A1) → P (oc (fun _ => 0) (spAsk R t (A 0 1)).1 (spAsk R t (A 0 1)).2 (G, (mI A1, j), cc))) : EvP X (d + 7) gvm_160 0 (gv_enter [.ref 0] 6) [] (G, (mI A, j), cc) P := by
  have ok : ∀ B x, cK B R ∧ frT2 A B → spAsk R t (A 0 1) = (0, x) → P (.inl (some (.int (nI x))), (G, (mI B, j), cc)) := fun B x h1 h3 => by
    have := hP B h1
    rw [h3] at this
    exact this
  have no1 : ∀ B, cK B R ∧ frT2 A B → spAsk R t (A 0 1) = (1, 0) → P (.inr 0, gv_ex (G, (mI B, j), cc)) := fun B h1 h3 => by
    have := hP B h1
    rw [h3] at this
    exact this
  refine w160 (t := t) (R := R) hp0 ⟨p0, p1, p2, fun B h => ⟨fun c => ?_, fun c => no1 B ⟨h.2.1, h.1⟩ (by unfold spAsk; rw [if_neg c])⟩⟩
  obtain ⟨q1, q2⟩ := h.2.2 c
  have n := (okW_n q1.1).1
  have e0 : B 3 0 = R 0 := q1.2.1.1.1
  have g1 : (fitN R (tbF R) t (A 0 1) 1) < 256 := bit_lt8 _ n
  have hb := bcN_lt (fitN R (tbF R) t (A 0 1) 1)
  refine w160_4 (t := t) (E := A 0 1) (R := R) hp0 ⟨q1, q2, g1, by omega, fun c1 => ?_, fun c1 => ok B _ ⟨h.2.1, h.1⟩ (by unfold spAsk; rw [if_pos c, if_neg (by omega)])⟩
  have L : ∀ f w, w + f = 7 → ∀ l5, EvP X (d + 7) gvm_160 27 [some (.ref 0), some (.int (nI (fitN R (tbF R) t (A 0 1) 1))), some (.int (nI (if w = 0 then 0 else (askN R (tbF R) (fitN R (tbF R) t (A 0 1) 1) w).1))), some (.int (nI (if w = 0 then 9 else (askN R (tbF R) (fitN R (tbF R) t (A 0 1) 1) w).2))), some (.int (nI w)), l5] [] (G, (mI B, j), cc) P := by
    intro f
    induction f with
    | zero =>
      intro w hw l5
      obtain rfl : w = 7 := by omega
      refine w160_27 (R := R) hp0 ⟨by omega, fun _ => ?_, fun c => absurd c (by omega)⟩
      rw [if_neg (by decide)]
      exact ok B _ ⟨h.2.1, h.1⟩ (by unfold spAsk; rw [if_pos c, if_pos (by omega)])
    | succ f ih =>
      intro w hw l5
      have hp := ptN_le (R := R) (T := tbF R) (s := (fitN R (tbF R) t (A 0 1) 1)) (w := w) 11
      have ha := askN_lt (R := R) (T := tbF R) (s := (fitN R (tbF R) t (A 0 1) 1)) w (by omega)
      have es : (askN R (tbF R) (fitN R (tbF R) t (A 0 1) 1) (w + 1)) = (if ptN R (tbF R) (fitN R (tbF R) t (A 0 1) 1) w 11 < (askN R (tbF R) (fitN R (tbF R) t (A 0 1) 1) w).2 then w else (askN R (tbF R) (fitN R (tbF R) t (A 0 1) 1) w).1, min (askN R (tbF R) (fitN R (tbF R) t (A 0 1) 1) w).2 (ptN R (tbF R) (fitN R (tbF R) t (A 0 1) 1) w 11)) := rfl
      have ih := fun l => ih (w + 1) (by omega) l
      rw [if_neg (Nat.succ_ne_zero w), if_neg (Nat.succ_ne_zero w), es] at ih
      have z9 : w = 0 → (askN R (tbF R) (fitN R (tbF R) t (A 0 1) 1) w).2 = 1000000 := fun z => by rw [z]; rfl
      refine w160_27 (R := R) hp0 ⟨by omega, fun c => absurd c (by omega), fun _ => ⟨q1, g1, by omega, by omega, by split <;> omega, fun c2 => ?_, fun c2 => ?_⟩⟩
      · have w0 : w ≠ 0 := fun z => by rw [if_pos z] at c2; omega
        rw [if_neg w0] at c2 ⊢
        rw [if_neg w0]
        have em : min (askN R (tbF R) (fitN R (tbF R) t (A 0 1) 1) w).2 (ptN R (tbF R) (fitN R (tbF R) t (A 0 1) 1) w 11) = (askN R (tbF R) (fitN R (tbF R) t (A 0 1) 1) w).2 := by omega
        rw [if_neg (by omega), em] at ih
        exact ih _
      · have lt : ptN R (tbF R) (fitN R (tbF R) t (A 0 1) 1) w 11 < (askN R (tbF R) (fitN R (tbF R) t (A 0 1) 1) w).2 := by
          by_cases z : w = 0
          · rw [z9 z]; omega
          · rw [if_neg z] at c2; exact c2
        have em : min (askN R (tbF R) (fitN R (tbF R) t (A 0 1) 1) w).2 (ptN R (tbF R) (fitN R (tbF R) t (A 0 1) 1) w 11) = ptN R (tbF R) (fitN R (tbF R) t (A 0 1) 1) w 11 := by omega
        rw [if_pos lt, em] at ih
        exact ih _
  exact L 7 0 rfl none
