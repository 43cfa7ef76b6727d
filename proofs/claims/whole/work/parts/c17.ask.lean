/-! the class: twins, most, ahead, trial, span, led -/
theorem eqC_tr {R S T : Nat → Nat} (h : eqC R S) (h2 : eqC S T) : eqC R T := fun i hi => (h2 i hi).trans (h i hi)
theorem eqC_X {R S : Nat → Nat} (h : eqC R S) : eqX R S := fun i hi => h i (by omega)
theorem gM_C {R S : Nat → Nat} (e : eqC R S) {g mo b : Nat} (hg : g < 2) : gM S g mo b = gM R g mo b := by
  have f : (fun x => S (102 + 13 * g + (5 + (x + 8 - b) % 8))) = (fun x => R (102 + 13 * g + (5 + (x + 8 - b) % 8))) := funext fun x => e _ (by omega)
  unfold gM
  rw [e (102 + 13 * g + 1) (by omega), e (102 + 13 * g + 3) (by omega), e (102 + 13 * g + 4) (by omega), f]
theorem go_C {R S : Nat → Nat} (e : eqC R S) {c : Mc} {g b : Nat} (hg : g < 2) : eqC (goR R c g b) (goR S c g b) := fun i hi => by
  unfold goR
  rw [e (102 + 13 * g + 0) (by omega), e i hi]
theorem ck_C {R S : Nat → Nat} (e : eqC R S) {g n : Nat} (hg : g < 2) : eqC (ckR R g n) (ckR S g n) := fun i hi => by
  unfold ckR
  rw [e (102 + 13 * g + 4) (by omega), e i hi]
theorem ct_C {R S : Nat → Nat} (e : eqC R S) {g : Nat} : eqC (ctR R g) (ctR S g) := fun i hi => by
  unfold ctR
  rw [e 4 (by omega), e i hi]
theorem md_C {R S : Nat → Nat} (e : eqC R S) {g m : Nat} : eqC (mdR R g m) (mdR S g m) := fun i hi => by
  unfold mdR
  rw [e i hi]
theorem do_C {R S : Nat → Nat} (o : okW R) (e : eqC R S) {g p : Nat} (hg : g < 2) (hp : p < 8) : eqC (doR R g p) (doR S g p) := by
  have a := (okW_o o hp).1
  unfold doR
  rw [gM_C e hg, mOp_X (eqC_X e) hp a, e (102 + 13 * g + 2) (by omega)]
  exact go_C (md_C e) hg
theorem le_C {R S : Nat → Nat} (o : okW R) (e : eqC R S) {g p : Nat} (hg : g < 2) (hp : p < 8) : eqC (leR R g p) (leR S g p) := by
  have a := (okW_o o hp).1
  unfold leR
  rw [gM_C e hg, mOp_X (eqC_X e) hp a, e 5 (by omega)]
  exact go_C e hg
theorem trp_C {R S : Nat → Nat} (e : eqC R S) {p m : Nat} (hp : p < 8) : trp S p m = trp R p m := by
  unfold trp; rw [e (30 + 9 * p + 1) (by omega)]
theorem ba_C {R S : Nat → Nat} (o : okW R) (e : eqC R S) : eqC (baR R) (baR S) := by
  have n := okW_n o
  have a0 : S (102 + 13 * 0 + 0) = R (102 + 13 * 0 + 0) := e _ (by omega)
  have a2 : S (102 + 13 * 0 + 2) = R (102 + 13 * 0 + 2) := e _ (by omega)
  unfold baR
  rw [a0, a2, e 3 (by omega)]
  by_cases z : R 3 ≤ R (102 + 13 * 0 + 0)
  · rw [if_pos z, if_pos z]; exact e
  · have hp : R (12 + R (102 + 13 * 0 + 0)) < 8 := okW_p o (by omega)
    rw [if_neg z, if_neg z, e (12 + R (102 + 13 * 0 + 0)) (by omega), trp_C e hp]
    split
    · exact ck_C (ct_C e) (by omega)
    · exact ck_C (do_C o e (by omega) hp) (by omega)
theorem ho_C {R S T : Nat → Nat} (o : okW R) (e : eqC R S) : eqC (hoR R T) (hoR S T) := by
  have n := okW_n o
  have a0 : S (102 + 13 * 1 + 0) = R (102 + 13 * 1 + 0) := e _ (by omega)
  have a2 : S (102 + 13 * 1 + 2) = R (102 + 13 * 1 + 2) := e _ (by omega)
  by_cases z : R 3 ≤ R (102 + 13 * 1 + 0)
  · have z2 : S 3 ≤ S (102 + 13 * 1 + 0) := by rw [a0, e 3 (by omega)]; exact z
    unfold hoR
    rw [if_pos z, if_pos z2]; exact e
  · have z2 : ¬ S 3 ≤ S (102 + 13 * 1 + 0) := by rw [a0, e 3 (by omega)]; exact z
    have hp : hoP R < 8 := okW_p o (by omega)
    have eP : hoP S = hoP R := by
      unfold hoP; rw [a0]; exact e _ (by omega)
    have b1 : S (30 + 9 * hoP R + 1) = R (30 + 9 * hoP R + 1) := e _ (by omega)
    have b2 : S (30 + 9 * hoP R + 2) = R (30 + 9 * hoP R + 2) := e _ (by omega)
    have eW : hoW S = hoW R := by
      unfold hoW
      rw [eP, a0, a2, e 3 (by omega), trp_C e hp, b1, b2, gM_C e (by omega), mOp_X (eqC_X e) hp (okW_o o hp).1, e 5 (by omega)]
    have eB : eqC (hoB R) (hoB S) := by
      unfold hoB
      rw [eP, a2, trp_C e hp, b1, b2]
      split
      · exact ct_C e
      · split
        · exact do_C o e (by omega) hp
        · exact le_C o e (by omega) hp
    unfold hoR
    rw [if_neg z, if_neg z2, eW, eP, e 6 (by omega), lsum_X (eqC_X e) hp n.2.2.2.1]
    exact ck_C eB (by omega)
theorem to_C (R : Nat → Nat) (p w pc : Nat) : eqC R (toR R p w pc) := fun i hi => by unfold toR; rw [if_neg (by omega), if_neg (by omega), if_neg (by omega), if_neg (by omega), if_neg (by omega), if_neg (by omega)]
theorem se_C (R : Nat → Nat) {k : Nat} (v : Nat) (h : k = 8 ∨ k = 9 ∨ k = 11) : eqC R (seR R k v) := fun i hi => by unfold seR; rw [if_neg (by omega)]
theorem tk_C (R T : Nat → Nat) : eqC (hoR (baR R) T) (tkR R T false) := by
  have h1 : eqC (hoR (baR R) T) (tk1 R T false) := by
    unfold tk1
    rw [if_neg (by decide)]
    split
    · exact fun _ _ => rfl
    · exact to_C _ _ _ _
  have h2 : eqC (hoR (baR R) T) (tk2 R T false) := by
    unfold tk2
    split
    · exact eqC_tr h1 (to_C _ _ _ _)
    · exact h1
  have h3 : eqC (hoR (baR R) T) (tk3 R T false) := by
    unfold tk3
    split
    · exact eqC_tr h2 (se_C _ _ (by omega))
    · exact h2
  unfold tkR
  exact eqC_tr h3 (se_C _ _ (by omega))
theorem amF_all (R T : Nat → Nat) (w p : Nat) : msN R T w (p + 1) = if msN R T w p = 4294967295 ∨ amF R T w (msN R T w p) < amF R T w p then p else msN R T w p := rfl
theorem w56 {X : gv_X} {d : Nat} {G : gv_Sh} {A : Nat → Nat → Nat} {j : Nat → Nat → Int64} {cc : gv_Rs} {P : gv_O × gv_S → Prop} {o : Nat} {a : Nat} {b : Nat} (ho : oX6 G o) (H : (a < 4294967296) ∧ ((A o 0 ≤ 8) ∧ ((b < 4294967296) ∧ ((A o 0 ≤ 8) ∧ (((if a < A o 0 then A (o + 1) a else 0) < 4294967296) ∧ (((if b < A o 0 then A (o + 1) b else 0) < 4294967296) ∧ (((¬ (if a < A o 0 then A (o + 1) a else 0) = (if b < A o 0 then A (o + 1) b else 0)) → P (.inl (some (.int (nI 0))), (G, (mI A, j), cc))) ∧ (((if a < A o 0 then A (o + 1) a else 0) = (if b < A o 0 then A (o + 1) b else 0)) → (a < 4294967296) ∧ ((A o 0 ≤ 8) ∧ ((∀ z, z < A o 0 → A (o + 4) z ≤ 1) ∧ ((b < 4294967296) ∧ ((A o 0 ≤ 8) ∧ ((∀ z, z < A o 0 → A (o + 4) z ≤ 1) ∧ ((((decide (a < A o 0 ∧ A (o + 4) a = 1)) = (decide (b < A o 0 ∧ A (o + 4) b = 1))) → EvP X (d + 2) gvm_56 33 [some (.ref o), some (.int (nI a)), some (.int (nI b)), some (.int (nI (if a < A o 0 then A (o + 1) a else 0))), some (.int (nI 0))] [] (G, (mI A, j), cc) P) ∧ ((¬ (decide (a < A o 0 ∧ A (o + 4) a = 1)) = (decide (b < A o 0 ∧ A (o + 4) b = 1))) → P (.inl (some (.int (nI 0))), (G, (mI A, j), cc))))))))))))))))) : EvP X (d + 2) gvm_56 0 (gv_enter [.ref o, .int (nI a), .int (nI b)] 5) [] (G, (mI A, j), cc) P :=
  (pv_aload_n rfl rfl   (pv_iload_n rfl rfl   (pv_virt rfl rfl rfl rfl rfl (oX6_k ho) rfl rfl rfl (c_size (p := a) (o := o) (A := A) ho H.1 H.2.1 ) (pv_istore_n rfl rfl   (pv_iload_n rfl rfl   (pv_aload_n rfl rfl   (pv_iload_n rfl rfl   (pv_virt rfl rfl rfl rfl rfl (oX6_k ho) rfl rfl rfl (c_size (p := b) (o := o) (A := A) ho H.2.2.1 H.2.2.2.1 ) (pn_ic_ne rfl H.2.2.2.2.1 H.2.2.2.2.2.1 (fun c1 => (pn_iconst rfl rfl   (pv_iretz rfl rfl (Or.inl rfl) (H.2.2.2.2.2.2.1 c1)))) (fun c1 => (pv_aload_n rfl rfl   (pv_iload_n rfl rfl   (pv_virt rfl rfl rfl rfl rfl (oX6_k ho) rfl rfl rfl (c_isGuarded (p := a) (o := o) (A := A) ho (H.2.2.2.2.2.2.2 c1).1 (H.2.2.2.2.2.2.2 c1).2.1 (H.2.2.2.2.2.2.2 c1).2.2.1 ) (pv_aload_n rfl rfl   (pv_iload_n rfl rfl   (pv_virt rfl rfl rfl rfl rfl (oX6_k ho) rfl rfl rfl (c_isGuarded (p := b) (o := o) (A := A) ho (H.2.2.2.2.2.2.2 c1).2.2.2.1 (H.2.2.2.2.2.2.2 c1).2.2.2.2.1 (H.2.2.2.2.2.2.2 c1).2.2.2.2.2.1 ) (pn_iz_eq rfl  (fun c2 => (pn_iconst rfl rfl   (pv_istore rfl rfl   ((H.2.2.2.2.2.2.2 c1).2.2.2.2.2.2.1 c2)))) (fun c2 => (pn_iconst rfl rfl   (pv_iretz rfl rfl (Or.inl rfl) ((H.2.2.2.2.2.2.2 c1).2.2.2.2.2.2.2 c2)))))))))))))))))))))
theorem w56_33 {X : gv_X} {d : Nat} {G : gv_Sh} {A : Nat → Nat → Nat} {j : Nat → Nat → Int64} {cc : gv_Rs} {P : gv_O × gv_S → Prop} {o : Nat} {a : Nat} {b : Nat} {l3 : Nat} {l4 : Nat} (ho : oX6 G o) (H : (l4 < 2147483648) ∧ ((l3 < 2147483648) ∧ (((l3 ≤ l4) → P (.inl (some (.int (nI 1))), (G, (mI A, j), cc))) ∧ ((l4 < l3) → (a < 4294967296) ∧ ((l4 < 4294967296) ∧ ((A o 0 ≤ 8) ∧ ((∀ z, z < A o 0 → A (o + 1) z ≤ 3) ∧ ((b < 4294967296) ∧ ((l4 < 4294967296) ∧ ((A o 0 ≤ 8) ∧ ((∀ z, z < A o 0 → A (o + 1) z ≤ 3) ∧ (((if a < A o 0 ∧ l4 < A (o + 1) a then A (o + 2) (a * 3 + l4) else 4294967295) < 4294967296) ∧ (((if b < A o 0 ∧ l4 < A (o + 1) b then A (o + 2) (b * 3 + l4) else 4294967295) < 4294967296) ∧ (((¬ (if a < A o 0 ∧ l4 < A (o + 1) a then A (o + 2) (a * 3 + l4) else 4294967295) = (if b < A o 0 ∧ l4 < A (o + 1) b then A (o + 2) (b * 3 + l4) else 4294967295)) → P (.inl (some (.int (nI 0))), (G, (mI A, j), cc))) ∧ (((if a < A o 0 ∧ l4 < A (o + 1) a then A (o + 2) (a * 3 + l4) else 4294967295) = (if b < A o 0 ∧ l4 < A (o + 1) b then A (o + 2) (b * 3 + l4) else 4294967295)) → (a < 4294967296) ∧ ((l4 < 4294967296) ∧ ((A o 0 ≤ 8) ∧ ((∀ z, z < A o 0 → A (o + 1) z ≤ 3) ∧ ((b < 4294967296) ∧ ((l4 < 4294967296) ∧ ((A o 0 ≤ 8) ∧ ((∀ z, z < A o 0 → A (o + 1) z ≤ 3) ∧ (((if a < A o 0 ∧ l4 < A (o + 1) a then A (o + 3) (a * 3 + l4) else 4294967295) < 4294967296) ∧ (((if b < A o 0 ∧ l4 < A (o + 1) b then A (o + 3) (b * 3 + l4) else 4294967295) < 4294967296) ∧ ((((if a < A o 0 ∧ l4 < A (o + 1) a then A (o + 3) (a * 3 + l4) else 4294967295) = (if b < A o 0 ∧ l4 < A (o + 1) b then A (o + 3) (b * 3 + l4) else 4294967295)) → EvP X (d + 2) gvm_56 33 [some (.ref o), some (.int (nI a)), some (.int (nI b)), some (.int (nI l3)), some (.int (nI (l4 + 1)))] [] (G, (mI A, j), cc) P) ∧ ((¬ (if a < A o 0 ∧ l4 < A (o + 1) a then A (o + 3) (a * 3 + l4) else 4294967295) = (if b < A o 0 ∧ l4 < A (o + 1) b then A (o + 3) (b * 3 + l4) else 4294967295)) → P (.inl (some (.int (nI 0))), (G, (mI A, j), cc)))))))))))))))))))))))))))) : EvP X (d + 2) gvm_56 33 [some (.ref o), some (.int (nI a)), some (.int (nI b)), some (.int (nI l3)), some (.int (nI l4))] [] (G, (mI A, j), cc) P :=
  (pv_iload rfl rfl   (pv_iload_n rfl rfl   (pn_ic_ge rfl H.1 H.2.1 (fun c1 => (pn_iconst rfl rfl   (pv_iretz rfl rfl (Or.inr rfl) (H.2.2.1 c1)))) (fun c1 => (pv_aload_n rfl rfl   (pv_iload_n rfl rfl   (pv_iload rfl rfl   (pv_virt rfl rfl rfl rfl rfl (oX6_k ho) rfl rfl rfl (c_kindAt (p := a) (k := l4) (o := o) (A := A) ho (H.2.2.2 c1).1 (H.2.2.2 c1).2.1 (H.2.2.2 c1).2.2.1 (H.2.2.2 c1).2.2.2.1 ) (pv_aload_n rfl rfl   (pv_iload_n rfl rfl   (pv_iload rfl rfl   (pv_virt rfl rfl rfl rfl rfl (oX6_k ho) rfl rfl rfl (c_kindAt (p := b) (k := l4) (o := o) (A := A) ho (H.2.2.2 c1).2.2.2.2.1 (H.2.2.2 c1).2.2.2.2.2.1 (H.2.2.2 c1).2.2.2.2.2.2.1 (H.2.2.2 c1).2.2.2.2.2.2.2.1 ) (pn_ic_ne rfl (H.2.2.2 c1).2.2.2.2.2.2.2.2.1 (H.2.2.2 c1).2.2.2.2.2.2.2.2.2.1 (fun c2 => (pn_iconst rfl rfl   (pv_iretz rfl rfl (Or.inl rfl) ((H.2.2.2 c1).2.2.2.2.2.2.2.2.2.2.1 c2)))) (fun c2 => (pv_aload_n rfl rfl   (pv_iload_n rfl rfl   (pv_iload rfl rfl   (pv_virt rfl rfl rfl rfl rfl (oX6_k ho) rfl rfl rfl (c_numberAt (p := a) (k := l4) (o := o) (A := A) ho ((H.2.2.2 c1).2.2.2.2.2.2.2.2.2.2.2 c2).1 ((H.2.2.2 c1).2.2.2.2.2.2.2.2.2.2.2 c2).2.1 ((H.2.2.2 c1).2.2.2.2.2.2.2.2.2.2.2 c2).2.2.1 ((H.2.2.2 c1).2.2.2.2.2.2.2.2.2.2.2 c2).2.2.2.1 ) (pv_aload_n rfl rfl   (pv_iload_n rfl rfl   (pv_iload rfl rfl   (pv_virt rfl rfl rfl rfl rfl (oX6_k ho) rfl rfl rfl (c_numberAt (p := b) (k := l4) (o := o) (A := A) ho ((H.2.2.2 c1).2.2.2.2.2.2.2.2.2.2.2 c2).2.2.2.2.1 ((H.2.2.2 c1).2.2.2.2.2.2.2.2.2.2.2 c2).2.2.2.2.2.1 ((H.2.2.2 c1).2.2.2.2.2.2.2.2.2.2.2 c2).2.2.2.2.2.2.1 ((H.2.2.2 c1).2.2.2.2.2.2.2.2.2.2.2 c2).2.2.2.2.2.2.2.1 ) (pn_ic_eq rfl ((H.2.2.2 c1).2.2.2.2.2.2.2.2.2.2.2 c2).2.2.2.2.2.2.2.2.1 ((H.2.2.2 c1).2.2.2.2.2.2.2.2.2.2.2 c2).2.2.2.2.2.2.2.2.2.1 (fun c3 => (pn_iinc rfl rfl rfl rfl   (pv_goto rfl (((H.2.2.2 c1).2.2.2.2.2.2.2.2.2.2.2 c2).2.2.2.2.2.2.2.2.2.2.1 c3)))) (fun c3 => (pn_iconst rfl rfl   (pv_iretz rfl rfl (Or.inl rfl) (((H.2.2.2 c1).2.2.2.2.2.2.2.2.2.2.2 c2).2.2.2.2.2.2.2.2.2.2.2 c3)))))))))))))))))))))))))))
theorem c_areTwins_p {X : gv_X} {d : Nat} {G : gv_Sh} {A : Nat → Nat → Nat} {j : Nat → Nat → Int64} {cc : gv_Rs} {P : gv_O × gv_S → Prop} {o : Nat} {a : Nat} {b : Nat} {R : Nat → Nat} (ho : oX6 G o) (p0 : okW R) (p1 : rO A o R) (p2 : a < R 0) (p3 : b < R 0) (hP : P (.inl (some (.int (zo (twB R a b)))), (G, (mI A, j), cc))) : EvP X (d + 2) gvm_56 0 (gv_enter [.ref o, .int (nI a), .int (nI b)] 5) [] (G, (mI A, j), cc) P := by
  have n := okW_n p0
  have s1 := rO_n p1 p0
  have s2 := rO_s p1 p0
  have s3 := rO_g p1 p0
  have oa := okW_o p0 (p := a) (by omega)
  have ob := okW_o p0 (p := b) (by omega)
  have ga := rO_gd p1 p2
  have gb := rO_gd p1 p3
  have ea := rO_sz p1 p2
  have eb := rO_sz p1 p3
  have Lp : R (30 + 9 * a + 0) = R (30 + 9 * b + 0) → twE R a b = true → ∀ i k, k + i = R (30 + 9 * a + 0) → (∀ x, x < k → twK R a b x = true) → EvP X (d + 2) gvm_56 33 [some (.ref o), some (.int (nI a)), some (.int (nI b)), some (.int (nI (R (30 + 9 * a + 0)))), some (.int (nI k))] [] (G, (mI A, j), cc) P := by
    intro hs ht i
    induction i with
    | zero =>
      intro k hk hl
      obtain rfl : k = R (30 + 9 * a + 0) := by omega
      refine w56_33 ho ⟨by omega, by omega, fun c1 => qz1 hP ?_, fun c1 => absurd c1 (by omega)⟩
      unfold twB; rw [ht, allN_iff.mpr hl]; rfl
    | succ i ih =>
      intro k hk hl
      have k1 := rO_kd p1 p2 (show k < R (30 + 9 * a + 0) by omega)
      have k2 := rO_kd p1 p3 (show k < R (30 + 9 * b + 0) by omega)
      have k3 := rO_nu p1 p2 (show k < R (30 + 9 * a + 0) by omega)
      have k4 := rO_nu p1 p3 (show k < R (30 + 9 * b + 0) by omega)
      have m1 := okW_m p0 (p := a) (k := k) (by omega) (by omega)
      have m2 := okW_m p0 (p := b) (k := k) (by omega) (by omega)
      have no : ¬ twK R a b k = true → twB R a b = false := fun z => by
        unfold twB
        rw [show allN (twK R a b) (R (30 + 9 * a + 0)) = false from by
          cases q : allN (twK R a b) (R (30 + 9 * a + 0))
          · rfl
          · exact absurd (allN_iff.mp q k (by omega)) z, Bool.and_false]
      have h := w56_33 (X := X) (d := d) (G := G) (A := A) (j := j) (cc := cc) (P := P) (o := o) (a := a) (b := b) (l3 := R (30 + 9 * a + 0)) (l4 := k) ho
      rw [k1, k2, k3, k4] at h
      refine h ⟨by omega, by omega, fun c1 => absurd c1 (by omega), fun c1 => ⟨by omega, by omega, s1, s2, by omega, by omega, s1, s2, by omega, by omega, fun c2 => qz0 hP (no ?_), fun c2 => ⟨by omega, by omega, s1, s2, by omega, by omega, s1, s2, by omega, by omega, fun c3 => ih (k + 1) (by omega) ?_, fun c3 => qz0 hP (no ?_)⟩⟩⟩
      · unfold twK; rw [Bool.and_eq_true, decide_eq_true_eq]; exact fun y => c2 y.1
      · intro x hx
        by_cases z : x = k
        · subst z; unfold twK; rw [Bool.and_eq_true, decide_eq_true_eq, decide_eq_true_eq]; exact ⟨c2, c3⟩
        · exact hl x (by omega)
      · unfold twK; rw [Bool.and_eq_true, decide_eq_true_eq, decide_eq_true_eq]; exact fun y => c3 y.2
  have h := w56 (X := X) (d := d) (G := G) (A := A) (j := j) (cc := cc) (P := P) (o := o) (a := a) (b := b) ho
  rw [ea, eb] at h
  have tf : ∀ z : ¬ twE R a b = true, twB R a b = false := fun z => by
    unfold twB; rw [Bool.eq_false_iff.mpr z]; rfl
  refine h ⟨by omega, s1, by omega, s1, by omega, by omega, fun c1 => qz0 hP (tf ?_), fun c1 => ⟨by omega, s1, s3, by omega, s1, s3, fun c2 => Lp c1 ?_ _ 0 (Nat.zero_add _) (fun x hx => absurd hx (by omega)), fun c2 => qz0 hP (tf ?_)⟩⟩
  · unfold twE; rw [Bool.and_eq_true, decide_eq_true_eq]; exact fun y => c1 y.1
  · unfold twE; rw [Bool.and_eq_true, decide_eq_true_eq, decide_eq_true_eq]
    rw [decide_eq_decide, ga, gb] at c2
    exact ⟨c1, by omega⟩
  · unfold twE; rw [Bool.and_eq_true, decide_eq_true_eq, decide_eq_true_eq]
    intro y
    rw [decide_eq_decide, ga, gb, y.2] at c2
    exact c2 Iff.rfl
theorem c_areTwins {X : gv_X} {d : Nat} {G : gv_Sh} {A : Nat → Nat → Nat} {j : Nat → Nat → Int64} {cc : gv_Rs} {o : Nat} {a : Nat} {b : Nat} {R : Nat → Nat} (ho : oX6 G o) (p0 : okW R) (p1 : rO A o R) (p2 : a < R 0) (p3 : b < R 0) : Ev X (d + 2) gvm_56 0 (gv_enter [.ref o, .int (nI a), .int (nI b)] 5) [] (G, (mI A, j), cc) (.inl (some (.int (zo (twB R a b)))), (G, (mI A, j), cc)) := evp_det (c_areTwins_p ho p0 p1 p2 p3 rfl)
theorem w180 {X : gv_X} {d : Nat} {G : gv_Sh} {A : Nat → Nat → Nat} {j : Nat → Nat → Int64} {cc : gv_Rs} {P : gv_O × gv_S → Prop}  (hp0 : oX11 G 0) (H : EvP X (d + 3) gvm_180 4 [some (.ref 0), some (.int (nI 0)), some (.int (nI 0)), none] [] (G, (mI A, j), cc) P) : EvP X (d + 3) gvm_180 0 (gv_enter [.ref 0] 4) [] (G, (mI A, j), cc) P :=
  (pn_iconst rfl rfl   (pv_istore_n rfl rfl   (pn_iconst rfl rfl   (pv_istore_n rfl rfl   H))))
theorem w180_4 {X : gv_X} {d : Nat} {G : gv_Sh} {A : Nat → Nat → Nat} {j : Nat → Nat → Int64} {cc : gv_Rs} {P : gv_O × gv_S → Prop} {l1 : Nat} {l2 : Nat} {l3 : Option Value} (hp0 : oX11 G 0) (H : (l2 < 2147483648) ∧ (((A 3 0) < 2147483648) ∧ ((((A 3 0) ≤ l2) → P (.inl (some (.int (nI l1))), (G, (mI A, j), cc))) ∧ ((l2 < (A 3 0)) → EvP X (d + 3) gvm_180 20 [some (.ref 0), some (.int (nI l1)), some (.int (nI l2)), some (.int (nI 0))] [] (G, (mI A, j), cc) P)))) : EvP X (d + 3) gvm_180 4 [some (.ref 0), some (.int (nI l1)), some (.int (nI l2)), l3] [] (G, (mI A, j), cc) P :=
  (pv_iload_n rfl rfl   (pv_aload_n rfl rfl   (pv_getP rfl rfl (oX11_k hp0) (oX11_3 hp0)   (pv_getP rfl rfl (oX10_k (oX11_3c hp0)) (oX10_0 (oX11_3c hp0))   (pn_getI rfl rfl (oX6_k (oX10_0c (oX11_3c hp0))) rfl   (pn_ic_ge rfl H.1 H.2.1 (fun c1 => (pv_iload_n rfl rfl   (pv_ireti rfl rfl (H.2.2.1 c1)))) (fun c1 => (pn_iconst rfl rfl   (pv_istore_n rfl rfl   (H.2.2.2 c1))))))))))
theorem w180_20 {X : gv_X} {d : Nat} {G : gv_Sh} {A : Nat → Nat → Nat} {j : Nat → Nat → Int64} {cc : gv_Rs} {P : gv_O × gv_S → Prop} {l1 : Nat} {l2 : Nat} {l3 : Nat} {R : Nat → Nat} (hp0 : oX11 G 0) (H : (l3 < 2147483648) ∧ ((l2 < 2147483648) ∧ (((l2 ≤ l3) → EvP X (d + 3) gvm_180 4 [some (.ref 0), some (.int (nI l1)), some (.int (nI (l2 + 1))), some (.int (nI l3))] [] (G, (mI A, j), cc) P) ∧ ((l3 < l2) → (okW R) ∧ ((rO A 3 R) ∧ ((l2 < R 0) ∧ ((l3 < R 0) ∧ ((((twB R l2 l3) = false) → EvP X (d + 3) gvm_180 20 [some (.ref 0), some (.int (nI l1)), some (.int (nI l2)), some (.int (nI (l3 + 1)))] [] (G, (mI A, j), cc) P) ∧ (((twB R l2 l3) = true) → EvP X (d + 3) gvm_180 20 [some (.ref 0), some (.int (nI (l1 + 1))), some (.int (nI l2)), some (.int (nI (l3 + 1)))] [] (G, (mI A, j), cc) P))))))))) : EvP X (d + 3) gvm_180 20 [some (.ref 0), some (.int (nI l1)), some (.int (nI l2)), some (.int (nI l3))] [] (G, (mI A, j), cc) P :=
  (pv_iload_n rfl rfl   (pv_iload_n rfl rfl   (pn_ic_ge rfl H.1 H.2.1 (fun c1 => (pn_iinc rfl rfl rfl rfl   (pv_goto rfl (H.2.2.1 c1)))) (fun c1 => (pv_aload_n rfl rfl   (pv_getP rfl rfl (oX11_k hp0) (oX11_3 hp0)   (pv_getP rfl rfl (oX10_k (oX11_3c hp0)) (oX10_0 (oX11_3c hp0))   (pv_iload_n rfl rfl   (pv_iload_n rfl rfl   (pv_virt rfl rfl rfl rfl rfl (oX6_k (oX10_0c (oX11_3c hp0))) rfl rfl rfl (c_areTwins (a := l2) (b := l3) (R := R) (A := A) (oX10_0c (oX11_3c hp0)) (H.2.2.2 c1).1 (H.2.2.2 c1).2.1 (H.2.2.2 c1).2.2.1 (H.2.2.2 c1).2.2.2.1 ) (pv_if_eq_zo rfl  (fun c2 => (pn_iinc rfl rfl rfl rfl   (pv_goto rfl ((H.2.2.2 c1).2.2.2.2.1 c2)))) (fun c2 => (pn_iinc rfl rfl rfl rfl   (pn_iinc rfl rfl rfl rfl   (pv_goto rfl ((H.2.2.2 c1).2.2.2.2.2 c2))))))))))))))))
theorem c_twins_p {X : gv_X} {d : Nat} {G : gv_Sh} {A : Nat → Nat → Nat} {j : Nat → Nat → Int64} {cc : gv_Rs} {P : gv_O × gv_S → Prop} {R : Nat → Nat} (hp0 : oX11 G 0) (p0 : cK A R) (hP : P (.inl (some (.int (nI (twC R (R 0))))), (G, (mI A, j), cc))) : EvP X (d + 3) gvm_180 0 (gv_enter [.ref 0] 4) [] (G, (mI A, j), cc) P := by
  have n := okW_n p0.1
  have ro : rO A 3 R := p0.2.1.1
  have e0 : A 3 0 = R 0 := ro.1
  have Li : ∀ a, a < R 0 → (∀ l3, EvP X (d + 3) gvm_180 4 [some (.ref 0), some (.int (nI (twC R (a + 1)))), some (.int (nI (a + 1))), some (.int (nI l3))] [] (G, (mI A, j), cc) P) → ∀ i k, k + i = a → EvP X (d + 3) gvm_180 20 [some (.ref 0), some (.int (nI (twC R a + cntN (twB R a) k))), some (.int (nI a)), some (.int (nI k))] [] (G, (mI A, j), cc) P := by
    intro a ha hn i
    have tl := twC_le R a (by omega)
    induction i with
    | zero =>
      intro k hk
      obtain rfl : k = a := by omega
      exact w180_20 (R := R) hp0 ⟨by omega, by omega, fun c1 => hn k, fun c1 => absurd c1 (by omega)⟩
    | succ i ih =>
      intro k hk
      have ih := ih (k + 1) (by omega)
      have cl := cntN_le (twB R a) k
      rw [show cntN (twB R a) (k + 1) = cntN (twB R a) k + (twB R a k).toNat from rfl] at ih
      refine w180_20 (R := R) hp0 ⟨by omega, by omega, fun c1 => absurd c1 (by omega), fun c1 => ⟨p0.1, ro, ha, by omega, fun c2 => ?_, fun c2 => ?_⟩⟩
      · rw [c2] at ih; exact ih
      · rw [c2] at ih; exact ih
  have Lp : ∀ i a l3, a + i = R 0 → EvP X (d + 3) gvm_180 4 [some (.ref 0), some (.int (nI (twC R a))), some (.int (nI a)), l3] [] (G, (mI A, j), cc) P := by
    intro i
    induction i with
    | zero =>
      intro a l3 hk
      obtain rfl : a = R 0 := by omega
      exact w180_4 hp0 ⟨by omega, by omega, fun c1 => hP, fun c1 => absurd c1 (by omega)⟩
    | succ i ih =>
      intro a l3 hk
      exact w180_4 hp0 ⟨by omega, by omega, fun c1 => absurd c1 (by omega), fun c1 => Li a (by omega) (fun l3 => ih (a + 1) _ (by omega)) a 0 (Nat.zero_add _)⟩
  exact w180 hp0 (Lp (R 0) 0 _ (Nat.zero_add _))
theorem c_twins {X : gv_X} {d : Nat} {G : gv_Sh} {A : Nat → Nat → Nat} {j : Nat → Nat → Int64} {cc : gv_Rs} {R : Nat → Nat} (hp0 : oX11 G 0) (p0 : cK A R) : Ev X (d + 3) gvm_180 0 (gv_enter [.ref 0] 4) [] (G, (mI A, j), cc) (.inl (some (.int (nI (twC R (R 0))))), (G, (mI A, j), cc)) := evp_det (c_twins_p hp0 p0 rfl)
theorem w179 {X : gv_X} {d : Nat} {G : gv_Sh} {A : Nat → Nat → Nat} {j : Nat → Nat → Int64} {cc : gv_Rs} {P : gv_O × gv_S → Prop} {p : Nat} {h : Nat} {R : Nat → Nat} (hp0 : oX11 G 0) (H : (h < 4294967296) ∧ ((h = 0 → (p < 4294967296) ∧ ((A 3 0 ≤ 8) ∧ (P (.inl (some (.int (nI (if p < A 3 0 then A (3 + 1) p else 0)))), (G, (mI A, j), cc))))) ∧ (h = 1 → (cQ A R) ∧ ((p < R 0) ∧ ((∀ A1v2 : Nat → Nat → Nat, ((cQ A1v2 R) ∧ (frK A A1v2) ∧ (∀ a, (a < 61 ∨ 63 < a) → A1v2 a = A a)) → P (.inl (some (.int (nI (R 6 + lsum R (tbF R p) p 0)))), (G, (mI A1v2, j), cc)))))) ∧ ((¬ h = 0 ∧ ¬ h = 1) → (p < 4294967296) ∧ ((A 2 2 ≤ 10) ∧ ((∀ k, k < A 2 2 → A (2 + 7) k < 4294967296) ∧ (P (.inl (some (.int (nI (cntN (fun k => decide (A (2 + 7) k = p)) (A 2 2))))), (G, (mI A, j), cc)))))))) : EvP X (d + 5) gvm_179 0 (gv_enter [.ref 0, .int (nI p), .int (nI h)] 3) [] (G, (mI A, j), cc) P :=
  (pv_iload_n rfl rfl   (Or.elim (Decidable.em (h = 0)) (fun c1e => (pn_lsw 0 28 (o := (27)) rfl c1e (by decide) rfl rfl (pv_aload_n rfl rfl   (pv_getP rfl rfl (oX11_k hp0) (oX11_3 hp0)   (pv_getP rfl rfl (oX10_k (oX11_3c hp0)) (oX10_0 (oX11_3c hp0))   (pv_iload_n rfl rfl   (pv_virt rfl rfl rfl rfl rfl (oX6_k (oX10_0c (oX11_3c hp0))) rfl rfl rfl (c_size (p := p) (A := A) (oX10_0c (oX11_3c hp0)) (H.2.1 c1e).1 (H.2.1 c1e).2.1 ) (pv_ireti rfl rfl (H.2.1 c1e).2.2)))))))) (fun c1n0 => (Or.elim (Decidable.em (h = 1)) (fun c1e => (pn_lsw 1 40 (o := (39)) rfl c1e (by decide) rfl rfl (pv_aload_n rfl rfl   (pv_iload_n rfl rfl   (match (c_emul (p := p) (R := R) (A := A) (X := X) (d := d + 0) (G := G) (j := j) (cc := cc) hp0 (H.2.2.1 c1e).1 (H.2.2.1 c1e).2.1 ) with | ⟨A1v2, e2x42, h2⟩ => pv_virt rfl rfl rfl rfl rfl (oX11_k hp0) rfl rfl rfl e2x42 (pv_ireti rfl rfl ((H.2.2.1 c1e).2.2 A1v2 h2))))))) (fun c1n1 => (have c1d : ¬ h = 0 ∧ ¬ h = 1 := (by omega); pn_lswD 46 rfl (by have c1u := H.1; intro p hp; simp only [List.mem_cons, List.not_mem_nil, or_false] at hp; rcases hp with rfl | rfl <;> (rw [nn_i]; omega)) rfl (pv_aload_n rfl rfl   (pv_getP rfl rfl (oX11_k hp0) (oX11_3 hp0)   (pv_iload_n rfl rfl   (pv_virt rfl rfl rfl rfl rfl (oX10_k (oX11_3c hp0)) rfl rfl rfl (c_usesOf (p := p) (A := A) (oX11_3c hp0) (H.2.2.2 c1d).1 (H.2.2.2 c1d).2.1 (H.2.2.2 c1d).2.2.1 ) (pv_ireti rfl rfl (H.2.2.2 c1d).2.2.2)))))))))))
theorem c_measure_p {X : gv_X} {d : Nat} {G : gv_Sh} {A : Nat → Nat → Nat} {j : Nat → Nat → Int64} {cc : gv_Rs} {P : gv_O × gv_S → Prop} {p : Nat} {h : Nat} {R : Nat → Nat} (hp0 : oX11 G 0) (p0 : cQ A R) (p1 : p < R 0) (p2 : h ≤ 2) (hP : ∀ A1 : Nat → Nat → Nat, (cQ A1 R) ∧ (frK A A1) ∧ (∀ a, (a < 61 ∨ 63 < a) → A1 a = A a) → P (.inl (some (.int (nI (amF R (tbF R) h p)))), (G, (mI A1, j), cc))) : EvP X (d + 5) gvm_179 0 (gv_enter [.ref 0, .int (nI p), .int (nI h)] 3) [] (G, (mI A, j), cc) P := by
  have n := okW_n p0.1
  have ro : rO A 3 R := p0.2.1.1
  have K : cQ A R ∧ frK A A ∧ (∀ a, (a < 61 ∨ 63 < a) → A a = A a) := ⟨p0, frK_rf A, fun _ _ => rfl⟩
  have pb := rP_b p0.2.1.2.1 p0.1
  refine w179 (R := R) hp0 ⟨by omega, fun c1 => ⟨by omega, rO_n ro p0.1, qn (hP A K) ?_⟩, fun c1 => ⟨p0, p1, fun B h2 => qn (hP B h2) ?_⟩, fun c1 => ⟨by omega, pb.1, pb.2, qn (hP A K) ?_⟩⟩
  · unfold amF; rw [if_pos c1]; exact (rO_sz ro p1).symm
  · unfold amF; rw [if_neg (by omega), if_pos c1]
  · unfold amF; rw [if_neg (by omega), if_neg (by omega)]; exact (rP_us p0.2.1.2.1 p).symm
theorem c_measure {X : gv_X} {d : Nat} {G : gv_Sh} {A : Nat → Nat → Nat} {j : Nat → Nat → Int64} {cc : gv_Rs} {p : Nat} {h : Nat} {R : Nat → Nat} (hp0 : oX11 G 0) (p0 : cQ A R) (p1 : p < R 0) (p2 : h ≤ 2) : ∃ A1 : Nat → Nat → Nat, Ev X (d + 5) gvm_179 0 (gv_enter [.ref 0, .int (nI p), .int (nI h)] 3) [] (G, (mI A, j), cc) (.inl (some (.int (nI (amF R (tbF R) h p)))), (G, (mI A1, j), cc)) ∧ (cQ A1 R) ∧ (frK A A1) ∧ (∀ a, (a < 61 ∨ 63 < a) → A1 a = A a) := by
  obtain ⟨_, h, A1, rfl, hp⟩ := c_measure_p (X := X) (d := d) (G := G) (A := A) (j := j) (cc := cc) (p := p) (h := h) (R := R) (P := fun r => ∃ A1 : Nat → Nat → Nat, r = (.inl (some (.int (nI (amF R (tbF R) h p)))), (G, (mI A1, j), cc)) ∧ (cQ A1 R) ∧ (frK A A1) ∧ (∀ a, (a < 61 ∨ 63 < a) → A1 a = A a)) hp0 p0 p1 p2 (fun A1 h => ⟨A1, rfl, h⟩)
  exact ⟨A1, h, hp⟩
theorem w178 {X : gv_X} {d : Nat} {G : gv_Sh} {A : Nat → Nat → Nat} {j : Nat → Nat → Int64} {cc : gv_Rs} {P : gv_O × gv_S → Prop} {h : Nat} {R : Nat → Nat} (hp0 : oX11 G 0) (H : (h < 4294967296) ∧ (((h ≤ 2) → (okW R) ∧ ((rO A 3 R) ∧ ((3 + 6 ≤ 54) ∧ ((knI A R) ∧ ((∀ A1v2 : Nat → Nat → Nat, ((stT A1v2 R) ∧ (knI A1v2 R) ∧ (frZ A A1v2)) → EvP X (d + 6) gvm_178 30 [some (.ref 0), some (.int (nI h)), some (.int (nI 4294967295)), some (.int (nI 4294967295)), some (.int (nI 0)), none] [] (G, (mI A1v2, j), cc) P)))))) ∧ ((¬ h ≤ 2) → P (.inr 3, gv_ex (G, (mI A, j), cc))))) : EvP X (d + 6) gvm_178 0 (gv_enter [.ref 0, .int (nI h)] 6) [] (G, (mI A, j), cc) P :=
  (pv_aload_n rfl rfl   (pv_iload_n rfl rfl   (pn_iconst rfl rfl   (Or.elim (Decidable.em (h ≤ 2)) (fun c1 => pv_virt rfl rfl rfl rfl rfl (oX11_k hp0) rfl rfl rfl (c_needWhat (n := h) (m := 2) (A := A) hp0 H.1 (by decide) c1) (pv_aload_n rfl rfl   (pv_getP rfl rfl (oX11_k hp0) (oX11_7 hp0)   (pv_getP rfl rfl (oX4_k (oX11_7c hp0)) (oX4_1 (oX11_7c hp0))   (pv_aload_n rfl rfl   (pv_getP rfl rfl (oX11_k hp0) (oX11_3 hp0)   (pv_getP rfl rfl (oX10_k (oX11_3c hp0)) (oX10_0 (oX11_3c hp0))   (match (c_learn (R := R) (A := A) (X := X) (d := d + 0) (G := G) (j := j) (cc := cc) (oX4_1c (oX11_7c hp0)) (oX10_0c (oX11_3c hp0)) (H.2.1 c1).1 (H.2.1 c1).2.1 (H.2.1 c1).2.2.1 (H.2.1 c1).2.2.2.1 ) with | ⟨A1v2, e2x20, h2⟩ => pv_virt rfl rfl rfl rfl rfl (oX9_k (oX4_1c (oX11_7c hp0))) rfl rfl rfl e2x20 (pn_iconst (u := 4294967295) rfl (by decide)   (pv_istore_n rfl rfl   (pn_iconst (u := 4294967295) rfl (by decide)   (pv_istore_n rfl rfl   (pn_iconst rfl rfl   (pv_istore rfl rfl   ((H.2.1 c1).2.2.2.2 A1v2 h2))))))))))))))) (fun c1 => pv_virtT rfl rfl rfl rfl rfl (oX11_k hp0) rfl rfl rfl rfl (c_needWhat_x (n := h) (m := 2) (A := A) hp0 H.1 (by decide) c1) (H.2.2 c1))))))
theorem w178_30 {X : gv_X} {d : Nat} {G : gv_Sh} {A : Nat → Nat → Nat} {j : Nat → Nat → Int64} {cc : gv_Rs} {P : gv_O × gv_S → Prop} {h : Nat} {l2 : Nat} {l3 : Nat} {l4 : Nat} {l5 : Option Value} {R : Nat → Nat} (hp0 : oX11 G 0) (H : (l4 < 2147483648) ∧ (((A 3 0) < 2147483648) ∧ ((((A 3 0) ≤ l4) → P (.inl (some (.int (nI l2))), (G, (mI A, j), cc))) ∧ ((l4 < (A 3 0)) → (cQ A R) ∧ ((l4 < R 0) ∧ ((h ≤ 2) ∧ ((∀ A1v1 : Nat → Nat → Nat, ((cQ A1v1 R) ∧ (frK A A1v1) ∧ (∀ a, (a < 61 ∨ 63 < a) → A1v1 a = A a)) → ((((amF R (tbF R) h l4) + 2147483648) % 4294967296 ≤ (l3 + 2147483648) % 4294967296) → EvP X (d + 6) gvm_178 30 [some (.ref 0), some (.int (nI h)), some (.int (nI l2)), some (.int (nI l3)), some (.int (nI (l4 + 1))), some (.int (nI (amF R (tbF R) h l4)))] [] (G, (mI A1v1, j), cc) P) ∧ (((l3 + 2147483648) % 4294967296 < ((amF R (tbF R) h l4) + 2147483648) % 4294967296) → EvP X (d + 6) gvm_178 30 [some (.ref 0), some (.int (nI h)), some (.int (nI l4)), some (.int (nI (amF R (tbF R) h l4))), some (.int (nI (l4 + 1))), some (.int (nI (amF R (tbF R) h l4)))] [] (G, (mI A1v1, j), cc) P))))))))) : EvP X (d + 6) gvm_178 30 [some (.ref 0), some (.int (nI h)), some (.int (nI l2)), some (.int (nI l3)), some (.int (nI l4)), l5] [] (G, (mI A, j), cc) P :=
  (pv_iload rfl rfl   (pv_aload_n rfl rfl   (pv_getP rfl rfl (oX11_k hp0) (oX11_3 hp0)   (pv_getP rfl rfl (oX10_k (oX11_3c hp0)) (oX10_0 (oX11_3c hp0))   (pn_getI rfl rfl (oX6_k (oX10_0c (oX11_3c hp0))) rfl   (pn_ic_ge rfl H.1 H.2.1 (fun c1 => (pv_iload_n rfl rfl   (pv_ireti rfl rfl (H.2.2.1 c1)))) (fun c1 => (pv_aload_n rfl rfl   (pv_iload rfl rfl   (pv_iload_n rfl rfl   (match (c_measure (p := l4) (h := h) (R := R) (A := A) (X := X) (d := d + 0) (G := G) (j := j) (cc := cc) hp0 (H.2.2.2 c1).1 (H.2.2.2 c1).2.1 (H.2.2.2 c1).2.2.1 ) with | ⟨A1v1, e1x49, h2⟩ => pv_virt rfl rfl rfl rfl rfl (oX11_k hp0) rfl rfl rfl e1x49 (pv_istore rfl rfl   (pv_iload rfl rfl   (pv_iload_n rfl rfl   (pn_ic_lew rfl  (fun c3 => (pn_iinc rfl rfl rfl rfl   (pv_goto rfl (((H.2.2.2 c1).2.2.2 A1v1 h2).1 c3)))) (fun c3 => (pv_iload rfl rfl   (pv_istore_n rfl rfl   (pv_iload rfl rfl   (pv_istore_n rfl rfl   (pn_iinc rfl rfl rfl rfl   (pv_goto rfl (((H.2.2.2 c1).2.2.2 A1v1 h2).2 c3)))))))))))))))))))))))
theorem c_most_p {X : gv_X} {d : Nat} {G : gv_Sh} {A : Nat → Nat → Nat} {j : Nat → Nat → Int64} {cc : gv_Rs} {P : gv_O × gv_S → Prop} {h : Nat} {R : Nat → Nat} (hp0 : oX11 G 0) (p0 : cK A R) (p1 : h < 4294967296) (hP : ∀ A1 : Nat → Nat → Nat, (cK A1 R) ∧ (frK A A1) → P (oc (fun _ => 3) (spMost R h).1 (spMost R h).2 (G, (mI A1, j), cc))) : EvP X (d + 6) gvm_178 0 (gv_enter [.ref 0, .int (nI h)] 6) [] (G, (mI A, j), cc) P := by
  have ok : ∀ B x, cK B R ∧ frK A B → spMost R h = (0, x) → P (.inl (some (.int (nI x))), (G, (mI B, j), cc)) := fun B x h1 h3 => by
    have := hP B h1
    rw [h3] at this
    exact this
  have no1 : ∀ B, cK B R ∧ frK A B → spMost R h = (1, 0) → P (.inr 3, gv_ex (G, (mI B, j), cc)) := fun B h1 h3 => by
    have := hP B h1
    rw [h3] at this
    exact this
  have n := okW_n p0.1
  have Lp : h ≤ 2 → ∀ i k B g l5, k + i = R 0 → cQ B R → frK A B → ((msN R (tbF R) h k = 4294967295 ∧ g = 4294967295) ∨ (g = amF R (tbF R) h (msN R (tbF R) h k) ∧ msN R (tbF R) h k < k)) → EvP X (d + 6) gvm_178 30 [some (.ref 0), some (.int (nI h)), some (.int (nI (msN R (tbF R) h k))), some (.int (nI g)), some (.int (nI k)), l5] [] (G, (mI B, j), cc) P := by
    intro hh i
    induction i with
    | zero =>
      intro k B g l5 hk hQ hf hg
      have e0 : B 3 0 = R 0 := hQ.2.1.1.1
      obtain rfl : k = R 0 := by omega
      refine w178_30 (R := R) hp0 ⟨by omega, by omega, fun c1 => ok B _ ⟨cQ_K hQ, hf⟩ ?_, fun c1 => absurd c1 (by omega)⟩
      unfold spMost; rw [if_neg (by omega)]
    | succ i ih =>
      intro k B g l5 hk hQ hf hg
      have e0 : B 3 0 = R 0 := hQ.2.1.1.1
      have b2 := amF_le (T := tbF R) p0.1 p0.2.2.2.1 (w := h) (p := k) (by omega)
      have st := amF_all R (tbF R) h k
      refine w178_30 (R := R) hp0 ⟨by omega, by omega, fun c1 => absurd c1 (by omega), fun c1 => ⟨hQ, by omega, hh, fun C h2 => ⟨fun c3 => ?_, fun c3 => ?_⟩⟩⟩
      · rcases hg with ⟨g1, g2⟩ | ⟨g1, g2⟩
        · exact absurd c3 (by omega)
        have b1 := amF_le (T := tbF R) p0.1 p0.2.2.2.1 (w := h) (p := msN R (tbF R) h k) (by omega)
        rw [if_neg (by omega)] at st
        have := ih (k + 1) C g (some (.int (nI (amF R (tbF R) h k)))) (by omega) h2.1 (frK_tr hf h2.2.1) (Or.inr (by rw [st]; exact ⟨g1, by omega⟩))
        rw [st] at this
        exact this
      · have z : msN R (tbF R) h k = 4294967295 ∨ amF R (tbF R) h (msN R (tbF R) h k) < amF R (tbF R) h k := by
          rcases hg with ⟨g1, g2⟩ | ⟨g1, g2⟩
          · exact Or.inl g1
          · have b1 := amF_le (T := tbF R) p0.1 p0.2.2.2.1 (w := h) (p := msN R (tbF R) h k) (by omega)
            omega
        rw [if_pos z] at st
        have := ih (k + 1) C (amF R (tbF R) h k) (some (.int (nI (amF R (tbF R) h k)))) (by omega) h2.1 (frK_tr hf h2.2.1) (Or.inr (by rw [st]; exact ⟨rfl, by omega⟩))
        rw [st] at this
        exact this
  refine w178 (R := R) hp0 ⟨p1, fun d1 => ⟨p0.1, p0.2.1.1, by decide, p0.2.2.1, fun B h2 => ?_⟩, fun d1 => no1 A ⟨p0, frK_rf A⟩ (by unfold spMost; rw [if_pos (by omega)])⟩
  obtain ⟨hQ, hf⟩ := cK_Z p0 h2.1 h2.2.1 h2.2.2
  exact Lp d1 (R 0) 0 B 4294967295 none (Nat.zero_add _) hQ hf (Or.inl ⟨rfl, rfl⟩)
theorem w181 {X : gv_X} {d : Nat} {G : gv_Sh} {A : Nat → Nat → Nat} {j : Nat → Nat → Int64} {cc : gv_Rs} {P : gv_O × gv_S → Prop} {n : Nat} {b : Bool} {R : Nat → Nat} (hp0 : oX11 G 0) (H : (n < 4294967296) ∧ ((((0 ≤ n ∧ n ≤ 60)) → (cK A R) ∧ ((∀ A1v2 : Nat → Nat → Nat, ((cQ A1v2 R) ∧ (rW A1v2 17 R) ∧ (frK A A1v2)) → EvP X (d + 7) gvm_181 12 [some (.ref 0), some (.int (nI n)), some (.int (zo b)), none] [] (G, (mI A1v2, j), cc) P))) ∧ ((¬ (0 ≤ n ∧ n ≤ 60)) → P (.inr 0, gv_ex (G, (mI A, j), cc))))) : EvP X (d + 7) gvm_181 0 (gv_enter [.ref 0, .int (nI n), .int (zo b)] 4) [] (G, (mI A, j), cc) P :=
  (pv_aload_n rfl rfl   (pv_iload_n rfl rfl   (pn_iconst rfl rfl   (pn_bipush rfl rfl   (Or.elim (Decidable.em ((0 ≤ n ∧ n ≤ 60))) (fun c1 => pv_virt rfl rfl rfl rfl rfl (oX11_k hp0) rfl rfl rfl (c_needNumber (n := n) (lo := 0) (hi := 60) (A := A) hp0 H.1 (by decide) (by decide) c1) (pv_aload_n rfl rfl   (match (c_makeSpare (R := R) (A := A) (X := X) (d := d + 0) (G := G) (j := j) (cc := cc) hp0 (H.2.1 c1).1 ) with | ⟨A1v2, e2x9, h2⟩ => pv_virt rfl rfl rfl rfl rfl (oX11_k hp0) rfl rfl rfl e2x9 ((H.2.1 c1).2 A1v2 h2)))) (fun c1 => pv_virtT rfl rfl rfl rfl rfl (oX11_k hp0) rfl rfl rfl rfl (c_needNumber_x (n := n) (lo := 0) (hi := 60) (A := A) hp0 H.1 (by decide) (by decide) c1) (H.2.2 c1)))))))
theorem w181_12 {X : gv_X} {d : Nat} {G : gv_Sh} {A : Nat → Nat → Nat} {j : Nat → Nat → Int64} {cc : gv_Rs} {P : gv_O × gv_S → Prop} {n : Nat} {b : Bool} (hp0 : oX11 G 0) (H : EvP X (d + 7) gvm_181 14 [some (.ref 0), some (.int (nI n)), some (.int (zo b)), some (.int (nI 0))] [] (G, (mI A, j), cc) P) : EvP X (d + 7) gvm_181 12 [some (.ref 0), some (.int (nI n)), some (.int (zo b)), none] [] (G, (mI A, j), cc) P :=
  (pn_iconst rfl rfl   (pv_istore_n rfl rfl   H))
theorem w181_14 {X : gv_X} {d : Nat} {G : gv_Sh} {A : Nat → Nat → Nat} {j : Nat → Nat → Int64} {cc : gv_Rs} {P : gv_O × gv_S → Prop} {n : Nat} {b : Bool} {l3 : Nat} {S : Nat → Nat} (hp0 : oX11 G 0) (H : (l3 < 2147483648) ∧ ((n < 2147483648) ∧ (((n ≤ l3) → ((b = false) → P (.inl (some (.int (nI (A 26 0)))), (G, (mI A, j), cc))) ∧ ((b = true) → P (.inl (some (.int (nI (A 28 0)))), (G, (mI A, j), cc)))) ∧ ((l3 < n) → (okW S) ∧ ((rW A 17 S) ∧ ((∀ A1v1 : Nat → Nat → Nat, ((rW A1v1 17 (baR S)) ∧ (∀ q, q ≠ 17 + 9 → q ≠ 17 + 9 + 1 → A1v1 q = A q)) → (okW (baR S)) ∧ ((rW A1v1 17 (baR S)) ∧ ((lg A1v1 (baR S)) ∧ ((17 + 15 ≤ 47) ∧ ((∀ A1v2 : Nat → Nat → Nat, ((rW A1v2 17 (hoR (baR S) (tbF (baR S)))) ∧ (lg A1v2 (baR S)) ∧ (∀ q, q ≠ 17 + 11 → q ≠ 17 + 11 + 1 → (q < 61 ∨ 63 < q) → A1v2 q = A1v1 q)) → EvP X (d + 7) gvm_181 14 [some (.ref 0), some (.int (nI n)), some (.int (zo b)), some (.int (nI (l3 + 1)))] [] (G, (mI A1v2, j), cc) P)))))))))))) : EvP X (d + 7) gvm_181 14 [some (.ref 0), some (.int (nI n)), some (.int (zo b)), some (.int (nI l3))] [] (G, (mI A, j), cc) P :=
  (pv_iload_n rfl rfl   (pv_iload_n rfl rfl   (pn_ic_ge rfl H.1 H.2.1 (fun c1 => (pv_iload_n rfl rfl   (pv_if_eq_zo rfl  (fun c2 => (pv_aload_n rfl rfl   (pv_getP rfl rfl (oX11_k hp0) (oX11_4 hp0)   (pv_getP rfl rfl (oX10_k (oX11_4c hp0)) (oX10_12 (oX11_4c hp0))   (pn_getI rfl rfl (oX1_k (oX10_12c (oX11_4c hp0))) rfl   (pv_ireti rfl rfl ((H.2.2.1 c1).1 c2))))))) (fun c2 => (pv_aload_n rfl rfl   (pv_getP rfl rfl (oX11_k hp0) (oX11_4 hp0)   (pv_getP rfl rfl (oX10_k (oX11_4c hp0)) (oX10_13 (oX11_4c hp0))   (pn_getI rfl rfl (oX1_k (oX10_13c (oX11_4c hp0))) rfl   (pv_goto rfl (pv_ireti rfl rfl ((H.2.2.1 c1).2 c2))))))))))) (fun c1 => (pv_aload_n rfl rfl   (pv_getP rfl rfl (oX11_k hp0) (oX11_4 hp0)   (match (c_stepBare (R := S) (A := A) (X := X) (d := d + 3) (G := G) (j := j) (cc := cc) (oX11_4c hp0) (H.2.2.2 c1).1 (H.2.2.2 c1).2.1 ) with | ⟨A1v1, e2x23, h3⟩ => pv_virt rfl rfl rfl rfl rfl (oX10_k (oX11_4c hp0)) rfl rfl rfl e2x23 (pv_aload_n rfl rfl   (pv_getP rfl rfl (oX11_k hp0) (oX11_4 hp0)   (pv_aload_n rfl rfl   (pv_getP rfl rfl (oX11_k hp0) (oX11_7 hp0)   (match (c_stepHosted (R := (baR S)) (A := A1v1) (X := X) (d := d + 2) (G := G) (j := j) (cc := cc) (oX11_4c hp0) (oX11_7c hp0) ((H.2.2.2 c1).2.2 A1v1 h3).1 ((H.2.2.2 c1).2.2 A1v1 h3).2.1 ((H.2.2.2 c1).2.2 A1v1 h3).2.2.1 ((H.2.2.2 c1).2.2 A1v1 h3).2.2.2.1 ) with | ⟨A1v2, e2x34, h4⟩ => pv_virt rfl rfl rfl rfl rfl (oX10_k (oX11_4c hp0)) rfl rfl rfl e2x34 (pv_pop rfl rfl   (pn_iinc rfl rfl rfl rfl   (pv_goto rfl (((H.2.2.2 c1).2.2 A1v1 h3).2.2.2.2 A1v2 h4))))))))))))))))
theorem c_ahead_p {X : gv_X} {d : Nat} {G : gv_Sh} {A : Nat → Nat → Nat} {j : Nat → Nat → Int64} {cc : gv_Rs} {P : gv_O × gv_S → Prop} {n : Nat} {b : Bool} {R : Nat → Nat} (hp0 : oX11 G 0) (p0 : cK A R) (p1 : n < 4294967296) (hP : ∀ A1 : Nat → Nat → Nat, (cK A1 R) ∧ (frK A A1) → P (oc (fun _ => 0) (spAhead R n b).1 (spAhead R n b).2 (G, (mI A1, j), cc))) : EvP X (d + 7) gvm_181 0 (gv_enter [.ref 0, .int (nI n), .int (zo b)] 4) [] (G, (mI A, j), cc) P := by
  have ok : ∀ B x, cK B R ∧ frK A B → spAhead R n b = (0, x) → P (.inl (some (.int (nI x))), (G, (mI B, j), cc)) := fun B x h1 h3 => by
    have := hP B h1
    rw [h3] at this
    exact this
  have no1 : ∀ B, cK B R ∧ frK A B → spAhead R n b = (1, 0) → P (.inr 0, gv_ex (G, (mI B, j), cc)) := fun B h1 h3 => by
    have := hP B h1
    rw [h3] at this
    exact this
  have Lp : ∀ i k B S Q, k + i = n → n ≤ 60 → okW S → okW Q → eqX R S → eqC S Q → rW B 17 S → cQ B R → frK A B → gsR (tbF R) true i Q = gsR (tbF R) true n R → EvP X (d + 7) gvm_181 14 [some (.ref 0), some (.int (nI n)), some (.int (zo b)), some (.int (nI k))] [] (G, (mI B, j), cc) P := by
    intro i
    induction i with
    | zero =>
      intro k B S Q hk hn oS oQ xS cS rB hQ hf hm
      have hm : Q = gsR (tbF R) true n R := hm
      refine w181_14 (S := S) hp0 ⟨by omega, by omega, fun c1 => ⟨fun c2 => ok B _ ⟨cQ_K hQ, hf⟩ ?_, fun c2 => ok B _ ⟨cQ_K hQ, hf⟩ ?_⟩, fun c1 => absurd c1 (by omega)⟩
      · unfold spAhead
        rw [if_neg (by omega), c2, ← hm, show (102 + 13 * false.toNat + 0) = 102 + 13 * 0 + 0 from rfl, cS _ (by omega), ← (show B 26 0 = S (102 + 13 * 0 + 0) from rB.2.2.2.2.1.1)]
      · unfold spAhead
        rw [if_neg (by omega), c2, ← hm, show (102 + 13 * true.toNat + 0) = 102 + 13 * 1 + 0 from rfl, cS _ (by omega), ← (show B 28 0 = S (102 + 13 * 1 + 0) from rB.2.2.2.2.2.1.1)]
    | succ i ih =>
      intro k B S Q hk hn oS oQ xS cS rB hQ hf hm
      refine w181_14 (S := S) hp0 ⟨by omega, by omega, fun c1 => absurd c1 (by omega), fun c1 => ⟨oS, rB, fun C h3 => ?_⟩⟩
      have o2 := okW_ba oS
      have x2 : eqX R (baR S) := eqX_tr xS (eqG_X (eqG_ba S))
      have q2 := cQ_w hQ (lg_of hQ.2.2.2 (fun q hq => h3.2 q (by omega) (by omega))) (fun q a b => h3.2 q (by omega) (by omega))
      refine ⟨o2, h3.1, lg_X p0.1 q2.1.2.2.2 x2, by decide, fun D h4 => ?_⟩
      have q3 := cQ_w q2.1 (lg_X o2 h4.2.1 (fun i hi => (x2 i hi).symm)) (fun q a b => h4.2.2 q (by omega) (by omega) b)
      have eT : hoR (baR S) (tbF (baR S)) = hoR (baR S) (tbF R) := hoR_T o2 (fun p hp => by
        rw [x2 0 (by omega)] at hp
        exact tbF_XX p0.1 x2 hp)
      have r3 := h4.1
      rw [eT] at r3
      exact ih (k + 1) D _ (tkR Q (tbF R) false) (by omega) hn (okW_ho o2 _) (ok_tk oQ _ _).1 (eqX_tr x2 (eqG_X (eqG_ho _ _))) (eqC_tr (ho_C o2 (ba_C oS cS)) (tk_C Q (tbF R))) r3 q3.1 (frK_tr hf (frK_tr q2.2 q3.2)) hm
  exact w181 (R := R) hp0 ⟨p1, fun c1 => ⟨p0, fun B h2 => w181_12 hp0 (Lp n 0 B R R (Nat.zero_add _) c1.2 p0.1 p0.1 (eqX_rf R) (fun _ _ => rfl) h2.2.1 h2.1 h2.2.2 rfl)⟩, fun c1 => no1 A ⟨p0, frK_rf A⟩ (by unfold spAhead; rw [if_pos (by omega)])⟩
theorem w182 {X : gv_X} {d : Nat} {G : gv_Sh} {A : Nat → Nat → Nat} {j : Nat → Nat → Int64} {cc : gv_Rs} {P : gv_O × gv_S → Prop} {n : Nat} {b : Bool} {R : Nat → Nat} (hp0 : oX11 G 0) (H : (n < 4294967296) ∧ ((((0 ≤ n ∧ n ≤ 60)) → (cK A R) ∧ ((∀ A1v2 : Nat → Nat → Nat, ((cQ A1v2 R) ∧ (rW A1v2 17 R) ∧ (frK A A1v2)) → (okW R) ∧ ((rW A1v2 17 R) ∧ ((lg A1v2 R) ∧ ((17 + 15 ≤ 47) ∧ ((n ≤ 60) ∧ ((∀ A1v3 : Nat → Nat → Nat, ((rW A1v3 17 (gsR (tbF R) false n R)) ∧ (lg A1v3 R) ∧ (frW A1v2 A1v3 17)) → ((b = false) → P (.inl (some (.int (nI (A1v3 17 9)))), (G, (mI A1v3, j), cc))) ∧ ((b = true) → (okW (gsR (tbF R) false n R)) ∧ ((rW A1v3 17 (gsR (tbF R) false n R)) ∧ ((((alk (gsR (tbF R) false n R)) = false) → P (.inl (some (.int (nI 0))), (G, (mI A1v3, j), cc))) ∧ (((alk (gsR (tbF R) false n R)) = true) → P (.inl (some (.int (nI 1))), (G, (mI A1v3, j), cc))))))))))))))) ∧ ((¬ (0 ≤ n ∧ n ≤ 60)) → P (.inr 0, gv_ex (G, (mI A, j), cc))))) : EvP X (d + 7) gvm_182 0 (gv_enter [.ref 0, .int (nI n), .int (zo b)] 3) [] (G, (mI A, j), cc) P :=
  (pv_aload_n rfl rfl   (pv_iload_n rfl rfl   (pn_iconst rfl rfl   (pn_bipush rfl rfl   (Or.elim (Decidable.em ((0 ≤ n ∧ n ≤ 60))) (fun c1 => pv_virt rfl rfl rfl rfl rfl (oX11_k hp0) rfl rfl rfl (c_needNumber (n := n) (lo := 0) (hi := 60) (A := A) hp0 H.1 (by decide) (by decide) c1) (pv_aload_n rfl rfl   (match (c_makeSpare (R := R) (A := A) (X := X) (d := d + 0) (G := G) (j := j) (cc := cc) hp0 (H.2.1 c1).1 ) with | ⟨A1v2, e4x9, h2⟩ => pv_virt rfl rfl rfl rfl rfl (oX11_k hp0) rfl rfl rfl e4x9 (pv_aload_n rfl rfl   (pv_getP rfl rfl (oX11_k hp0) (oX11_4 hp0)   (pv_iload_n rfl rfl   (pv_aload_n rfl rfl   (pv_getP rfl rfl (oX11_k hp0) (oX11_7 hp0)   (match (c_tickMany (n := n) (R := R) (A := A1v2) (X := X) (d := d + 0) (G := G) (j := j) (cc := cc) (oX11_4c hp0) (oX11_7c hp0) ((H.2.1 c1).2 A1v2 h2).1 ((H.2.1 c1).2 A1v2 h2).2.1 ((H.2.1 c1).2 A1v2 h2).2.2.1 ((H.2.1 c1).2 A1v2 h2).2.2.2.1 ((H.2.1 c1).2 A1v2 h2).2.2.2.2.1 ) with | ⟨A1v3, e4x21, h3⟩ => pv_virt rfl rfl rfl rfl rfl (oX10_k (oX11_4c hp0)) rfl rfl rfl e4x21 (pv_pop rfl rfl   (pv_iload_n rfl rfl   (pv_if_eq_zo rfl  (fun c4 => (pv_aload_n rfl rfl   (pv_getP rfl rfl (oX11_k hp0) (oX11_4 hp0)   (pn_getI rfl rfl (oX10_k (oX11_4c hp0)) rfl   (pv_ireti rfl rfl ((((H.2.1 c1).2 A1v2 h2).2.2.2.2.2 A1v3 h3).1 c4)))))) (fun c4 => (pv_aload_n rfl rfl   (pv_getP rfl rfl (oX11_k hp0) (oX11_4 hp0)   (pv_virt rfl rfl rfl rfl rfl (oX10_k (oX11_4c hp0)) rfl rfl rfl (c_viewsAlike (R := (gsR (tbF R) false n R)) (A := A1v3) (oX11_4c hp0) ((((H.2.1 c1).2 A1v2 h2).2.2.2.2.2 A1v3 h3).2 c4).1 ((((H.2.1 c1).2 A1v2 h2).2.2.2.2.2 A1v3 h3).2 c4).2.1 ) (pv_if_eq_zo rfl  (fun c5 => (pn_iconst rfl rfl   (pv_ireti rfl rfl (((((H.2.1 c1).2 A1v2 h2).2.2.2.2.2 A1v3 h3).2 c4).2.2.1 c5)))) (fun c5 => (pn_iconst rfl rfl   (pv_goto rfl (pv_ireti rfl rfl (((((H.2.1 c1).2 A1v2 h2).2.2.2.2.2 A1v3 h3).2 c4).2.2.2 c5)))))))))))))))))))))) (fun c1 => pv_virtT rfl rfl rfl rfl rfl (oX11_k hp0) rfl rfl rfl rfl (c_needNumber_x (n := n) (lo := 0) (hi := 60) (A := A) hp0 H.1 (by decide) (by decide) c1) (H.2.2 c1)))))))
theorem c_trial_p {X : gv_X} {d : Nat} {G : gv_Sh} {A : Nat → Nat → Nat} {j : Nat → Nat → Int64} {cc : gv_Rs} {P : gv_O × gv_S → Prop} {n : Nat} {b : Bool} {R : Nat → Nat} (hp0 : oX11 G 0) (p0 : cK A R) (p1 : n < 4294967296) (hP : ∀ A1 : Nat → Nat → Nat, (cK A1 R) ∧ (frK A A1) → P (oc (fun _ => 0) (spTrial R n b).1 (spTrial R n b).2 (G, (mI A1, j), cc))) : EvP X (d + 7) gvm_182 0 (gv_enter [.ref 0, .int (nI n), .int (zo b)] 3) [] (G, (mI A, j), cc) P := by
  have ok : ∀ B x, cK B R ∧ frK A B → spTrial R n b = (0, x) → P (.inl (some (.int (nI x))), (G, (mI B, j), cc)) := fun B x h1 h3 => by
    have := hP B h1
    rw [h3] at this
    exact this
  have no1 : ∀ B, cK B R ∧ frK A B → spTrial R n b = (1, 0) → P (.inr 0, gv_ex (G, (mI B, j), cc)) := fun B h1 h3 => by
    have := hP B h1
    rw [h3] at this
    exact this
  have og := (gs_X p0.1 (tbF R) false n).1
  refine w182 (R := R) hp0 ⟨p1, fun c1 => ⟨p0, fun B h2 => ⟨p0.1, h2.2.1, h2.1.2.2.2, by decide, c1.2, fun C h3 => ?_⟩⟩, fun c1 => no1 A ⟨p0, frK_rf A⟩ (by unfold spTrial; rw [if_pos (by omega)])⟩
  have q := cQ_w h2.1 h3.2.1 h3.2.2
  have K : cK C R ∧ frK A C := ⟨cQ_K q.1, frK_tr h2.2.2 q.2⟩
  have sp : ∀ V, (if b = true then (if alk (gsR (tbF R) false n R) = true then 1 else 0) else gsR (tbF R) false n R 9) = V → spTrial R n b = (0, V) := fun V e => by
    unfold spTrial; rw [if_neg (by omega), e]
  refine ⟨fun c4 => ok C _ K (sp _ ?_), fun c4 => ⟨og, h3.1, fun c5 => ok C _ K (sp _ ?_), fun c5 => ok C _ K (sp _ ?_)⟩⟩
  · rw [c4]; exact (show C 17 9 = gsR (tbF R) false n R 9 from h3.1.2.2.2.1.2.2.2.2.2.1).symm
  · rw [c4, if_pos rfl, c5]; rfl
  · rw [c4, if_pos rfl, c5]; rfl
theorem w183 {X : gv_X} {d : Nat} {G : gv_Sh} {A : Nat → Nat → Nat} {j : Nat → Nat → Int64} {cc : gv_Rs} {P : gv_O × gv_S → Prop} {n : Nat} {b : Bool} (hp0 : oX11 G 0) (H : (n < 4294967296) ∧ ((((0 ≤ n ∧ n ≤ 60)) → ((b = false) → EvP X (d + 7) gvm_183 23 [some (.ref 0), some (.int (nI n)), some (.int (zo b)), some (.int (nI 9999)), some (.int (nI 1))] [] (G, (mI A, j), cc) P) ∧ ((b = true) → EvP X (d + 7) gvm_183 23 [some (.ref 0), some (.int (nI n)), some (.int (zo b)), some (.int (nI 0)), some (.int (nI 1))] [] (G, (mI A, j), cc) P)) ∧ ((¬ (0 ≤ n ∧ n ≤ 60)) → P (.inr 0, gv_ex (G, (mI A, j), cc))))) : EvP X (d + 7) gvm_183 0 (gv_enter [.ref 0, .int (nI n), .int (zo b)] 5) [] (G, (mI A, j), cc) P :=
  (pv_aload_n rfl rfl   (pv_iload_n rfl rfl   (pn_iconst rfl rfl   (pn_bipush rfl rfl   (Or.elim (Decidable.em ((0 ≤ n ∧ n ≤ 60))) (fun c1 => pv_virt rfl rfl rfl rfl rfl (oX11_k hp0) rfl rfl rfl (c_needNumber (n := n) (lo := 0) (hi := 60) (A := A) hp0 H.1 (by decide) (by decide) c1) (pv_iload_n rfl rfl   (pv_if_eq_zo rfl  (fun c2 => (pn_sipush rfl rfl   (pv_istore_n rfl rfl   (pn_iconst rfl rfl   (pv_istore rfl rfl   ((H.2.1 c1).1 c2)))))) (fun c2 => (pn_iconst rfl rfl   (pv_goto rfl (pv_istore_n rfl rfl   (pn_iconst rfl rfl   (pv_istore rfl rfl   ((H.2.1 c1).2 c2)))))))))) (fun c1 => pv_virtT rfl rfl rfl rfl rfl (oX11_k hp0) rfl rfl rfl rfl (c_needNumber_x (n := n) (lo := 0) (hi := 60) (A := A) hp0 H.1 (by decide) (by decide) c1) (H.2.2 c1)))))))
theorem w183_23 {X : gv_X} {d : Nat} {G : gv_Sh} {A : Nat → Nat → Nat} {j : Nat → Nat → Int64} {cc : gv_Rs} {P : gv_O × gv_S → Prop} {n : Nat} {b : Bool} {l3 : Nat} {l4 : Nat} {R : Nat → Nat} (hp0 : oX11 G 0) (H : (l4 < 2147483648) ∧ (((6 < l4) → P (.inl (some (.int (nI l3))), (G, (mI A, j), cc))) ∧ ((l4 ≤ 6) → (cK A R) ∧ ((∀ A1v1 : Nat → Nat → Nat, ((cQ A1v1 R) ∧ (rW A1v1 17 R) ∧ (frK A A1v1)) → (okW (seR R 11 l4)) ∧ ((rW (gu A1v1 17 10 l4) 17 (seR R 11 l4)) ∧ ((lg (gu A1v1 17 10 l4) (seR R 11 l4)) ∧ ((17 + 15 ≤ 47) ∧ ((n ≤ 60) ∧ ((∀ A1v2 : Nat → Nat → Nat, ((rW A1v2 17 (gsR (tbF (seR R 11 l4)) false n (seR R 11 l4))) ∧ (lg A1v2 (seR R 11 l4)) ∧ (frW (gu A1v1 17 10 l4) A1v2 17)) → ((b = false) → (l3 < 2147483648) ∧ (((A1v2 17 9) < 2147483648) ∧ (EvP X (d + 7) gvm_183 23 [some (.ref 0), some (.int (nI n)), some (.int (zo b)), some (.int (nI (min l3 (A1v2 17 9)))), some (.int (nI (l4 + 1)))] [] (G, (mI A1v2, j), cc) P))) ∧ ((b = true) → (l3 < 2147483648) ∧ (((A1v2 17 9) < 2147483648) ∧ (EvP X (d + 7) gvm_183 23 [some (.ref 0), some (.int (nI n)), some (.int (zo b)), some (.int (nI (max l3 (A1v2 17 9)))), some (.int (nI (l4 + 1)))] [] (G, (mI A1v2, j), cc) P)))))))))))))) : EvP X (d + 7) gvm_183 23 [some (.ref 0), some (.int (nI n)), some (.int (zo b)), some (.int (nI l3)), some (.int (nI l4))] [] (G, (mI A, j), cc) P :=
  (pv_iload rfl rfl   (pn_bipush rfl rfl   (pn_ic_gt rfl H.1 (by decide) (fun c1 => (pv_iload_n rfl rfl   (pv_ireti rfl rfl (H.2.1 c1)))) (fun c1 => (pv_aload_n rfl rfl   (match (c_makeSpare (R := R) (A := A) (X := X) (d := d + 0) (G := G) (j := j) (cc := cc) hp0 (H.2.2 c1).1 ) with | ⟨A1v1, e4x31, h2⟩ => pv_virt rfl rfl rfl rfl rfl (oX11_k hp0) rfl rfl rfl e4x31 (pv_aload_n rfl rfl   (pv_getP rfl rfl (oX11_k hp0) (oX11_4 hp0)   (pv_iload rfl rfl   (pn_putI rfl rfl (oX10_k (oX11_4c hp0))   (pv_aload_n rfl rfl   (pv_getP rfl rfl (oX11_k hp0) (oX11_4 hp0)   (pv_iload_n rfl rfl   (pv_aload_n rfl rfl   (pv_getP rfl rfl (oX11_k hp0) (oX11_7 hp0)   (match (c_tickMany (n := n) (R := (seR R 11 l4)) (A := (gu A1v1 17 10 l4)) (X := X) (d := d + 0) (G := G) (j := j) (cc := cc) (oX11_4c hp0) (oX11_7c hp0) ((H.2.2 c1).2 A1v1 h2).1 ((H.2.2 c1).2 A1v1 h2).2.1 ((H.2.2 c1).2 A1v1 h2).2.2.1 ((H.2.2 c1).2 A1v1 h2).2.2.2.1 ((H.2.2 c1).2 A1v1 h2).2.2.2.2.1 ) with | ⟨A1v2, e4x52, h3⟩ => pv_virt rfl rfl rfl rfl rfl (oX10_k (oX11_4c hp0)) rfl rfl rfl e4x52 (pv_pop rfl rfl   (pv_iload_n rfl rfl   (pv_if_eq_zo rfl  (fun c4 => (pv_iload_n rfl rfl   (pv_aload_n rfl rfl   (pv_getP rfl rfl (oX11_k hp0) (oX11_4 hp0)   (pn_getI rfl rfl (oX10_k (oX11_4c hp0)) rfl   (pv_stat rfl rfl rfl rfl rfl rfl rfl rfl (k_min (a := l3) (b := (A1v2 17 9)) (A := A1v2) ((((H.2.2 c1).2 A1v1 h2).2.2.2.2.2 A1v2 h3).1 c4).1 ((((H.2.2 c1).2 A1v1 h2).2.2.2.2.2 A1v2 h3).1 c4).2.1 ) (pv_istore_n rfl rfl   (pn_iinc rfl rfl rfl rfl   (pv_goto rfl ((((H.2.2 c1).2 A1v1 h2).2.2.2.2.2 A1v2 h3).1 c4).2.2))))))))) (fun c4 => (pv_iload_n rfl rfl   (pv_aload_n rfl rfl   (pv_getP rfl rfl (oX11_k hp0) (oX11_4 hp0)   (pn_getI rfl rfl (oX10_k (oX11_4c hp0)) rfl   (pv_stat rfl rfl rfl rfl rfl rfl rfl rfl (k_max (a := l3) (b := (A1v2 17 9)) (A := A1v2) ((((H.2.2 c1).2 A1v1 h2).2.2.2.2.2 A1v2 h3).2 c4).1 ((((H.2.2 c1).2 A1v1 h2).2.2.2.2.2 A1v2 h3).2 c4).2.1 ) (pv_goto rfl (pv_istore_n rfl rfl   (pn_iinc rfl rfl rfl rfl   (pv_goto rfl ((((H.2.2 c1).2 A1v1 h2).2.2.2.2.2 A1v2 h3).2 c4).2.2)))))))))))))))))))))))))))))
theorem c_span_p {X : gv_X} {d : Nat} {G : gv_Sh} {A : Nat → Nat → Nat} {j : Nat → Nat → Int64} {cc : gv_Rs} {P : gv_O × gv_S → Prop} {n : Nat} {b : Bool} {R : Nat → Nat} (hp0 : oX11 G 0) (p0 : cK A R) (p1 : n < 4294967296) (hP : ∀ A1 : Nat → Nat → Nat, (cK A1 R) ∧ (frK A A1) → P (oc (fun _ => 0) (spSpan R n b).1 (spSpan R n b).2 (G, (mI A1, j), cc))) : EvP X (d + 7) gvm_183 0 (gv_enter [.ref 0, .int (nI n), .int (zo b)] 5) [] (G, (mI A, j), cc) P := by
  have ok : ∀ B x, cK B R ∧ frK A B → spSpan R n b = (0, x) → P (.inl (some (.int (nI x))), (G, (mI B, j), cc)) := fun B x h1 h3 => by
    have := hP B h1
    rw [h3] at this
    exact this
  have no1 : ∀ B, cK B R ∧ frK A B → spSpan R n b = (1, 0) → P (.inr 0, gv_ex (G, (mI B, j), cc)) := fun B h1 h3 => by
    have := hP B h1
    rw [h3] at this
    exact this
  have Lp : ∀ i k B v, k + i = 6 → n ≤ 60 → cK B R → frK A B → v ≤ 9999 → ((k = 0 ∧ v = (if b = true then 0 else 9999)) ∨ (0 < k ∧ v = spnN R n b k)) → EvP X (d + 7) gvm_183 23 [some (.ref 0), some (.int (nI n)), some (.int (zo b)), some (.int (nI v)), some (.int (nI (k + 1)))] [] (G, (mI B, j), cc) P := by
    intro i
    induction i with
    | zero =>
      intro k B v hk hn hK hf hv hg
      obtain rfl : k = 6 := by omega
      refine w183_23 (R := R) hp0 ⟨by omega, fun c1 => ok B _ ⟨hK, hf⟩ ?_, fun c1 => absurd c1 (by omega)⟩
      rcases hg with g | g
      · omega
      · unfold spSpan; rw [if_neg (by omega), ← g.2]
    | succ i ih =>
      intro k B v hk hn hK hf hv hg
      refine w183_23 (R := R) hp0 ⟨by omega, fun c1 => absurd c1 (by omega), fun c1 => ⟨hK, fun C h2 => ?_⟩⟩
      have xS : eqX R (seR R 11 (k + 1)) := eqC_X (se_C R _ (by omega))
      have oS : okW (seR R 11 (k + 1)) := by
        have n := okW_n p0.1
        exact okW_C p0.1 (se_C R _ (by omega)) n.2.2.2.2.2.2.2.2.2.1 n.2.2.2.2.2.2.2.2.2.2.1 n.2.2.2.2.2.2.2.2.2.2.2.1 (show (if 11 = 11 then k + 1 else R 11) < _ by rw [if_pos rfl]; omega) (fun z hz => by
          show (if 128 + z = 11 then _ else R (128 + z)) < _
          rw [if_neg (by omega)]; exact okW_l p0.1 hz)
      have rS : rW (gu C 17 10 (k + 1)) 17 (seR R 11 (k + 1)) := by
        obtain ⟨n1, n2, n3, n4, n5, n6, n7, n8⟩ := h2.2.1.2.2.2.1
        refine rW_n h2.2.1 p0.1 (fun i hi => by unfold seR; rw [if_neg (by omega)]) ⟨n1, n2, n3, n4, n5, n6, rfl, n8⟩ (fun q hq => gu_row hq) rfl
      have q1 := cQ_w h2.1 (lg_of h2.1.2.2.2 (fun q hq => (gu_row (by omega) : gu C 17 10 (k + 1) q = C q))) (fun q a b => gu_row (by omega))
      refine ⟨oS, rS, lg_X p0.1 q1.1.2.2.2 xS, by decide, hn, fun D h3 => ?_⟩
      have q2 := cQ_w q1.1 (lg_X oS h3.2.1 (fun i hi => (xS i hi).symm)) h3.2.2
      have r9 : D 17 9 = puS R n (k + 1) := by
        have := (show D 17 9 = gsR (tbF (seR R 11 (k + 1))) false n (seR R 11 (k + 1)) 9 from h3.1.2.2.2.1.2.2.2.2.2.1)
        rw [gs_S p0.1 xS oS] at this
        exact this
      have l9 : puS R n (k + 1) ≤ 9999 := (okW_n (gs_X oS (tbF R) false n).1).2.2.2.2.2.2.2.2.2.2.1
      have K : cK D R ∧ frK A D := ⟨cQ_K q2.1, frK_tr hf (frK_tr h2.2.2 (frK_tr q1.2 q2.2))⟩
      rw [r9]
      refine ⟨fun c4 => ⟨by omega, by omega, ?_⟩, fun c4 => ⟨by omega, by omega, ?_⟩⟩
      · refine ih (k + 1) D _ (by omega) hn K.1 K.2 (by omega) (Or.inr ⟨by omega, ?_⟩)
        rw [show spnN R n b (k + 1) = if 2147483648 ≤ spnN R n b k then puS R n (k + 1) else if b = true then max (spnN R n b k) (puS R n (k + 1)) else min (spnN R n b k) (puS R n (k + 1)) from rfl]
        rcases hg with ⟨g1, g2⟩ | ⟨g1, g2⟩
        · subst g1
          rw [c4, if_neg (by decide)] at g2
          rw [show spnN R n b 0 = 4294967295 from rfl, if_pos (by omega)]
          omega
        · rw [← g2, if_neg (by omega), c4, if_neg (by decide)]
      · refine ih (k + 1) D _ (by omega) hn K.1 K.2 (by omega) (Or.inr ⟨by omega, ?_⟩)
        rw [show spnN R n b (k + 1) = if 2147483648 ≤ spnN R n b k then puS R n (k + 1) else if b = true then max (spnN R n b k) (puS R n (k + 1)) else min (spnN R n b k) (puS R n (k + 1)) from rfl]
        rcases hg with ⟨g1, g2⟩ | ⟨g1, g2⟩
        · subst g1
          rw [c4, if_pos rfl] at g2
          rw [show spnN R n b 0 = 4294967295 from rfl, if_pos (by omega)]
          omega
        · rw [← g2, if_neg (by omega), c4, if_pos rfl]
  exact w183 hp0 ⟨p1, fun c1 => ⟨fun c2 => Lp 6 0 A 9999 rfl c1.2 p0 (frK_rf A) (by omega) (Or.inl ⟨rfl, by rw [c2]; rfl⟩), fun c2 => Lp 6 0 A 0 rfl c1.2 p0 (frK_rf A) (by omega) (Or.inl ⟨rfl, by rw [c2]; rfl⟩)⟩, fun c1 => no1 A ⟨p0, frK_rf A⟩ (by unfold spSpan; rw [if_pos (by omega)])⟩
theorem w184 {X : gv_X} {d : Nat} {G : gv_Sh} {A : Nat → Nat → Nat} {j : Nat → Nat → Int64} {cc : gv_Rs} {P : gv_O × gv_S → Prop} {p : Nat} {b : Bool} (hp0 : oX11 G 0) (H : (p < 4294967296) ∧ ((A 3 0 ≤ 8) ∧ (((p < A 3 0) → EvP X (d + 2) gvm_184 10 [some (.ref 0), some (.int (nI p)), some (.int (zo b)), some (.int (nI 0)), some (.int (nI 0))] [] (G, (mI A, j), cc) P) ∧ ((¬ p < A 3 0) → P (.inr 1, gv_ex (G, (mI A, j), cc)))))) : EvP X (d + 2) gvm_184 0 (gv_enter [.ref 0, .int (nI p), .int (zo b)] 5) [] (G, (mI A, j), cc) P :=
  (pv_aload_n rfl rfl   (pv_iload_n rfl rfl   (Or.elim (Decidable.em (p < A 3 0)) (fun c1 => pv_virt rfl rfl rfl rfl rfl (oX11_k hp0) rfl rfl rfl (c_needOp (p := p) (A := A) hp0 H.1 H.2.1 c1) (pn_iconst rfl rfl   (pv_istore_n rfl rfl   (pn_iconst rfl rfl   (pv_istore rfl rfl   (H.2.2.1 c1)))))) (fun c1 => pv_virtT rfl rfl rfl rfl rfl (oX11_k hp0) rfl rfl rfl rfl (c_needOp_x (p := p) (A := A) hp0 H.1 H.2.1 c1) (H.2.2.2 c1)))))
theorem w184_10 {X : gv_X} {d : Nat} {G : gv_Sh} {A : Nat → Nat → Nat} {j : Nat → Nat → Int64} {cc : gv_Rs} {P : gv_O × gv_S → Prop} {p : Nat} {b : Bool} {l3 : Nat} {l4 : Nat} {R : Nat → Nat} (hp0 : oX11 G 0) (H : (l4 < 2147483648) ∧ (((A 15 0) < 2147483648) ∧ ((((A 15 0) ≤ l4) → ((b = false) → P (.inl (some (.int (nI l3))), (G, (mI A, j), cc))) ∧ ((b = true) → P (.inl (some (.int (nI 4294967295))), (G, (mI A, j), cc)))) ∧ ((l4 < (A 15 0)) → (okW R) ∧ ((rL A 15 R) ∧ ((l4 < 4294967296) ∧ (((if l4 < R 10 ∧ 1 < 4 then R (128 + 4 * l4 + 1) else 4294967294) < 4294967296) ∧ ((p < 4294967296) ∧ (((¬ (if l4 < R 10 ∧ 1 < 4 then R (128 + 4 * l4 + 1) else 4294967294) = p) → EvP X (d + 2) gvm_184 10 [some (.ref 0), some (.int (nI p)), some (.int (zo b)), some (.int (nI l3)), some (.int (nI (l4 + 1)))] [] (G, (mI A, j), cc) P) ∧ (((if l4 < R 10 ∧ 1 < 4 then R (128 + 4 * l4 + 1) else 4294967294) = p) → ((b = false) → EvP X (d + 2) gvm_184 10 [some (.ref 0), some (.int (nI p)), some (.int (zo b)), some (.int (nI (l3 + 1))), some (.int (nI (l4 + 1)))] [] (G, (mI A, j), cc) P) ∧ ((b = true) → (okW R) ∧ ((rL A 15 R) ∧ ((l4 < 4294967296) ∧ (P (.inl (some (.int (nI (if l4 < R 10 ∧ 0 < 4 then R (128 + 4 * l4 + 0) else 4294967294)))), (G, (mI A, j), cc)))))))))))))))) : EvP X (d + 2) gvm_184 10 [some (.ref 0), some (.int (nI p)), some (.int (zo b)), some (.int (nI l3)), some (.int (nI l4))] [] (G, (mI A, j), cc) P :=
  (pv_iload rfl rfl   (pv_aload_n rfl rfl   (pv_getP rfl rfl (oX11_k hp0) (oX11_3 hp0)   (pv_getP rfl rfl (oX10_k (oX11_3c hp0)) (oX10_14 (oX11_3c hp0))   (pn_getI rfl rfl (oX5_k (oX10_14c (oX11_3c hp0))) rfl   (pn_ic_ge rfl H.1 H.2.1 (fun c1 => (pv_iload_n rfl rfl   (pv_if_eq_zo rfl  (fun c2 => (pv_iload_n rfl rfl   (pv_ireti rfl rfl ((H.2.2.1 c1).1 c2)))) (fun c2 => (pn_iconst (u := 4294967295) rfl (by decide)   (pv_goto rfl (pv_ireti rfl rfl ((H.2.2.1 c1).2 c2)))))))) (fun c1 => (pv_aload_n rfl rfl   (pv_getP rfl rfl (oX11_k hp0) (oX11_3 hp0)   (pv_getP rfl rfl (oX10_k (oX11_3c hp0)) (oX10_14 (oX11_3c hp0))   (pv_iload rfl rfl   (pn_iconst rfl rfl   (pv_virt rfl rfl rfl rfl rfl (oX5_k (oX10_14c (oX11_3c hp0))) rfl rfl rfl (c_logGet (a := l4) (h := 1) (R := R) (A := A) (oX10_14c (oX11_3c hp0)) (H.2.2.2 c1).1 (H.2.2.2 c1).2.1 (H.2.2.2 c1).2.2.1 (by decide) ) (pv_iload_n rfl rfl   (pn_ic_ne rfl (H.2.2.2 c1).2.2.2.1 (H.2.2.2 c1).2.2.2.2.1 (fun c3 => (pn_iinc rfl rfl rfl rfl   (pv_goto rfl ((H.2.2.2 c1).2.2.2.2.2.1 c3)))) (fun c3 => (pv_iload_n rfl rfl   (pv_if_eq_zo rfl  (fun c4 => (pn_iinc rfl rfl rfl rfl   (pn_iinc rfl rfl rfl rfl   (pv_goto rfl (((H.2.2.2 c1).2.2.2.2.2.2 c3).1 c4))))) (fun c4 => (pv_aload_n rfl rfl   (pv_getP rfl rfl (oX11_k hp0) (oX11_3 hp0)   (pv_getP rfl rfl (oX10_k (oX11_3c hp0)) (oX10_14 (oX11_3c hp0))   (pv_iload rfl rfl   (pn_iconst rfl rfl   (pv_virt rfl rfl rfl rfl rfl (oX5_k (oX10_14c (oX11_3c hp0))) rfl rfl rfl (c_logGet (a := l4) (h := 0) (R := R) (A := A) (oX10_14c (oX11_3c hp0)) (((H.2.2.2 c1).2.2.2.2.2.2 c3).2 c4).1 (((H.2.2.2 c1).2.2.2.2.2.2 c3).2 c4).2.1 (((H.2.2.2 c1).2.2.2.2.2.2 c3).2 c4).2.2.1 (by decide) ) (pv_ireti rfl rfl (((H.2.2.2 c1).2.2.2.2.2.2 c3).2 c4).2.2.2))))))))))))))))))))))))))
theorem c_led_p {X : gv_X} {d : Nat} {G : gv_Sh} {A : Nat → Nat → Nat} {j : Nat → Nat → Int64} {cc : gv_Rs} {P : gv_O × gv_S → Prop} {p : Nat} {b : Bool} {R : Nat → Nat} (hp0 : oX11 G 0) (p0 : cK A R) (p1 : p < 4294967296) (hP : ∀ A1 : Nat → Nat → Nat, (cK A1 R) ∧ (frK A A1) → P (oc (fun _ => 1) (spLed R p b).1 (spLed R p b).2 (G, (mI A1, j), cc))) : EvP X (d + 2) gvm_184 0 (gv_enter [.ref 0, .int (nI p), .int (zo b)] 5) [] (G, (mI A, j), cc) P := by
  have ok : ∀ B x, cK B R ∧ frK A B → spLed R p b = (0, x) → P (.inl (some (.int (nI x))), (G, (mI B, j), cc)) := fun B x h1 h3 => by
    have := hP B h1
    rw [h3] at this
    exact this
  have no1 : ∀ B, cK B R ∧ frK A B → spLed R p b = (1, 0) → P (.inr 1, gv_ex (G, (mI B, j), cc)) := fun B h1 h3 => by
    have := hP B h1
    rw [h3] at this
    exact this
  have n := okW_n p0.1
  have ro : rO A 3 R := p0.2.1.1
  have e0 : A 3 0 = R 0 := ro.1
  have rl : rL A 15 R := p0.2.1.2.2.2.2.2.2
  have e1 : A 15 0 = R 10 := rl.1
  have K : cK A R ∧ frK A A := ⟨p0, frK_rf A⟩
  have sp : p < R 0 → ∀ V, (if b = true then ldT R p (R 10) 0 else cntN (ldF R p) (R 10)) = V → spLed R p b = (0, V) := fun hp V e => by
    unfold spLed; rw [if_neg (by omega), e]
  have Lp : p < R 0 → ∀ i k, k + i = R 10 → (b = true → ldT R p i k = ldT R p (R 10) 0) → EvP X (d + 2) gvm_184 10 [some (.ref 0), some (.int (nI p)), some (.int (zo b)), some (.int (nI (if b = true then 0 else cntN (ldF R p) k))), some (.int (nI k))] [] (G, (mI A, j), cc) P := by
    intro hp i
    induction i with
    | zero =>
      intro k hk hl
      have hl2 : b = true → ldT R p (R 10) 0 = 4294967295 := fun z => by
        rw [← hl z]; unfold ldT lstN; exact if_pos rfl
      obtain rfl : k = R 10 := by omega
      refine w184_10 (R := R) hp0 ⟨by omega, by omega, fun c1 => ⟨fun c2 => ok A _ K (sp hp _ ?_), fun c2 => ok A _ K (sp hp _ ?_)⟩, fun c1 => absurd c1 (by omega)⟩
      · rw [c2]; rfl
      · rw [c2, if_pos rfl]; exact hl2 c2
    | succ i ih =>
      intro k hk hl
      have ih := ih (k + 1) (by omega)
      have lk := okW_l p0.1 (k := 4 * k + 1) (by omega)
      have lk : R (128 + 4 * k + 1) < 4294967296 := by rw [Nat.add_assoc]; exact lk
      have cl := cntN_le (ldF R p) k
      have cb : (if b = true then 0 else cntN (ldF R p) k) ≤ k := by split <;> omega
      have h := w184_10 (X := X) (d := d) (G := G) (A := A) (j := j) (cc := cc) (P := P) (p := p) (b := b) (l3 := (if b = true then 0 else cntN (ldF R p) k)) (l4 := k) (R := R) hp0
      rw [show (if k < R 10 ∧ 1 < 4 then R (128 + 4 * k + 1) else 4294967294) = R (128 + 4 * k + 1) from if_pos ⟨by omega, by decide⟩, show (if k < R 10 ∧ 0 < 4 then R (128 + 4 * k + 0) else 4294967294) = R (128 + 4 * k + 0) from if_pos ⟨by omega, by decide⟩] at h
      rw [show cntN (ldF R p) (k + 1) = cntN (ldF R p) k + (ldF R p k).toNat from rfl] at ih
      have ls : lstN (ldF R p) (i + 1) k = if ldF R p k = true then k else lstN (ldF R p) i (k + 1) := rfl
      refine h ⟨by omega, by omega, fun c1 => absurd c1 (by omega), fun c1 => ⟨p0.1, rl, by omega, by omega, p1, fun c3 => ?_, fun c3 => ⟨fun c4 => ?_, fun c4 => ⟨p0.1, rl, by omega, ok A _ K (sp hp _ ?_)⟩⟩⟩⟩
      · have f0 : ldF R p k = false := decide_eq_false c3
        rw [f0] at ih
        refine ih (fun z => (hl z) ▸ ?_)
        unfold ldT
        rw [ls, f0, if_neg (show ¬ false = true by decide), show k + 1 + i = k + (i + 1) by omega]
      · have f0 : ldF R p k = true := decide_eq_true c3
        rw [f0, c4] at ih
        rw [c4]
        exact ih (fun z => absurd z (by decide))
      · have f0 : ldF R p k = true := decide_eq_true c3
        rw [c4, if_pos rfl, ← hl c4]
        unfold ldT
        rw [ls, f0, if_pos rfl, if_neg (by omega)]
  exact w184 hp0 ⟨p1, rO_n ro p0.1, fun c1 => by
    have := Lp (by omega) (R 10) 0 (Nat.zero_add _) (fun _ => rfl)
    rw [show (if b = true then 0 else cntN (ldF R p) 0) = 0 by cases b <;> rfl] at this
    exact this, fun c1 => no1 A K (by unfold spLed; rw [if_pos (by omega)])⟩
