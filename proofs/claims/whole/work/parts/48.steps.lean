/-! steps of guests: what stays, what is in bounds -/
def eqG (R S : Nat → Nat) : Prop := ∀ i, ¬ (102 ≤ i ∧ i < 128) → S i = R i
theorem eqG_rf (R : Nat → Nat) : eqG R R := fun _ _ => rfl
theorem eqG_tr {R S T : Nat → Nat} (h : eqG R S) (h2 : eqG S T) : eqG R T := fun i hi => (h2 i hi).trans (h i hi)
theorem eqG_ct (R : Nat → Nat) {g : Nat} (hg : g < 2) : eqG R (ctR R g) := fun i hi => by unfold ctR; rw [if_neg (by omega), if_neg (by omega)]
theorem eqG_ck (R : Nat → Nat) {g : Nat} (hg : g < 2) (n : Nat) : eqG R (ckR R g n) := fun i hi => by unfold ckR; rw [if_neg (by omega)]
theorem eqG_md (R : Nat → Nat) {g : Nat} (hg : g < 2) (m : Nat) : eqG R (mdR R g m) := fun i hi => by unfold mdR; rw [if_neg (by omega)]
theorem eqG_go (R : Nat → Nat) (c : Mc) {g : Nat} (hg : g < 2) (b : Nat) : eqG R (goR R c g b) := fun i hi => by unfold goR; rw [if_neg (by omega), if_neg (by omega), if_neg (by omega), if_neg (by omega)]
theorem usN_G {R S : Nat → Nat} (h : eqG R S) (p : Nat) (h3 : R 3 ≤ 10) : usN S p = usN R p := by
  unfold usN
  rw [h 3 (by omega)]
  exact cntN_congr (fun k hk => by rw [h (12 + k) (by omega)])
theorem fct_G {R S : Nat → Nat} (h : eqG R S) {p : Nat} (hp : p < 8) (h3 : R 3 ≤ 10) (t c n : Nat) : fct S t p c n = fct R t p c n := by
  unfold fct
  rw [usN_G h p h3, h (30 + 9 * p + 0) (by omega), h (30 + 9 * p + 1) (by omega), h (30 + 9 * p + 2) (by omega)]
theorem hlS_G {R S : Nat → Nat} (h : eqG R S) {p : Nat} (hp : p < 8) (h3 : R 3 ≤ 10) (t n : Nat) : hlS S t p n = hlS R t p n := by
  unfold hlS hld
  have e1 : (fun i => fct S t p (S (417 + 2 * i)) (S (417 + 2 * i + 1))) = (fun i => fct R t p (R (417 + 2 * i)) (R (417 + 2 * i + 1))) := by
    funext i
    rw [h (417 + 2 * i) (by omega), h (417 + 2 * i + 1) (by omega), fct_G h hp h3]
  have e2 : (fun i => S (417 + 2 * i)) = (fun i => R (417 + 2 * i)) := by
    funext i
    rw [h (417 + 2 * i) (by omega)]
  rw [e1, e2, h (369 + 4 * n + 3) (by omega), h (369 + 4 * n + 2) (by omega)]
theorem smN_G {R S : Nat → Nat} (h : eqG R S) {p : Nat} (hp : p < 8) (h3 : R 3 ≤ 10) (t w : Nat) : ∀ n, smN S t p w n = smN R t p w n
  | 0 => rfl
  | n + 1 => by
    unfold smN
    rw [smN_G h hp h3 t w n, h (369 + 4 * n) (by omega), h (369 + 4 * n + 1) (by omega), hlS_G h hp h3]
theorem lsum_G {R S : Nat → Nat} (h : eqG R S) {p : Nat} (hp : p < 8) (h3 : R 3 ≤ 10) (t w : Nat) : lsum S t p w = lsum R t p w := by
  unfold lsum
  rw [h 2 (by omega), h 368 (by omega), smN_G h hp h3]
theorem mOp_G {R S : Nat → Nat} (h : eqG R S) {o p : Nat} (hp : p < 8) (hl : R (30 + 9 * p + 0) ≤ 3) (c : Mc) : mOp o S p c = mOp o R p c := mOp_congr ⟨h _ (by omega), h _ (by omega), fun k hk => ⟨h _ (by rw [h _ (by omega)] at hk; omega), h _ (by rw [h _ (by omega)] at hk; omega)⟩⟩
theorem okW_G {R S : Nat → Nat} (h : okW R) (e : eqG R S) (hg : ∀ g, g < 2 → okGu (fun i => S (102 + 13 * g + i))) : okW S := by
  obtain ⟨h1, h2, h3, h4, h5, h6, h7, h8⟩ := h
  refine ⟨?_, fun k hk => ?_, fun k hk => ?_, fun k hk => ?_, fun p hp => ?_, fun p hp => ?_, hg, fun k hk => ?_⟩
  · rw [e 0 (by omega), e 1 (by omega), e 2 (by omega), e 3 (by omega), e 4 (by omega), e 5 (by omega), e 6 (by omega), e 7 (by omega), e 8 (by omega), e 9 (by omega), e 10 (by omega), e 11 (by omega)]
    exact h1
  · rw [e _ (by omega)]; exact h2 k hk
  · rw [e 3 (by omega)] at hk
    rw [e _ (by omega), e 0 (by omega)]; exact h3 k hk
  · rw [e _ (by omega)]; exact h4 k hk
  · obtain ⟨a1, a2, a3, a4⟩ := h5 p hp
    refine ⟨?_, ?_, ?_, fun k hk => ?_⟩
    · show S (30 + 9 * p + 0) ≤ 3
      rw [e _ (by omega)]; exact a1
    · show S (30 + 9 * p + 1) ≤ 1
      rw [e _ (by omega)]; exact a2
    · show S (30 + 9 * p + 2) ≤ 1
      rw [e _ (by omega)]; exact a3
    · show S (30 + 9 * p + (3 + 2 * k)) ≤ 10 ∧ S (30 + 9 * p + (3 + 2 * k + 1)) ≤ 7
      rw [e _ (by omega), e _ (by omega)]; exact a4 k hk
  · rw [e 0 (by omega)] at hp
    have : R 0 ≤ 8 := h1.1
    rw [e _ (by omega)]; exact h6 p hp
  · rw [e _ (by omega)]; exact h8 k hk
theorem okLw_G {R S : Nat → Nat} (h : okLw R) (e : eqG R S) : okLw S := by
  intro h2
  rw [e 2 (by omega)] at h2
  obtain ⟨h3, h4⟩ := h h2
  rw [e 368 (by omega)]
  refine ⟨h3, fun n hn => ?_⟩
  obtain ⟨a1, a2, a3, a4, a5, t, a6, a7⟩ := h4 n hn
  have e2 : (fun i => S (417 + 2 * i)) = (fun i => R (417 + 2 * i)) := by
    funext i
    rw [e (417 + 2 * i) (by omega)]
  unfold okLn
  rw [e (369 + 4 * n) (by omega), e (369 + 4 * n + 1) (by omega), e (369 + 4 * n + 2) (by omega), e (369 + 4 * n + 3) (by omega), e2]
  exact ⟨a1, a2, a3, a4, fun i h1 h2 => by rw [e (417 + 2 * i) (by omega), e (417 + 2 * i + 1) (by omega)]; exact a5 i h1 h2, t, a6, a7⟩
theorem okW_ct {R : Nat → Nat} (h : okW R) {g : Nat} (hg : g < 2) : okW (ctR R g) := by
  refine okW_G h (eqG_ct R hg) (fun f hf => ?_)
  have h1 := okW_g h hf
  have h2 := okW_n h
  by_cases e : f = g
  · subst e
    refine ⟨?_, ?_, ?_, ?_, ?_, fun k hk => ?_⟩
    · show ctR R f (102 + 13 * f + 0) ≤ 12
      unfold ctR; rw [if_pos rfl]; omega
    · show ctR R f (102 + 13 * f + 1) ≤ 3
      unfold ctR; rw [if_neg (by omega), if_neg (by omega)]; exact h1.2.1
    · show ctR R f (102 + 13 * f + 2) ≤ 1
      unfold ctR; rw [if_neg (by omega), if_pos rfl]; omega
    · show ctR R f (102 + 13 * f + 3) ≤ 6 ∧ ctR R f (102 + 13 * f + 3) % 2 = 0
      unfold ctR; rw [if_neg (by omega), if_neg (by omega)]; exact h1.2.2.2.1
    · show ctR R f (102 + 13 * f + 4) ≤ 7
      unfold ctR; rw [if_neg (by omega), if_neg (by omega)]; exact h1.2.2.2.2
    · show ctR R f (102 + 13 * f + (5 + k)) ≤ 3
      unfold ctR; rw [if_neg (by omega), if_neg (by omega)]; exact okW_gc h hf hk
  · have z : ∀ i, i < 13 → ctR R g (102 + 13 * f + i) = R (102 + 13 * f + i) := fun i hi => by unfold ctR; rw [if_neg (by omega), if_neg (by omega)]
    refine ⟨?_, ?_, ?_, ?_, ?_, fun k hk => ?_⟩
    · show ctR R g (102 + 13 * f + 0) ≤ 12
      rw [z 0 (by omega)]; exact h1.1
    · show ctR R g (102 + 13 * f + 1) ≤ 3
      rw [z 1 (by omega)]; exact h1.2.1
    · show ctR R g (102 + 13 * f + 2) ≤ 1
      rw [z 2 (by omega)]; exact h1.2.2.1
    · show ctR R g (102 + 13 * f + 3) ≤ 6 ∧ ctR R g (102 + 13 * f + 3) % 2 = 0
      rw [z 3 (by omega)]; exact h1.2.2.2.1
    · show ctR R g (102 + 13 * f + 4) ≤ 7
      rw [z 4 (by omega)]; exact h1.2.2.2.2
    · show ctR R g (102 + 13 * f + (5 + k)) ≤ 3
      rw [z (5 + k) (by omega)]; exact okW_gc h hf hk
/-- one guest's thirteen in bounds, the other's as they were -/
theorem okW_one {R S : Nat → Nat} (h : okW R) (e : eqG R S) {g : Nat} (hg : g < 2) (h1 : okGu (fun i => S (102 + 13 * g + i))) (h2 : ∀ f i, f < 2 → f ≠ g → i < 13 → S (102 + 13 * f + i) = R (102 + 13 * f + i)) : okW S := by
  refine okW_G h e (fun f hf => ?_)
  by_cases q : f = g
  · subst q; exact h1
  · have h3 := okW_g h hf
    refine ⟨?_, ?_, ?_, ?_, ?_, fun k hk => ?_⟩
    · show S (102 + 13 * f + 0) ≤ 12
      rw [h2 f 0 hf q (by omega)]; exact h3.1
    · show S (102 + 13 * f + 1) ≤ 3
      rw [h2 f 1 hf q (by omega)]; exact h3.2.1
    · show S (102 + 13 * f + 2) ≤ 1
      rw [h2 f 2 hf q (by omega)]; exact h3.2.2.1
    · show S (102 + 13 * f + 3) ≤ 6 ∧ S (102 + 13 * f + 3) % 2 = 0
      rw [h2 f 3 hf q (by omega)]; exact h3.2.2.2.1
    · show S (102 + 13 * f + 4) ≤ 7
      rw [h2 f 4 hf q (by omega)]; exact h3.2.2.2.2
    · show S (102 + 13 * f + (5 + k)) ≤ 3
      rw [h2 f (5 + k) hf q (by omega)]; exact okW_gc h hf hk
theorem okW_ck {R : Nat → Nat} (h : okW R) {g : Nat} (hg : g < 2) (n : Nat) : okW (ckR R g n) := by
  have h1 := okW_g h hg
  have z : ∀ f i, f < 2 → (f ≠ g ∨ i ≠ 4) → i < 13 → ckR R g n (102 + 13 * f + i) = R (102 + 13 * f + i) := fun f i hf q hi => by unfold ckR; rw [if_neg (by omega)]
  refine okW_one h (eqG_ck R hg n) hg ⟨?_, ?_, ?_, ?_, ?_, fun k hk => ?_⟩ (fun f i hf q hi => z f i hf (Or.inl q) hi)
  · show ckR R g n (102 + 13 * g + 0) ≤ 12
    rw [z g 0 hg (by omega) (by omega)]; exact h1.1
  · show ckR R g n (102 + 13 * g + 1) ≤ 3
    rw [z g 1 hg (by omega) (by omega)]; exact h1.2.1
  · show ckR R g n (102 + 13 * g + 2) ≤ 1
    rw [z g 2 hg (by omega) (by omega)]; exact h1.2.2.1
  · show ckR R g n (102 + 13 * g + 3) ≤ 6 ∧ ckR R g n (102 + 13 * g + 3) % 2 = 0
    rw [z g 3 hg (by omega) (by omega)]; exact h1.2.2.2.1
  · show ckR R g n (102 + 13 * g + 4) ≤ 7
    unfold ckR; rw [if_pos rfl]; omega
  · show ckR R g n (102 + 13 * g + (5 + k)) ≤ 3
    rw [z g (5 + k) hg (by omega) (by omega)]; exact okW_gc h hg hk
theorem okW_go {R : Nat → Nat} (h : okW R) {c : Mc} (hc : okM c) {g b : Nat} (hg : g < 2) (hb : b ≤ 6) (hb2 : b % 2 = 0) : okW (goR R c g b) := by
  have h1 := okW_g h hg
  refine okW_one h (eqG_go R c hg b) hg ⟨?_, ?_, ?_, ?_, ?_, fun k hk => ?_⟩ (fun f i hf q hi => by unfold goR; rw [if_neg (by omega), if_neg (by omega), if_neg (by omega), if_neg (by omega)])
  · show goR R c g b (102 + 13 * g + 0) ≤ 12
    unfold goR; rw [if_pos rfl]; omega
  · show goR R c g b (102 + 13 * g + 1) ≤ 3
    unfold goR; rw [if_neg (by omega), if_pos rfl]; exact hc.1
  · show goR R c g b (102 + 13 * g + 2) ≤ 1
    unfold goR; rw [if_neg (by omega), if_neg (by omega), if_neg (by omega), if_neg (by omega)]; exact h1.2.2.1
  · show goR R c g b (102 + 13 * g + 3) ≤ 6 ∧ goR R c g b (102 + 13 * g + 3) % 2 = 0
    have := hc.2.2.1
    unfold goR; rw [if_neg (by omega), if_neg (by omega), if_pos rfl]; omega
  · show goR R c g b (102 + 13 * g + 4) ≤ 7
    unfold goR; rw [if_neg (by omega), if_neg (by omega), if_neg (by omega), if_neg (by omega)]; exact h1.2.2.2.2
  · show goR R c g b (102 + 13 * g + (5 + k)) ≤ 3
    unfold goR; rw [if_neg (by omega), if_neg (by omega), if_neg (by omega), if_pos (by omega)]; exact hc.2.2.2.2.2 _ (Nat.mod_lt _ (by decide))
theorem okW_md {R : Nat → Nat} (h : okW R) {g m : Nat} (hg : g < 2) (hm : m ≤ 1) : okW (mdR R g m) := by
  have h1 := okW_g h hg
  have z : ∀ f i, f < 2 → (f ≠ g ∨ i ≠ 2) → i < 13 → mdR R g m (102 + 13 * f + i) = R (102 + 13 * f + i) := fun f i hf q hi => by unfold mdR; rw [if_neg (by omega)]
  refine okW_one h (eqG_md R hg m) hg ⟨?_, ?_, ?_, ?_, ?_, fun k hk => ?_⟩ (fun f i hf q hi => z f i hf (Or.inl q) hi)
  · show mdR R g m (102 + 13 * g + 0) ≤ 12
    rw [z g 0 hg (by omega) (by omega)]; exact h1.1
  · show mdR R g m (102 + 13 * g + 1) ≤ 3
    rw [z g 1 hg (by omega) (by omega)]; exact h1.2.1
  · show mdR R g m (102 + 13 * g + 2) ≤ 1
    unfold mdR; rw [if_pos rfl]; exact hm
  · show mdR R g m (102 + 13 * g + 3) ≤ 6 ∧ mdR R g m (102 + 13 * g + 3) % 2 = 0
    rw [z g 3 hg (by omega) (by omega)]; exact h1.2.2.2.1
  · show mdR R g m (102 + 13 * g + 4) ≤ 7
    rw [z g 4 hg (by omega) (by omega)]; exact h1.2.2.2.2
  · show mdR R g m (102 + 13 * g + (5 + k)) ≤ 3
    rw [z g (5 + k) hg (by omega) (by omega)]; exact okW_gc h hg hk
theorem okM_gd {R : Nat → Nat} (h : okW R) {g p : Nat} (hg : g < 2) (hp : p < 8) : okM (mOp 0 R p (gM R g (R (102 + 13 * g + 2)) 0)) := okM_op h hp (gM_ok h hg (okW_g h hg).2.2.1 (by omega) (by omega))
theorem okM_gl {R : Nat → Nat} (h : okW R) {g p : Nat} (hg : g < 2) (hp : p < 8) : okM (mOp 0 R p (gM R g 0 (R 5))) := okM_op h hp (gM_ok h hg (by omega) (okW_n h).2.2.2.2.2.1 (okW_n h).2.2.2.2.2.2.1)
theorem okW_do {R : Nat → Nat} (h : okW R) {g p : Nat} (hg : g < 2) (hp : p < 8) : okW (doR R g p) := okW_go (okW_md h hg (okM_gd h hg hp).2.1) (okM_gd h hg hp) hg (by omega) (by omega)
theorem okW_le {R : Nat → Nat} (h : okW R) {g p : Nat} (hg : g < 2) (hp : p < 8) : okW (leR R g p) := okW_go h (okM_gl h hg hp) hg (okW_n h).2.2.2.2.2.1 (okW_n h).2.2.2.2.2.2.1
theorem eqG_do (R : Nat → Nat) {g : Nat} (hg : g < 2) (p : Nat) : eqG R (doR R g p) := eqG_tr (eqG_md R hg _) (eqG_go _ _ hg _)
theorem eqG_le (R : Nat → Nat) {g : Nat} (hg : g < 2) (p : Nat) : eqG R (leR R g p) := eqG_go _ _ hg _
/-- the hosted guest's op, how it was met, its row -/
def hoP (R : Nat → Nat) : Nat := R (12 + R (102 + 13 * 1 + 0))
def hoW (R : Nat → Nat) : Nat := if R 3 ≤ R (102 + 13 * 1 + 0) then 4294967295 else if trp R (hoP R) (R (102 + 13 * 1 + 2)) = true then 0 else if R (30 + 9 * hoP R + 1) = 1 ∨ R (30 + 9 * hoP R + 2) = 1 then 1 else if (mOp 0 R (hoP R) (gM R 1 0 (R 5))).2.1 = 1 then 2 else 4294967295
def hoB (R : Nat → Nat) : Nat → Nat := if trp R (hoP R) (R (102 + 13 * 1 + 2)) = true then ctR R 1 else if R (30 + 9 * hoP R + 1) = 1 ∨ R (30 + 9 * hoP R + 2) = 1 then doR R 1 (hoP R) else leR R 1 (hoP R)
def hoR (R T : Nat → Nat) : Nat → Nat := if R 3 ≤ R (102 + 13 * 1 + 0) then R else ckR (hoB R) 1 (1 + (if hoW R ≤ 1 then R 6 + lsum R (T (hoP R)) (hoP R) 0 else 0))
theorem eqG_ba (R : Nat → Nat) : eqG R (baR R) := by
  unfold baR
  split
  · exact eqG_rf R
  split
  · exact eqG_tr (eqG_ct R (by omega)) (eqG_ck _ (by omega) _)
  · exact eqG_tr (eqG_do R (by omega) _) (eqG_ck _ (by omega) _)
theorem eqG_hb (R : Nat → Nat) : eqG R (hoB R) := by
  unfold hoB
  split
  · exact eqG_ct R (by omega)
  split
  · exact eqG_do R (by omega) _
  · exact eqG_le R (by omega) _
theorem eqG_ho (R T : Nat → Nat) : eqG R (hoR R T) := by
  unfold hoR
  split
  · exact eqG_rf R
  · exact eqG_tr (eqG_hb R) (eqG_ck _ (by omega) _)
theorem okW_ba {R : Nat → Nat} (h : okW R) : okW (baR R) := by
  have h1 := okW_n h
  unfold baR
  split
  · exact h
  · rename_i q
    have hp : R (12 + R (102 + 13 * 0 + 0)) < 8 := okW_p h (by omega)
    split
    · exact okW_ck (okW_ct h (by omega)) (by omega) _
    · exact okW_ck (okW_do h (by omega) hp) (by omega) _
theorem okW_ho {R : Nat → Nat} (h : okW R) (T : Nat → Nat) : okW (hoR R T) := by
  have h1 := okW_n h
  unfold hoR
  split
  · exact h
  · rename_i q
    have hp : hoP R < 8 := okW_p h (by omega)
    refine okW_ck ?_ (by omega) _
    unfold hoB
    split
    · exact okW_ct h (by omega)
    split
    · exact okW_do h (by omega) hp
    · exact okW_le h (by omega) hp
