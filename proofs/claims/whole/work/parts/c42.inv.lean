/-! between two calls: what the class and the reference have in common -/
theorem cK_of {A B : Nat → Nat → Nat} {R : Nat → Nat} (h : cK A R) (e : ∀ q, (2 ≤ q ∧ q ≤ 16) ∨ (48 ≤ q ∧ q ≤ 53) ∨ q = 55 ∨ q = 61 → B q = A q) : cK B R := ⟨h.1, rW_fr h.2.1 (fun q a b => e q (by omega)), knI_of h.2.2.1 (e 55 (by omega)), h.2.2.2.1, rRu_of h.2.2.2.2.1 (fun q a b => e q (by omega)), smI_of h.2.2.2.2.2 (e 61 (by omega))⟩
/-- the reference alone -/
def ivM (A : Nat → Nat → Nat) : Prop := A 263 7 ≤ 12 ∧ A 263 9 ≤ 400 ∧ A 263 6 ≤ 1 ∧ ∀ i, i < 400 → A 269 i < 4294967296
/-- the tapes, and the wrong byte -/
def ivT (A : Nat → Nat → Nat) : Prop := A 0 1 = A 263 9 ∧ A 0 2 = A 263 14 ∧ ∀ i, i < A 263 9 → A 1 i < 256 ∧ A 269 i = sx8 (A 1 i)
/-- the images -/
def ivP (A : Nat → Nat → Nat) : Prop := A 0 6 = A 263 6 ∧ (A 263 6 = 1 → okW (A 265) ∧ okLw (A 265) ∧ rW A 32 (A 265) ∧ rRu A 70 (A 265))
/-- the acts -/
def ivQ (A : Nat → Nat → Nat) : Prop := ∃ Q, hI A Q ∧ A 76 1 = A 263 7 ∧ ∀ a, a < A 263 7 → eqV (A 264) (Q a) ∧ ∀ i, i < 368 → A 268 (368 * (A 263 7 - 1 - a) + i) = Q a i
def ivI (A : Nat → Nat → Nat) (j : Nat → Nat → Int64) : Prop := cK A (A 264) ∧ TrJ A j ∧ ivM A ∧ ivT A ∧ ivP A ∧ ivQ A
theorem ivM_of {A B : Nat → Nat → Nat} (h : ivM A) (e : ∀ k, k = 6 ∨ k = 7 ∨ k = 9 → B 263 k = A 263 k) (e9 : B 269 = A 269) : ivM B := by
  unfold ivM
  rw [e 7 (by omega), e 9 (by omega), e 6 (by omega), e9]
  exact h
theorem ivT_of {A B : Nat → Nat → Nat} (h : ivT A) (e : ∀ k, k = 9 ∨ k = 14 → B 263 k = A 263 k) (e9 : B 269 = A 269) (e1 : B 1 = A 1) (e0 : ∀ k, k = 1 ∨ k = 2 → B 0 k = A 0 k) : ivT B := by
  unfold ivT
  rw [e 9 (by omega), e 14 (by omega), e9, e1, e0 1 (by omega), e0 2 (by omega)]
  exact h
theorem ivP_of {A B : Nat → Nat → Nat} (h : ivP A) (e : B 263 6 = A 263 6) (e5 : B 265 = A 265) (e0 : B 0 6 = A 0 6) (f : ∀ q, (32 ≤ q ∧ q ≤ 46) ∨ (70 ≤ q ∧ q ≤ 75) → B q = A q) : ivP B := by
  refine ⟨by rw [e0, e]; exact h.1, fun z => ?_⟩
  obtain ⟨a, b, c, d⟩ := h.2 (by rw [← e]; exact z)
  rw [e5]
  exact ⟨a, b, rW_fr c (fun q x y => f q (by omega)), rRu_of d (fun q x y => f q (by omega))⟩
theorem ivQ_of {A B : Nat → Nat → Nat} (h : ivQ A) (e : B 263 7 = A 263 7) (e4 : eqV (A 264) (B 264)) (e8 : B 268 = A 268) (f : ∀ q, q = 76 ∨ (78 ≤ q ∧ q ≤ 257) → B q = A q) : ivQ B := by
  obtain ⟨Q, h1, h2, h3⟩ := h
  refine ⟨Q, hI_of h1 f, by rw [f 76 (by omega), e]; exact h2, fun a ha => ?_⟩
  rw [e] at ha ⊢
  rw [e8]
  exact ⟨fun i hi => ((h3 a ha).1 i hi).trans (e4 i hi).symm, (h3 a ha).2⟩
/-- nothing is kept of acts -/
theorem ivQ_no {A : Nat → Nat → Nat} (h1 : A 76 1 = 0) (h2 : A 76 2 < 12) (h3 : A 263 7 = 0) : ivQ A := ⟨fun _ _ => 0, ⟨by omega, h2, fun a ha => absurd ha (by omega)⟩, by omega, fun a ha => absurd ha (by omega)⟩
theorem ivQ_2 {A : Nat → Nat → Nat} (h : ivQ A) : A 76 2 < 12 := by
  obtain ⟨Q, h, _⟩ := h
  exact h.2.1
/-- a question -/
theorem ivI_q {A B C : Nat → Nat → Nat} {j jj : Nat → Nat → Int64} (h : ivI A j) (k : cK B (A 264)) (f : frK A B) (q : frQ B C) (t : TrJ C jj) : ivI C jj := by
  have e : ∀ p, p < 17 ∨ (31 < p ∧ p < 55) ∨ (63 < p ∧ p < 262) ∨ p = 264 ∨ p = 265 ∨ p = 268 ∨ p = 269 → C p = A p := fun p hp => (q.1 p (by omega)).trans (f p (by omega) (by omega) (by omega))
  have e3 : ∀ k, k = 6 ∨ k = 7 ∨ k = 9 ∨ k = 14 → C 263 k = A 263 k := fun k hk => (q.2 k hk).trans (by rw [f 263 (by omega) (by omega) (by omega)])
  refine ⟨?_, t, ivM_of h.2.2.1 (fun k hk => e3 k (by omega)) (e 269 (by omega)), ivT_of h.2.2.2.1 (fun k hk => e3 k (by omega)) (e 269 (by omega)) (e 1 (by omega)) (fun k hk => by rw [e 0 (by omega)]), ivP_of h.2.2.2.2.1 (e3 6 (by omega)) (e 265 (by omega)) (by rw [e 0 (by omega)]) (fun p hp => e p (by omega)), ivQ_of h.2.2.2.2.2 (e3 7 (by omega)) (fun i _ => by rw [e 264 (by omega)]) (e 268 (by omega)) (fun p hp => e p (by omega))⟩
  rw [e 264 (by omega)]
  exact cK_of k (fun p hp => q.1 p (by omega))
theorem ivI_0 {A : Nat → Nat → Nat} {j : Nat → Nat → Int64} (h : ivI A j) : ivI (gu A 263 0 0) j := ivI_q h h.1 (frK_rf A) (frQ_0 (frQ_rf A)) (TrJ_of h.2.1 (gu_row (by decide)) rfl)
theorem ivI_j {A : Nat → Nat → Nat} {j k : Nat → Nat → Int64} (h : ivI A j) (e : k 274 = j 274) : ivI A k := ⟨h.1, TrJ_of h.2.1 rfl e, h.2.2⟩
/-- an act -/
theorem ivI_a {A B C : Nat → Nat → Nat} {j jj : Nat → Nat → Int64} {c : Nat} {S : Nat → Nat} {Q : Nat → Nat → Nat} (h : ivI A j) (hQ : hI A Q) (hq : A 76 1 = A 263 7 ∧ ∀ a, a < A 263 7 → eqV (A 264) (Q a) ∧ ∀ i, i < 368 → A 268 (368 * (A 263 7 - 1 - a) + i) = Q a i) (ev : c = 0 → eqV (A 264) S) (a1 : acT c A B (A 264) S Q) (f1 : frJ A B) (a2 : acP c B C S) (f2 : frA B C) (t : TrJ C jj) : ivI C jj := by
  have hm := h.2.2.1.1
  have e : ∀ p, p < 2 ∨ (31 < p ∧ p < 55) ∨ (63 < p ∧ p < 76) ∨ p = 77 ∨ p = 265 ∨ p = 269 → C p = A p := fun p hp => (f2.1 p (by omega)).trans (f1 p (by omega) (by omega) (by omega) (by omega))
  have b4 : ∀ p, 258 ≤ p → B p = A p := fun p hp => f1 p (by omega) (by omega) (by omega) (by omega)
  have e3 : ∀ k, k = 6 ∨ k = 9 ∨ k = 14 → C 263 k = A 263 k := fun k hk => (f2.2 k hk).trans (by rw [b4 263 (by omega)])
  have cb : ∀ p, p < 263 → C p = B p := fun p hp => f2.1 p (by omega)
  have eM : C 263 7 ≤ 12 → ivM C := fun z => ⟨z, by rw [e3 9 (by omega)]; exact h.2.2.1.2.1, by rw [e3 6 (by omega)]; exact h.2.2.1.2.2.1, by rw [e 269 (by omega)]; exact h.2.2.1.2.2.2⟩
  have eT : ivT C := ivT_of h.2.2.2.1 (fun k hk => e3 k (by omega)) (e 269 (by omega)) (e 1 (by omega)) (fun k hk => by rw [e 0 (by omega)])
  have eP : ivP C := ivP_of h.2.2.2.2.1 (e3 6 (by omega)) (e 265 (by omega)) (by rw [e 0 (by omega)]) (fun p hp => e p (by omega))
  by_cases z : c = 0
  · obtain ⟨k1, k2, k3⟩ := a1.1 z
    obtain ⟨m1, m2, m3, m4⟩ := a2.1 z
    have b3 : B 263 7 = A 263 7 := by rw [b4 263 (by omega)]
    have b8 : B 268 = A 268 := b4 268 (by omega)
    have b64 : B 264 = A 264 := b4 264 (by omega)
    rw [b3] at m2 m3 m4
    rw [b8] at m3
    rw [b64] at m4
    refine ⟨by rw [m1]; exact cK_of k1 (fun p hp => cb p (by omega)), t, eM (by omega), eT, eP, hcN (A 264) Q, hI_of k2 (fun p hp => cb p (by omega)), by rw [cb 76 (by omega), k3, m2, hq.1], fun a ha => ?_⟩
    rw [m1, m2]
    rw [m2] at ha
    have ev := ev z
    cases a with
    | zero =>
      refine ⟨fun i hi => (ev i hi).symm, fun i hi => ?_⟩
      show C 268 (368 * (min 12 (A 263 7 + 1) - 1 - 0) + i) = A 264 i
      rw [Nat.sub_zero]
      exact m4 i hi
    | succ a =>
      have ha' : a < A 263 7 := by omega
      obtain ⟨u1, u2⟩ := hq.2 a ha'
      refine ⟨fun i hi => (u1 i hi).trans (ev i hi).symm, fun i hi => ?_⟩
      show C 268 (368 * (min 12 (A 263 7 + 1) - 1 - (a + 1)) + i) = Q a i
      rw [m3 _ i hi (by omega), ← u2 i hi]
      congr 1
      omega
  · obtain rfl := a1.2 z
    obtain ⟨m1, m2, m3⟩ := a2.2 z
    refine ⟨by rw [m1]; exact cK_of h.1 (fun p hp => cb p (by omega)), t, eM (by omega), eT, eP, ivQ_of h.2.2.2.2.2 m3 (fun i _ => by rw [m1]) m2 (fun p hp => cb p (by omega))⟩
/-! the row may change above 1217 -/
theorem evL_e {f g C D : Nat → Nat} : ∀ {n i : Nat} {s : Sv}, (∀ k, i ≤ k → k < i + n → f k = g k ∧ C k = D k) → evL f C n i s = evL g D n i s
  | 0, _, _, _ => rfl
  | n + 1, i, s, h => by
    show evL f C n (i + 1) (evC (f i) (C i) s) = evL g D n (i + 1) (evC (g i) (D i) s)
    rw [(h i (Nat.le_refl _) (by omega)).1, (h i (Nat.le_refl _) (by omega)).2]
    exact evL_e (fun k a b => h k (by omega) (by omega))
theorem okLw_B {R S : Nat → Nat} (h : okLw R) (e : ∀ i, i < 1217 → S i = R i) : okLw S := fun z => by
  rw [e 2 (by omega)] at z
  obtain ⟨a, b⟩ := h z
  rw [e 368 (by omega)]
  refine ⟨a, fun n hn => ?_⟩
  have o := b n hn
  have hl := o.2.2.2.1
  exact okLn_e o (fun y hy => e _ (by omega)) (fun i hi y hy => e _ (by omega))
theorem rRu_B {A : Nat → Nat → Nat} {q : Nat} {R S : Nat → Nat} (h : rRu A q R) (o : okLw R) (e : ∀ i, i < 1217 → S i = R i) : rRu A q S := by
  unfold rRu rLn
  rw [e 2 (by omega), e 368 (by omega)]
  refine ⟨h.1, h.2.1, fun z => ⟨(h.2.2 z).1, fun n hn => ?_⟩⟩
  obtain ⟨hl, ho⟩ := o z
  have hc := (ho n hn).2.2.2.1
  rw [e (369 + 4 * n) (by omega), e (369 + 4 * n + 1) (by omega), e (369 + 4 * n + 2) (by omega), e (369 + 4 * n + 3) (by omega)]
  obtain ⟨a, b, c, d, f⟩ := (h.2.2 z).2 n hn
  exact ⟨a, b, c, d, fun i h1 h2 => by rw [e (417 + 2 * i) (by omega), e (417 + 2 * i + 1) (by omega)]; exact f i h1 h2⟩
def eqT (R S : Nat → Nat) : Prop := ∀ i, i = 0 ∨ i = 2 ∨ (30 ≤ i ∧ i < 102) ∨ (368 ≤ i ∧ i < 1217) → S i = R i
theorem fct_T {R S : Nat → Nat} (h : eqT R S) {p : Nat} (hp : p < 8) (hu : usN S p = usN R p) (t c n : Nat) : fct S t p c n = fct R t p c n := by
  unfold fct
  rw [hu, h (30 + 9 * p + 0) (by omega), h (30 + 9 * p + 1) (by omega), h (30 + 9 * p + 2) (by omega)]
theorem hlS_T {R S : Nat → Nat} (h : eqT R S) {p n : Nat} (hp : p < 8) (hu : usN S p = usN R p) (hn : n < 12) (o : okLn R n) (t : Nat) : hlS S t p n = hlS R t p n := by
  have hc := o.2.2.2.1
  have hs := o.2.2.1
  have e3 : S (369 + 4 * n + 3) = R (369 + 4 * n + 3) := h _ (by omega)
  have e2 : S (369 + 4 * n + 2) = R (369 + 4 * n + 2) := h _ (by omega)
  have e : evL (fun i => fct S t p (S (417 + 2 * i)) (S (417 + 2 * i + 1))) (fun i => S (417 + 2 * i)) (R (369 + 4 * n + 3) - R (369 + 4 * n + 2)) (R (369 + 4 * n + 2)) (0, fun _ => 0) = evL (fun i => fct R t p (R (417 + 2 * i)) (R (417 + 2 * i + 1))) (fun i => R (417 + 2 * i)) (R (369 + 4 * n + 3) - R (369 + 4 * n + 2)) (R (369 + 4 * n + 2)) (0, fun _ => 0) := evL_e (fun k a b => by
    have c1 : S (417 + 2 * k) = R (417 + 2 * k) := h _ (by omega)
    have c2 : S (417 + 2 * k + 1) = R (417 + 2 * k + 1) := h _ (by omega)
    exact ⟨by show fct S t p (S (417 + 2 * k)) (S (417 + 2 * k + 1)) = fct R t p (R (417 + 2 * k)) (R (417 + 2 * k + 1)); rw [c1, c2, fct_T h hp hu], c1⟩)
  simp only [hlS, hld, e2, e3, e]
theorem smN_T {R S : Nat → Nat} (h : eqT R S) {p : Nat} (hp : p < 8) (hu : usN S p = usN R p) (t w : Nat) : ∀ n, n ≤ 12 → (∀ k, k < n → okLn R k) → smN S t p w n = smN R t p w n
  | 0, _, _ => rfl
  | n + 1, hn, o => by
    unfold smN
    rw [smN_T h hp hu t w n (by omega) (fun k hk => o k (by omega)), h (369 + 4 * n) (by omega), h (369 + 4 * n + 1) (by omega), hlS_T h hp hu (by omega) (o n (by omega))]
theorem lsum_T {R S : Nat → Nat} (h : eqT R S) {p : Nat} (hp : p < 8) (hu : usN S p = usN R p) (o : okLw R) (t w : Nat) : lsum S t p w = lsum R t p w := by
  unfold lsum
  rw [h 2 (by omega), h 368 (by omega)]
  by_cases z : R 2 = 1
  · rw [if_pos z, if_pos z]
    exact smN_T h hp hu t w _ (o z).1 (o z).2
  · rw [if_neg z, if_neg z]
theorem cnt_all {f : Nat → Bool} : ∀ {n : Nat}, (∀ k, k < n → f k = true) → cntN f n = n
  | 0, _ => rfl
  | n + 1, h => by
    show cntN f n + (f n).toNat = n + 1
    rw [cnt_all (fun k hk => h k (by omega)), h n (by omega)]; rfl
theorem smI_B {A : Nat → Nat → Nat} {R S : Nat → Nat} (w : okW R) (o : okLw R) (h : smI A R) (e : ∀ i, i < 1217 → S i = R i) : smI A S := fun so p u c d f => by
  rcases h so p u c d f with z | ⟨z, y⟩
  · exact Or.inl z
  · refine Or.inr ⟨by rw [e 0 (by omega)]; exact z, fun T h1 h2 => ?_⟩
    have oS := okLw_B o e
    have oT : okLw T := okLw_of oS (h1 2 (by omega)) (fun i hi => h1 i (by omega))
    have et : tbF S p = tbF R p := tbN_congr (⟨e _ (by omega), e _ (by omega), fun k hk => ⟨e _ (by rw [e _ (by omega)] at hk; have := (okW_o w d).1; omega), e _ (by rw [e _ (by omega)] at hk; have := (okW_o w d).1; omega)⟩⟩ : opEq S R p) 4
    obtain ⟨U, hU⟩ : ∃ U : Nat → Nat, U = fun i => if i = 3 then u else if 12 ≤ i ∧ i < 22 then p else if i < 1217 then T i else R i := ⟨_, rfl⟩
    have g : ∀ i, U i = if i = 3 then u else if 12 ≤ i ∧ i < 22 then p else if i < 1217 then T i else R i := fun i => by rw [hU]
    have e1 : eqS R U := fun i hi => by
      rw [g, if_neg (by omega), if_neg (by omega)]
      by_cases c1 : i < 1217
      · rw [if_pos c1, h1 i (by omega), e i c1]
      · rw [if_neg c1]
    have uu : usN U p = u := by
      unfold usN
      rw [g 3, if_pos rfl]
      exact cnt_all (fun k hk => decide_eq_true (by rw [g, if_neg (by omega), if_pos (by omega)]))
    have e2 : eqT T U := fun i hi => by
      rw [g, if_neg (by omega), if_neg (by omega), if_pos (by omega)]
    rw [y U e1 uu, et]
    exact lsum_T e2 d (uu.trans h2.symm) oT _ _
theorem cK_B {A : Nat → Nat → Nat} {R S : Nat → Nat} (h : cK A R) (e : ∀ i, i < 1217 → S i = R i) : cK A S := by
  obtain ⟨o, r, k, l, u, s⟩ := h
  exact ⟨okW_lo o (fun i hi => e i (by omega)), rW_lo r o (fun i hi => e i (by omega)), knI_w o k (e 0 (by omega)) (fun i a b => e i (by omega)), okLw_B l e, rRu_B u l e, smI_B o l s e⟩
theorem eqV_X {R S : Nat → Nat} (h : eqX R S) : eqV R S := fun i hi => h i (by omega)
theorem eqV_bo (R : Nat → Nat) : eqV R (boR R) := fun i hi => eqG_bo R i (by omega)
theorem eqV_se {R : Nat → Nat} {k v : Nat} (h : k ≠ 0 ∧ k ≠ 2 ∧ k < 30) : eqV R (boR (seR R k v)) := fun i hi => (eqG_bo _ i (by omega)).trans (seR_ne (by omega))
theorem eqV_pu {R : Nat → Nat} {k p : Nat} (hk : k < 10) : eqV R (puN R k p) := fun i hi => by
  unfold puN
  rw [seR_ne (by omega), eqG_bo _ i (by omega), seR_ne (by omega)]
