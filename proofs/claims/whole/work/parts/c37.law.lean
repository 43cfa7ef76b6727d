/-! the law that is read is in order -/
def tyX : List (Nat × Nat) → Sy → Option Sy
  | [], s => some s
  | (c, _) :: l, s => match tyC c s with
    | none => none
    | some u => tyX l u
theorem tyX_app {m : List (Nat × Nat)} : ∀ {l : List (Nat × Nat)} {s u : Sy}, tyX l s = some u → tyX (l ++ m) s = tyX m u
  | [], s, u, h => by cases h; rfl
  | (c, v) :: l, s, u, h => by
    show (match tyC c s with | none => none | some w => tyX (l ++ m) w) = tyX m u
    have h : (match tyC c s with | none => none | some w => tyX l w) = some u := h
    cases e : tyC c s with
    | none => rw [e] at h; cases h
    | some w => rw [e] at h; exact tyX_app h
/-- u is s with one more -/
def upT (s u : Sy) (b : Bool) : Prop := u.1 = s.1 + 1 ∧ u.2 s.1 = b ∧ ∀ x, x < s.1 → u.2 x = s.2 x
def okX (l : List (Nat × Nat)) : Prop := ∀ k, k < l.length → (gtC l k).1 ≤ 16 ∧ (gtC l k).2 ≤ 999
theorem okX_nil : okX [] := fun k h => absurd h (Nat.not_lt_zero k)
theorem okX_cons {a : Nat × Nat} {l : List (Nat × Nat)} (h1 : a.1 ≤ 16) (h2 : a.2 ≤ 999) (h : okX l) : okX (a :: l)
  | 0, _ => ⟨h1, h2⟩
  | k + 1, hk => h k (Nat.lt_of_succ_lt_succ hk)
theorem okX_app : ∀ {l m : List (Nat × Nat)}, okX l → okX m → okX (l ++ m)
  | [], _, _, h => h
  | a :: l, m, h1, h2 => okX_cons (h1 0 (Nat.succ_pos _)).1 (h1 0 (Nat.succ_pos _)).2 (okX_app (l := l) (fun k hk => h1 (k + 1) (Nat.succ_lt_succ hk)) h2)
/-- codes that put one more onto the stack -/
def psh (l : List (Nat × Nat)) (s : Sy) (b : Bool) : Prop := okX l ∧ ∃ u, tyX l s = some u ∧ upT s u b
/-- codes that leave as many -/
def tlh (l : List (Nat × Nat)) (s : Sy) (b : Bool) : Prop := okX l ∧ ∀ v, upT s v b → ∃ u, tyX l v = some u ∧ upT s u b
theorem psh_app {l m : List (Nat × Nat)} {s : Sy} {b : Bool} (h1 : psh l s b) (h2 : tlh m s b) : psh (l ++ m) s b := by
  obtain ⟨o1, u, e1, t1⟩ := h1
  obtain ⟨w, e2, t2⟩ := h2.2 u t1
  exact ⟨okX_app o1 h2.1, w, (tyX_app e1).trans e2, t2⟩
theorem tlh_nil {s : Sy} {b : Bool} : tlh [] s b := ⟨okX_nil, fun v h => ⟨v, rfl, h⟩⟩
theorem ty_push {c : Nat} {s : Sy} (h : c ≤ 10) (hs : s.1 < 32) : ∃ u, tyC c s = some u ∧ upT s u (decide (7 ≤ c ∧ c ≤ 9)) := by
  unfold tyC
  rw [if_pos h, if_pos hs]
  refine ⟨_, rfl, rfl, if_pos rfl, fun x hx => if_neg (by omega)⟩
theorem ty_not {s u : Sy} (h : upT s u true) : tyC 14 u = some u := by
  unfold tyC
  rw [if_neg (by decide), if_pos rfl, if_pos ⟨by rw [h.1]; omega, by rw [h.1]; exact h.2.1⟩]
theorem ty_join {c : Nat} {s v u : Sy} {b : Bool} (hc : c = 11 ∨ c = 12 ∨ c = 13 ∨ c = 15 ∨ c = 16) (hb : b = decide (15 ≤ c)) (h1 : upT s v b) (h2 : upT v u b) : ∃ w, tyC c u = some w ∧ upT s w (!decide (c = 11)) := by
  have e : u.1 = s.1 + 2 := by rw [h2.1, h1.1]
  have k1 : u.1 - 1 = v.1 := by rw [h2.1]; rfl
  have k2 : u.1 - 1 - 1 = s.1 := by rw [e]; rfl
  unfold tyC
  rw [if_neg (by omega), if_neg (by omega), if_pos ⟨by omega, by omega, by rw [k2, h2.2.2 s.1 (by rw [h1.1]; omega), h1.2.1, hb], by rw [k1, h2.2.1, hb]⟩]
  refine ⟨_, rfl, by show u.1 - 1 = s.1 + 1; omega, ?_, fun x hx => ?_⟩
  · show (if s.1 = u.1 - 1 - 1 then !decide (c = 11) else u.2 s.1) = _
    rw [if_pos k2.symm]
  · show (if x = u.1 - 1 - 1 then !decide (c = 11) else u.2 x) = _
    rw [if_neg (by omega), h2.2.2 x (by rw [h1.1]; omega), h1.2.2 x hx]
theorem psh_1 {c n : Nat} {s : Sy} {b : Bool} (h : c ≤ 10) (hn : n ≤ 999) (hs : s.1 < 32) (hb : b = decide (7 ≤ c ∧ c ≤ 9)) : psh [(c, n)] s b := by
  obtain ⟨u, e, t⟩ := ty_push h hs
  refine ⟨okX_cons (by show c ≤ 16; omega) hn okX_nil, u, ?_, by rw [hb]; exact t⟩
  show (match tyC c s with | none => none | some w => tyX [] w) = some u
  rw [e]; rfl
/-- two of a kind and what joins them -/
theorem tlh_join {c : Nat} {l m : List (Nat × Nat)} {s : Sy} {b : Bool} (hc : c = 11 ∨ c = 15 ∨ c = 16) (hb : b = decide (15 ≤ c)) (h1 : ∀ v, upT s v b → psh l v b) (h2 : tlh m s b) (ho : okX l) : tlh (l ++ ([(c, 0)] ++ m)) s b := by
  refine ⟨okX_app ho (okX_app (okX_cons (by show c ≤ 16; omega) (Nat.zero_le _) okX_nil) h2.1), fun v hv => ?_⟩
  obtain ⟨_, u, e1, t1⟩ := h1 v hv
  obtain ⟨w, e2, t2⟩ := ty_join (by omega) hb hv t1
  have hb2 : (!decide (c = 11)) = b := by rw [hb]; rcases hc with rfl | rfl | rfl <;> rfl
  rw [hb2] at t2
  obtain ⟨x, e3, t3⟩ := h2.2 w t2
  refine ⟨x, (tyX_app e1).trans ?_, t3⟩
  show (match tyC c u with | none => none | some w => tyX m w) = some x
  rw [e2]; exact e3
theorem ptS_t {t : Nat → Nat} {E i : Nat} {s : Sy} (hi : i ≤ E) (h : (ptS t E i).1 = true) (hs : s.1 < 32) : psh (ptS t E i).2.1 s false := by
  unfold ptS at h ⊢
  split
  · rename_i c
    rw [if_pos c] at h
    have v := nmV_lt (t := t) (h := 999) hi (by omega)
    have h : (!decide (nmV t E i 999 = 4294967295)) = true := h
    have nv : ¬ nmV t E i 999 = 4294967295 := fun z => by rw [decide_eq_true z] at h; cases h
    exact psh_1 (by decide) (by omega) hs (by decide)
  · rename_i c
    rw [if_neg c] at h
    have v := wpR_le t (skB t E i) (ltE t E (skB t E i))
    have h : (!decide (wpR t (skB t E i) (ltE t E (skB t E i)) = 4294967295)) = true := h
    have nv : ¬ wpR t (skB t E i) (ltE t E (skB t E i)) = 4294967295 := fun z => by rw [decide_eq_true z] at h; cases h
    exact psh_1 (by omega) (Nat.zero_le _) hs (decide_eq_false (by omega)).symm
theorem smL_t {t : Nat → Nat} {E : Nat} : ∀ {f i : Nat} {s : Sy}, i ≤ E → (smL t E f i).1 = true → s.1 + 1 < 32 → tlh (smL t E f i).2.1 s false
  | 0, i, s, hi, h, hs => tlh_nil
  | f + 1, i, s, hi, h, hs => by
    have st : smL t E (f + 1) i = if sgB t E i 43 = true then (if (ptS t E (sgE t E i 43)).1 = true then ((smL t E f (ptS t E (sgE t E i 43)).2.2.1).1, (ptS t E (sgE t E i 43)).2.1 ++ ([(11, 0)] ++ (smL t E f (ptS t E (sgE t E i 43)).2.2.1).2.1), (smL t E f (ptS t E (sgE t E i 43)).2.2.1).2.2) else (false, [], 0, (ptS t E (sgE t E i 43)).2.2.2)) else (true, [], skB t E i, skB t E i) := rfl
    rw [st] at h ⊢
    have g := sgE_b (t := t) (c := 43) hi
    by_cases c1 : sgB t E i 43 = true
    · rw [if_pos c1] at h ⊢
      by_cases c2 : (ptS t E (sgE t E i 43)).1 = true
      · rw [if_pos c2] at h ⊢
        have b := ptS_b g.2.1 c2
        have p := fun v (hv : v.1 < 32) => ptS_t (s := v) g.2.1 c2 hv
        exact tlh_join (Or.inl rfl) (by decide) (fun v hv => p v (by rw [hv.1]; exact hs)) (smL_t b.2 h hs) (p (0, fun _ => false) (by decide)).1
      · rw [if_neg c2] at h; cases h
    · rw [if_neg c1]; exact tlh_nil
theorem suS_t {t : Nat → Nat} {E i : Nat} {s : Sy} (hi : i ≤ E) (h : (suS t E i).1 = true) (hs : s.1 + 1 < 32) : psh (suS t E i).2.1 s false := by
  unfold suS at h ⊢
  by_cases c : (ptS t E i).1 = true
  · rw [if_pos c] at h ⊢
    exact psh_app (ptS_t hi c (by omega)) (smL_t (ptS_b hi c).2 h hs)
  · rw [if_neg c] at h; cases h
theorem psh_cmp {c : Nat} {l m : List (Nat × Nat)} {s : Sy} (hc : c = 12 ∨ c = 13) (h1 : psh l s false) (h2 : ∀ v, upT s v false → psh m v false) (ho : okX m) : psh (l ++ (m ++ [(c, 0)])) s true := by
  obtain ⟨o1, v, e1, t1⟩ := h1
  obtain ⟨_, u, e2, t2⟩ := h2 v t1
  obtain ⟨w, e3, t3⟩ := ty_join (c := c) (by omega) (by rcases hc with rfl | rfl <;> rfl) t1 t2
  have hb2 : (!decide (c = 11)) = true := by rcases hc with rfl | rfl <;> rfl
  rw [hb2] at t3
  refine ⟨okX_app o1 (okX_app ho (okX_cons (by show c ≤ 16; omega) (Nat.zero_le _) okX_nil)), w, (tyX_app e1).trans ((tyX_app e2).trans ?_), t3⟩
  show (match tyC c u with | none => none | some w => tyX [] w) = some w
  rw [e3]; rfl
theorem cmS_t {t : Nat → Nat} {E i : Nat} {s : Sy} (hi : i ≤ E) (h : (cmS t E i).1 = true) (hs : s.1 + 3 ≤ 32) : psh (cmS t E i).2.1 s true := by
  have b := skB_b (t := t) hi
  unfold cmS at h ⊢
  by_cases e : (suS t E (skB t E i)).1 = true
  · rw [if_pos e] at h ⊢
    have k := suS_b b.2 e
    have p := suS_t (s := s) b.2 e (by omega)
    have g := fun c => sgE_b (t := t) (c := c) k.2
    have p2 : ∀ c, (suS t E (sgE t E (suS t E (skB t E i)).2.2.1 c)).1 = true → ∀ v, v.1 + 1 < 32 → psh (suS t E (sgE t E (suS t E (skB t E i)).2.2.1 c)).2.1 v false := fun c hc v hv => suS_t (g c).2.1 hc hv
    by_cases e2 : sgB t E (suS t E (skB t E i)).2.2.1 60 = true
    · rw [if_pos e2] at h ⊢
      by_cases e3 : (suS t E (sgE t E (suS t E (skB t E i)).2.2.1 60)).1 = true
      · rw [if_pos e3]
        exact psh_cmp (Or.inl rfl) p (fun v hv => p2 60 e3 v (by rw [hv.1]; omega)) (p2 60 e3 (0, fun _ => false) (by decide)).1
      · rw [if_neg e3] at h; cases h
    · rw [if_neg e2] at h ⊢
      by_cases e4 : sgB t E (suS t E (skB t E i)).2.2.1 62 = true
      · rw [if_pos e4] at h ⊢
        by_cases e3 : (suS t E (sgE t E (suS t E (skB t E i)).2.2.1 62)).1 = true
        · rw [if_pos e3]
          exact psh_cmp (Or.inr rfl) p (fun v hv => p2 62 e3 v (by rw [hv.1]; omega)) (p2 62 e3 (0, fun _ => false) (by decide)).1
        · rw [if_neg e3] at h; cases h
      · rw [if_neg e4] at h; cases h
  · rw [if_neg e] at h; cases h
theorem psh_not {l : List (Nat × Nat)} {s : Sy} (h : psh l s true) : psh (l ++ [(14, 0)]) s true := by
  obtain ⟨o, u, e, t⟩ := h
  refine ⟨okX_app o (okX_cons (by decide) (by decide) okX_nil), u, (tyX_app e).trans ?_, t⟩
  show (match tyC 14 u with | none => none | some w => tyX [] w) = some u
  rw [ty_not t]; rfl
/-- what a mode asks of the stack and of the fuel -/
def tyN (m : Nat) : Nat := if m = 0 then 3 else if m = 1 ∨ m = 3 then 4 else 5
def tyF (m : Nat) : Nat := if m = 1 then 2 else if m = 2 then 3 else 1
theorem pG_t {t : Nat → Nat} {E : Nat} : ∀ (f m k i : Nat) (s : Sy), m ≤ 4 → i ≤ E → k ≤ 6 → 5 * (E - i) + tyF m ≤ f → s.1 + tyN m + 2 * (6 - k) ≤ 32 → (pG t E f m k i).1 = true → (m ≤ 2 → psh (pG t E f m k i).2.1 s true) ∧ (2 < m → tlh (pG t E f m k i).2.1 s true) := by
  intro f
  induction f with
  | zero =>
    intro m k i s hm hi hk hf
    exfalso
    unfold tyF at hf
    split at hf
    · omega
    · split at hf <;> omega
  | succ f ih =>
    intro m k i s hm hi hk hf hs h
    have b := skB_b (t := t) hi
    unfold pG at h ⊢
    rcases (by omega : m = 0 ∨ m = 1 ∨ m = 2 ∨ m = 3 ∨ m = 4) with rfl | rfl | rfl | rfl | rfl
    · have hs : s.1 + 3 + 2 * (6 - k) ≤ 32 := hs
      have hf : 5 * (E - i) + 1 ≤ f + 1 := hf
      refine ⟨fun _ => ?_, fun z => absurd z (by decide)⟩
      rw [if_pos rfl] at h ⊢
      have g := sgE_b (t := t) (c := 40) hi
      by_cases e : sgB t E i 40 = true
      · rw [if_pos e] at h ⊢
        by_cases e6 : k = 6
        · rw [if_pos e6] at h; cases h
        · rw [if_neg e6] at h ⊢
          by_cases e2 : (pG t E f 2 (k + 1) (sgE t E i 40)).1 = true
          · rw [if_pos e2] at h ⊢
            have g3 := g.2.2.1 e
            have a := (ih 2 (k + 1) _ s (by decide) g.2.1 (by omega) (by show 5 * (E - sgE t E i 40) + 3 ≤ f; omega) (by show s.1 + 5 + 2 * (6 - (k + 1)) ≤ 32; omega) e2).1 (by decide)
            by_cases e3 : sgB t E (pG t E f 2 (k + 1) (sgE t E i 40)).2.2.1 41 = true
            · rw [if_pos e3]; exact a
            · rw [if_neg e3] at h; cases h
          · rw [if_neg e2] at h; cases h
      · rw [if_neg e] at h ⊢
        by_cases en : psB t E i 8 = true
        · rw [if_pos en] at h ⊢
          by_cases e6 : k = 6
          · rw [if_pos e6] at h; cases h
          · rw [if_neg e6] at h ⊢
            have pw := psE_w hi en
            have w7 := wl_7
            by_cases e2 : (pG t E f 0 (k + 1) (psE t E i 8)).1 = true
            · rw [if_pos e2]
              exact psh_not ((ih 0 (k + 1) _ s (by decide) pw.2 (by omega) (by show 5 * (E - psE t E i 8) + 1 ≤ f; omega) (by show s.1 + 3 + 2 * (6 - (k + 1)) ≤ 32; omega) e2).1 (by decide))
            · rw [if_neg e2] at h; cases h
        · rw [if_neg en] at h ⊢
          by_cases et : ¬ tgR t (skB t E i) (ltE t E (skB t E i)) = 4294967295
          · rw [if_pos et]
            have tg : 7 ≤ tgR t (skB t E i) (ltE t E (skB t E i)) ∧ tgR t (skB t E i) (ltE t E (skB t E i)) ≤ 9 := by
              unfold tgR at et ⊢
              split
              · decide
              · split
                · decide
                · split
                  · decide
                  · rename_i c1 c2 c3; rw [if_neg c1, if_neg c2, if_neg c3] at et; exact absurd rfl et
            exact psh_1 (by omega) (Nat.zero_le _) (by omega) (decide_eq_true tg).symm
          · rw [if_neg et] at h ⊢
            exact cmS_t hi h (by omega)
    · have hs : s.1 + 4 + 2 * (6 - k) ≤ 32 := hs
      have hf : 5 * (E - i) + 2 ≤ f + 1 := hf
      refine ⟨fun _ => ?_, fun z => absurd z (by decide)⟩
      rw [if_neg (by decide), if_pos rfl] at h ⊢
      by_cases e : (pG t E f 0 k i).1 = true
      · rw [if_pos e] at h ⊢
        have a := pG_b f 0 k i hi e
        exact psh_app ((ih 0 k i s (by decide) hi hk (by show 5 * (E - i) + 1 ≤ f; omega) (by show s.1 + 3 + 2 * (6 - k) ≤ 32; omega) e).1 (by decide)) ((ih 3 k _ s (by decide) a.2 hk (by show 5 * (E - (pG t E f 0 k i).2.2.1) + 1 ≤ f; omega) hs h).2 (by decide))
      · rw [if_neg e] at h; cases h
    · have hs : s.1 + 5 + 2 * (6 - k) ≤ 32 := hs
      have hf : 5 * (E - i) + 3 ≤ f + 1 := hf
      refine ⟨fun _ => ?_, fun z => absurd z (by decide)⟩
      rw [if_neg (by decide), if_neg (by decide), if_pos rfl] at h ⊢
      by_cases e : (pG t E f 1 k i).1 = true
      · rw [if_pos e] at h ⊢
        have a := pG_b f 1 k i hi e
        exact psh_app ((ih 1 k i s (by decide) hi hk (by show 5 * (E - i) + 2 ≤ f; omega) (by show s.1 + 4 + 2 * (6 - k) ≤ 32; omega) e).1 (by decide)) ((ih 4 k _ s (by decide) a.2 hk (by show 5 * (E - (pG t E f 1 k i).2.2.1) + 1 ≤ f; omega) hs h).2 (by decide))
      · rw [if_neg e] at h; cases h
    · have hs : s.1 + 4 + 2 * (6 - k) ≤ 32 := hs
      have hf : 5 * (E - i) + 1 ≤ f + 1 := hf
      refine ⟨fun z => absurd z (by decide), fun _ => ?_⟩
      rw [if_neg (by decide), if_neg (by decide), if_neg (by decide), if_pos rfl] at h ⊢
      by_cases e : psB t E i 7 = true
      · rw [if_pos e] at h ⊢
        have pw := psE_w hi e
        have w7 := wl_7
        by_cases e2 : (pG t E f 0 k (psE t E i 7)).1 = true
        · rw [if_pos e2] at h ⊢
          have a := pG_b f 0 k _ pw.2 e2
          have fu : 5 * (E - psE t E i 7) + tyF 0 ≤ f := by show 5 * (E - psE t E i 7) + 1 ≤ f; omega
          exact tlh_join (Or.inr (Or.inl rfl)) (by decide) (fun v hv => (ih 0 k _ v (by decide) pw.2 hk fu (by rw [hv.1]; show s.1 + 1 + 3 + 2 * (6 - k) ≤ 32; omega) e2).1 (by decide)) ((ih 3 k _ s (by decide) a.2 hk (by show 5 * (E - (pG t E f 0 k (psE t E i 7)).2.2.1) + 1 ≤ f; omega) hs h).2 (by decide)) ((ih 0 k _ s (by decide) pw.2 hk fu (by show s.1 + 3 + 2 * (6 - k) ≤ 32; omega) e2).1 (by decide)).1
        · rw [if_neg e2] at h; cases h
      · rw [if_neg e]; exact tlh_nil
    · have hs : s.1 + 5 + 2 * (6 - k) ≤ 32 := hs
      have hf : 5 * (E - i) + 1 ≤ f + 1 := hf
      refine ⟨fun z => absurd z (by decide), fun _ => ?_⟩
      rw [if_neg (by decide), if_neg (by decide), if_neg (by decide), if_neg (by decide)] at h ⊢
      by_cases e : psB t E i 6 = true
      · rw [if_pos e] at h ⊢
        have pw := psE_w hi e
        have w7 := wl_7
        by_cases e2 : (pG t E f 1 k (psE t E i 6)).1 = true
        · rw [if_pos e2] at h ⊢
          have a := pG_b f 1 k _ pw.2 e2
          have fu : 5 * (E - psE t E i 6) + tyF 1 ≤ f := by show 5 * (E - psE t E i 6) + 2 ≤ f; omega
          exact tlh_join (Or.inr (Or.inr rfl)) (by decide) (fun v hv => (ih 1 k _ v (by decide) pw.2 hk fu (by rw [hv.1]; show s.1 + 1 + 4 + 2 * (6 - k) ≤ 32; omega) e2).1 (by decide)) ((ih 4 k _ s (by decide) a.2 hk (by show 5 * (E - (pG t E f 1 k (psE t E i 6)).2.2.1) + 1 ≤ f; omega) hs h).2 (by decide)) ((ih 1 k _ s (by decide) pw.2 hk fu (by show s.1 + 4 + 2 * (6 - k) ≤ 32; omega) e2).1 (by decide)).1
        · rw [if_neg e2] at h; cases h
      · rw [if_neg e]; exact tlh_nil
/-- typed codes that lie in a row -/
theorem tyL_X {C : Nat → Nat} : ∀ {l : List (Nat × Nat)} {i : Nat} {s : Sy}, (∀ k, k < l.length → C (i + k) = (gtC l k).1) → tyL C l.length i s = tyX l s
  | [], _, _, _ => rfl
  | (c, v) :: l, i, s, h => by
    show (match tyC (C i) s with | none => none | some u => tyL C l.length (i + 1) u) = (match tyC c s with | none => none | some u => tyX l u)
    have e : C i = c := h 0 (Nat.succ_pos _)
    rw [e]
    cases tyC c s with
    | none => rfl
    | some u => exact tyL_X (fun k hk => by rw [show i + 1 + k = i + (k + 1) by omega]; exact h (k + 1) (Nat.succ_lt_succ hk))
theorem tyL_e {C D : Nat → Nat} : ∀ {n i : Nat} {s : Sy}, (∀ k, i ≤ k → k < i + n → D k = C k) → tyL D n i s = tyL C n i s
  | 0, _, _, _ => rfl
  | n + 1, i, s, h => by
    show (match tyC (D i) s with | none => none | some u => tyL D n (i + 1) u) = (match tyC (C i) s with | none => none | some u => tyL C n (i + 1) u)
    rw [h i (Nat.le_refl _) (by omega)]
    cases tyC (C i) s with
    | none => rfl
    | some u => exact tyL_e (fun k a b => h k (by omega) (by omega))
/-- codes of a line -/
def liK (l : List (Nat × Nat)) : Prop := okX l ∧ ∃ u, tyX l (0, fun _ => false) = some u ∧ u.1 ≤ 1 ∧ (u.1 = 1 → u.2 0 = true)
theorem llS_t {t : Nat → Nat} {E b i : Nat} (hE : E ≤ 400) (hi : i ≤ E) (h : (llS t E b i).1 = true) : (llS t E b i).2.1.1 ≤ 2 ∧ (llS t E b i).2.1.2 ≤ 40 ∧ liK (llS t E b i).2.2.1 := by
  have bn := nmE_b (t := t) hi
  have v := nmV_lt (t := t) (h := 40) hi (by omega)
  have lk : lkR t b i = 4294967295 ∨ lkR t b i ≤ 2 := by unfold lkR; (repeat' split) <;> omega
  unfold llS at h ⊢
  by_cases c1 : lkR t b i = 4294967295
  · rw [if_pos c1] at h; cases h
  · rw [if_neg c1] at h ⊢
    by_cases c2 : nmV t E i 40 = 4294967295
    · rw [if_pos c2] at h; cases h
    · rw [if_neg c2] at h ⊢
      unfold llT at h ⊢
      by_cases c3 : psB t E (nmE t E i) 5 = true
      · rw [if_pos c3] at h ⊢
        have pb := psE_b (t := t) (q := 5) bn.2
        have g := (pG_t 2100 2 0 _ (0, fun _ => false) (by decide) pb.2 (by decide) (by show 5 * (E - psE t E (nmE t E i) 5) + 3 ≤ 2100; omega) (by decide) h).1 (by decide)
        obtain ⟨o, u, e, y⟩ := g
        exact ⟨by show lkR t b i ≤ 2; omega, by show nmV t E i 40 ≤ 40; omega, o, u, e, by rw [y.1]; exact Nat.le_refl _, fun _ => y.2.1⟩
      · rw [if_neg c3]
        exact ⟨by show lkR t b i ≤ 2; omega, by show nmV t E i 40 ≤ 40; omega, okX_nil, _, rfl, Nat.zero_le _, fun z => absurd z (by decide)⟩
def shR (S : Nat → Nat) : Nat → Nat := fun i => S (i + 849)
theorem okLn_e {R S : Nat → Nat} {n : Nat} (h : okLn R n) (e : ∀ y, y < 4 → S (369 + 4 * n + y) = R (369 + 4 * n + y)) (ec : ∀ i, i < R (369 + 4 * n + 3) → ∀ y, y < 2 → S (417 + 2 * i + y) = R (417 + 2 * i + y)) : okLn S n := by
  obtain ⟨h1, h2, h3, h4, h5, u, h6, h7⟩ := h
  have e0 : S (369 + 4 * n) = R (369 + 4 * n) := e 0 (by decide)
  have e1 : S (369 + 4 * n + 1) = R (369 + 4 * n + 1) := e 1 (by decide)
  have e2 : S (369 + 4 * n + 2) = R (369 + 4 * n + 2) := e 2 (by decide)
  have e3 : S (369 + 4 * n + 3) = R (369 + 4 * n + 3) := e 3 (by decide)
  unfold okLn
  rw [e0, e1, e2, e3]
  refine ⟨h1, h2, h3, h4, fun i a b => ?_, u, ?_, h7⟩
  · have c0 : S (417 + 2 * i) = R (417 + 2 * i) := ec i b 0 (by decide)
    rw [c0, ec i b 1 (by decide)]
    exact h5 i a b
  · rw [← h6]
    refine tyL_e (fun k a b => ?_)
    exact ec k (by omega) 0 (by decide)
/-- n lines and c codes are in order -/
def lnO (S : Nat → Nat) (n c : Nat) : Prop := ∀ x, x < n → okLn (shR S) x ∧ S (1218 + 4 * x + 3) ≤ c
theorem shR_l (S : Nat → Nat) (x y : Nat) : shR S (369 + 4 * x + y) = S (1218 + 4 * x + y) := congrArg S (by omega)
theorem shR_c (S : Nat → Nat) (x y : Nat) : shR S (417 + 2 * x + y) = S (1266 + 2 * x + y) := congrArg S (by omega)
theorem llR_t {S : Nat → Nat} {n kd v c : Nat} {cs : List (Nat × Nat)} (hn : n < 12) (hc : c + cs.length ≤ 400) (h : lnO S n c) (h1 : kd ≤ 2) (h2 : v ≤ 40) (h3 : liK cs) : lnO (llR S n kd v c cs) (n + 1) (c + cs.length) := by
  intro x hx
  by_cases z : x = n
  · subst z
    obtain ⟨g1, g2, g3, g4⟩ := llR_n (S := S) (kd := kd) (v := v) (c := c) (cs := cs) hn
    obtain ⟨o, u, e, y⟩ := h3
    have e0 : shR (llR S x kd v c cs) (369 + 4 * x) = kd := (shR_l _ x 0).trans g1
    have e1 : shR (llR S x kd v c cs) (369 + 4 * x + 1) = v := (shR_l _ x 1).trans g2
    have e2 : shR (llR S x kd v c cs) (369 + 4 * x + 2) = c := (shR_l _ x 2).trans g3
    have e3 : shR (llR S x kd v c cs) (369 + 4 * x + 3) = c + cs.length := (shR_l _ x 3).trans g4
    refine ⟨?_, by rw [g4]; exact Nat.le_refl _⟩
    unfold okLn
    rw [e0, e1, e2, e3]
    refine ⟨h1, h2, Nat.le_add_right _ _, hc, fun i a b => ?_, u, ?_, y⟩
    · obtain ⟨k, rfl⟩ : ∃ k, i = c + k := ⟨i - c, by omega⟩
      have hk : k < cs.length := by omega
      obtain ⟨q1, q2⟩ := llR_k (S := S) (n := x) (kd := kd) (v := v) (c := c) (k := k) (cs := cs) hn hk
      have c0 : shR (llR S x kd v c cs) (417 + 2 * (c + k)) = (gtC cs k).1 := (shR_c _ (c + k) 0).trans q1
      rw [c0, shR_c, q2]
      exact o k hk
    · rw [Nat.add_sub_cancel_left, tyL_X (fun k hk => ?_)]
      · exact e
      · obtain ⟨q1, q2⟩ := llR_k (S := S) (n := x) (kd := kd) (v := v) (c := c) (k := k) (cs := cs) hn hk
        exact (shR_c _ (c + k) 0).trans q1
  · have hx' : x < n := by omega
    obtain ⟨k1, k2⟩ := h x hx'
    refine ⟨okLn_e k1 (fun y hy => ?_) (fun i hi y hy => ?_), ?_⟩
    · rw [shR_l, shR_l]; exact llR_lo hn hx' hy
    · have hi : i < S (1218 + 4 * x + 3) := by rw [shR_l] at hi; exact hi
      rw [shR_c, shR_c]; exact llR_c hn (by omega) y hy
    · rw [llR_lo hn hx' (by decide)]; omega
theorem laS_t {t : Nat → Nat} {E : Nat} (hE : E ≤ 400) : ∀ {f : Nat} {S : Nat → Nat} {n c i : Nat}, i ≤ E → c ≤ i → lnO S n c → (laS t E f S n c i).1 ≠ 4294967295 → (laS t E f S n c i).1 ≤ 12 ∧ lnO (laS t E f S n c i).2.1 (laS t E f S n c i).1 (laS t E f S n c i).2.2.1
  | 0, _, _, _, _, _, _, _, h => absurd rfl h
  | f + 1, S, n, c, i, hi, hc, ho, h => by
    have st : laS t E (f + 1) S n c i = if (lnS t E n i).1 = true then (if skB t E (lnS t E n i).2.2.2.1 = E then (n + 1, llR S n (lnS t E n i).2.1.1 (lnS t E n i).2.1.2 c (lnS t E n i).2.2.1, c + (lnS t E n i).2.2.1.length, skB t E (lnS t E n i).2.2.2.1, skB t E (lnS t E n i).2.2.2.1) else if t (skB t E (lnS t E n i).2.2.2.1) = 59 then laS t E f (llR S n (lnS t E n i).2.1.1 (lnS t E n i).2.1.2 c (lnS t E n i).2.2.1) (n + 1) (c + (lnS t E n i).2.2.1.length) (skB t E (lnS t E n i).2.2.2.1 + 1) else (4294967295, S, c, 0, skB t E (lnS t E n i).2.2.2.1)) else (4294967295, S, c, 0, (lnS t E n i).2.2.2.2) := rfl
    rw [st] at h ⊢
    by_cases c1 : (lnS t E n i).1 = true
    · rw [if_pos c1] at h ⊢
      obtain ⟨b1, b2, b3⟩ := lnS_b hi c1
      have sb := skB_b (t := t) b2
      have s0 := skB_b (t := t) hi
      have el : lnS t E n i = llS t E (skB t E i) (ltE t E (skB t E i)) := by unfold lnS; rw [if_pos b3]
      have k := llS_t (t := t) (b := skB t E i) hE (ltE_b (t := t) s0.2).2 (by rw [← el]; exact c1)
      rw [← el] at k
      have o := llR_t b3 (by omega) ho k.1 k.2.1 k.2.2
      by_cases c2 : skB t E (lnS t E n i).2.2.2.1 = E
      · rw [if_pos c2]; exact ⟨b3, o⟩
      · rw [if_neg c2] at h ⊢
        by_cases c3 : t (skB t E (lnS t E n i).2.2.2.1) = 59
        · rw [if_pos c3] at h ⊢
          exact laS_t hE (by omega) (by omega) o h
        · rw [if_neg c3] at h; exact absurd rfl h
    · rw [if_neg c1] at h; exact absurd rfl h
theorem raL_t {t R : Nat → Nat} {E : Nat} (hE : E ≤ 400) (h : (raL t E R).1 ≠ 4294967295) : (raL t E R).1 ≤ 12 ∧ lnO (raL t E R).2.1 (raL t E R).1 (raL t E R).2.2.1 := by
  unfold raL at h ⊢
  split
  · exact ⟨Nat.zero_le _, fun x hx => absurd hx (Nat.not_lt_zero _)⟩
  · rename_i c
    rw [if_neg c] at h
    exact laS_t hE (skB_b (t := t) (Nat.zero_le _)).2 (Nat.zero_le _) (fun x hx => absurd hx (Nat.not_lt_zero _)) h
theorem laS_o {t : Nat → Nat} {E x : Nat} (hx : x < 1217) : ∀ {f : Nat} {S : Nat → Nat} {n c i : Nat}, (laS t E f S n c i).2.1 x = S x
  | 0, _, _, _, _ => rfl
  | f + 1, S, n, c, i => by
    show (if (lnS t E n i).1 = true then (if skB t E (lnS t E n i).2.2.2.1 = E then (n + 1, llR S n (lnS t E n i).2.1.1 (lnS t E n i).2.1.2 c (lnS t E n i).2.2.1, c + (lnS t E n i).2.2.1.length, skB t E (lnS t E n i).2.2.2.1, skB t E (lnS t E n i).2.2.2.1) else if t (skB t E (lnS t E n i).2.2.2.1) = 59 then laS t E f (llR S n (lnS t E n i).2.1.1 (lnS t E n i).2.1.2 c (lnS t E n i).2.2.1) (n + 1) (c + (lnS t E n i).2.2.1.length) (skB t E (lnS t E n i).2.2.2.1 + 1) else (4294967295, S, c, 0, skB t E (lnS t E n i).2.2.2.1)) else (4294967295, S, c, 0, (lnS t E n i).2.2.2.2)).2.1 x = S x
    split
    · split
      · exact llR_o hx
      · split
        · rw [laS_o hx]; exact llR_o hx
        · rfl
    · rfl
theorem raL_o {t R : Nat → Nat} {E x : Nat} (hx : x < 1217) : (raL t E R).2.1 x = R x := by
  unfold raL
  split
  · rfl
  · exact laS_o hx
theorem lwR_lo {r : Nat × (Nat → Nat) × Nat × Nat × Nat} {x : Nat} (h : x ≠ 2) (h2 : x < 368) : lwR r x = r.2.1 x := by
  unfold lwR; rw [if_neg h, if_neg (by omega), if_neg (by omega)]
theorem lwR_hi {r : Nat × (Nat → Nat) × Nat × Nat × Nat} {x : Nat} (h : 369 ≤ x) : lwR r x = shR r.2.1 x := by
  unfold lwR; rw [if_neg (by omega), if_neg (by omega), if_pos (by omega)]; rfl
theorem okLw_rd {t R : Nat → Nat} {E : Nat} (hE : E ≤ 400) (h : (raL t E R).1 ≠ 4294967295) : okLw (lwR (raL t E R)) := by
  intro _
  obtain ⟨a, b⟩ := raL_t hE h
  refine ⟨a, fun n hn => ?_⟩
  refine okLn_e (b n hn).1 (fun y hy => lwR_hi (by omega)) (fun i hi y hy => lwR_hi (by omega))
theorem okW_r2 {R : Nat → Nat} {v : Nat} (h : okW R) (hv : v ≤ 1) : okW (seR R 2 v) := by
  have n := okW_n h
  have g : ∀ i, i ≠ 2 → seR R 2 v i = R i := fun i hi => seR_ne hi
  obtain ⟨T, hT⟩ : ∃ T, seR R 2 v = T := ⟨_, rfl⟩
  have g1 : T 2 = v := by rw [← hT]; exact seR_at _ _ _
  rw [hT] at g ⊢
  refine ⟨?_, fun k hk => ?_, fun k hk => ?_, fun k hk => ?_, fun q hq => ?_, fun q hq => ?_, fun q hq => ?_, fun k hk => ?_⟩
  · rw [g1, g 0 (by omega), g 1 (by omega), g 3 (by omega), g 4 (by omega), g 5 (by omega), g 6 (by omega), g 7 (by omega), g 8 (by omega), g 9 (by omega), g 10 (by omega), g 11 (by omega)]
    exact ⟨n.1, n.2.1, hv, n.2.2.2⟩
  · rw [g _ (by omega)]; exact okW_p h hk
  · rw [g 3 (by omega)] at hk; rw [g 0 (by omega), g _ (by omega)]; exact okW_pl h hk
  · rw [g _ (by omega)]; exact h.2.2.2.1 k hk
  · have e : (fun i => T (30 + 9 * q + i)) = fun i => R (30 + 9 * q + i) := funext (fun i => g _ (by omega))
    rw [e]; exact h.2.2.2.2.1 q hq
  · rw [g 0 (by omega)] at hq
    rw [g _ (by omega)]; exact okW_1 h hq
  · have e : (fun i => T (102 + 13 * q + i)) = fun i => R (102 + 13 * q + i) := funext (fun i => g _ (by omega))
    rw [e]; exact h.2.2.2.2.2.2.1 q hq
  · rw [g _ (by omega)]; exact okW_l h hk
theorem okW_rd {t R : Nat → Nat} {E : Nat} (o : okW R) : okW (lwR (raL t E R)) := by
  refine okW_lo (okW_r2 o (Nat.le_refl 1)) (fun i hi => ?_)
  by_cases c : i = 2
  · subst c; rw [seR_at]; rfl
  · rw [seR_ne c, lwR_lo c hi]; exact raL_o (by omega)
