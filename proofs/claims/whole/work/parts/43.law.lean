/-! the law: codes on a stack -/
def usN (R : Nat → Nat) (p : Nat) : Nat := cntN (fun k => decide (R (12 + k) = p)) (R 3)
def fct (R : Nat → Nat) (t p c n : Nat) : Nat :=
  if c = 0 then p else if c = 1 then R (30 + 9 * p + 0) else if c = 2 then t % 2 else if c = 3 then t / 2 % 2 else if c = 4 then t / 4 % 2 else if c = 5 then t / 8 % 2 else if c = 6 then usN R p else if c = 7 then R (30 + 9 * p + 1) else if c = 8 then R (30 + 9 * p + 2) else if c = 9 then (if t % 8 = 0 then 0 else 1) else n
def jn (c a b : Nat) : Nat := if c = 11 then a + b else if c = 12 then (if a < b then 1 else 0) else if c = 13 then (if b < a then 1 else 0) else if c = 15 then (if a + b = 2 then 1 else 0) else (if 0 < a + b then 1 else 0)
abbrev Sv : Type := Nat × (Nat → Nat)
abbrev Sy : Type := Nat × (Nat → Bool)
def evC (f : Nat) (c : Nat) (s : Sv) : Sv :=
  if c ≤ 10 then (s.1 + 1, fun i => if i = s.1 then f else s.2 i)
  else if c = 14 then (s.1, fun i => if i = s.1 - 1 then 1 - s.2 (s.1 - 1) else s.2 i)
  else (s.1 - 1, fun i => if i = s.1 - 1 - 1 then jn c (s.2 (s.1 - 1 - 1)) (s.2 (s.1 - 1)) else s.2 i)
def evL (f : Nat → Nat) (C : Nat → Nat) : Nat → Nat → Sv → Sv
  | 0, _, s => s
  | i + 1, k, s => evL f C i (k + 1) (evC (f k) (C k) s)
/-- kinds of what lies on the stack: true where it is 0 or 1 -/
def tyC (c : Nat) (s : Sy) : Option Sy :=
  if c ≤ 10 then (if s.1 < 32 then some (s.1 + 1, fun i => if i = s.1 then decide (7 ≤ c ∧ c ≤ 9) else s.2 i) else none)
  else if c = 14 then (if 1 ≤ s.1 ∧ s.2 (s.1 - 1) = true then some s else none)
  else if 2 ≤ s.1 ∧ c ≤ 16 ∧ s.2 (s.1 - 1 - 1) = decide (15 ≤ c) ∧ s.2 (s.1 - 1) = decide (15 ≤ c) then some (s.1 - 1, fun i => if i = s.1 - 1 - 1 then !decide (c = 11) else s.2 i) else none
def tyL (C : Nat → Nat) : Nat → Nat → Sy → Option Sy
  | 0, _, s => some s
  | i + 1, k, s => match tyC (C k) s with
    | none => none
    | some t => tyL C i (k + 1) t
def sumN (V : Nat → Nat) : Nat → Nat
  | 0 => 0
  | n + 1 => sumN V n + V n
theorem sumN_le {V : Nat → Nat} : ∀ {n x : Nat}, x < n → V x ≤ sumN V n
  | 0, _, h => by omega
  | n + 1, x, h => by
    unfold sumN
    by_cases e : x = n
    · subst e; omega
    · have := sumN_le (V := V) (n := n) (x := x) (by omega)
      omega
theorem sumN_congr {V U : Nat → Nat} : ∀ {n : Nat}, (∀ x, x < n → V x = U x) → sumN V n = sumN U n
  | 0, _ => rfl
  | n + 1, h => by
    unfold sumN
    rw [sumN_congr (fun x hx => h x (by omega)), h n (by omega)]
theorem sumN_set {V : Nat → Nat} {i v : Nat} : ∀ {n : Nat}, i < n → sumN (fun x => if x = i then v else V x) n + V i = sumN V n + v
  | 0, h => by omega
  | n + 1, h => by
    unfold sumN
    by_cases e : i = n
    · subst e
      rw [sumN_congr (U := V) (fun x hx => if_neg (by omega)), if_pos rfl]
      omega
    · have := sumN_set (V := V) (i := i) (v := v) (n := n) (by omega)
      rw [if_neg (by omega)]
      omega
theorem jn_le {c a b : Nat} : jn c a b ≤ a + b := by
  unfold jn
  repeat' split
  all_goals omega
theorem jn_b {c a b : Nat} (h : c ≠ 11) : jn c a b ≤ 1 := by
  unfold jn
  rw [if_neg h]
  repeat' split
  all_goals omega
/-- values of their kinds, not too great together -/
def okV (s : Sy) (v : Sv) (m : Nat) : Prop := v.1 = s.1 ∧ s.1 ≤ 32 ∧ (∀ x, x < s.1 → s.2 x = true → v.2 x ≤ 1) ∧ sumN v.2 s.1 ≤ m
theorem okV_step {c f m : Nat} {s t : Sy} {v : Sv} (ht : tyC c s = some t) (h : okV s v m) (hf : f ≤ 999) (hb : 7 ≤ c → c ≤ 9 → f ≤ 1) : okV t (evC f c v) (m + 999) ∧ (c ≤ 10 → v.1 < 32) ∧ (¬ c ≤ 10 → c = 14 → 1 ≤ v.1 ∧ v.2 (v.1 - 1) ≤ 1) ∧ (¬ c ≤ 10 → c ≠ 14 → 2 ≤ v.1 ∧ c ≤ 16 ∧ (c = 15 ∨ c = 16 → v.2 (v.1 - 1 - 1) ≤ 1 ∧ v.2 (v.1 - 1) ≤ 1)) := by
  obtain ⟨h1, h2, h3, h4⟩ := h
  unfold tyC at ht
  unfold evC
  rw [h1]
  by_cases k1 : c ≤ 10
  · rw [if_pos k1] at ht ⊢
    split at ht
    · cases ht
      rename_i hlt
      refine ⟨⟨rfl, by show s.1 + 1 ≤ 32; omega, fun x hx hT => ?_, ?_⟩, fun _ => hlt, fun z => absurd k1 z, fun z => absurd k1 z⟩
      · show (if x = s.1 then f else v.2 x) ≤ 1
        have hT : (if x = s.1 then decide (7 ≤ c ∧ c ≤ 9) else s.2 x) = true := hT
        by_cases e : x = s.1
        · rw [if_pos e] at hT ⊢
          have := of_decide_eq_true hT
          exact hb this.1 this.2
        · rw [if_neg e] at hT ⊢
          have hx : x < s.1 + 1 := hx
          exact h3 x (by omega) hT
      · show sumN (fun i => if i = s.1 then f else v.2 i) s.1 + (if s.1 = s.1 then f else v.2 s.1) ≤ m + 999
        rw [sumN_congr (U := v.2) (fun x hx => if_neg (by omega)), if_pos rfl]
        omega
    · cases ht
  · rw [if_neg k1] at ht ⊢
    by_cases k2 : c = 14
    · rw [if_pos k2] at ht ⊢
      split at ht
      · cases ht
        rename_i hh
        have hv := h3 (s.1 - 1) (by omega) hh.2
        refine ⟨⟨rfl, h2, fun x hx hT => ?_, ?_⟩, fun z => absurd z k1, fun _ _ => ⟨hh.1, hv⟩, fun _ z => absurd k2 z⟩
        · show (if x = s.1 - 1 then 1 - v.2 (s.1 - 1) else v.2 x) ≤ 1
          split
          · omega
          · exact h3 x hx hT
        · have := sumN_set (V := v.2) (i := s.1 - 1) (v := 1 - v.2 (s.1 - 1)) (n := s.1) (by omega)
          show sumN (fun x => if x = s.1 - 1 then 1 - v.2 (s.1 - 1) else v.2 x) s.1 ≤ m + 999
          omega
      · cases ht
    · rw [if_neg k2] at ht ⊢
      split at ht
      · cases ht
        rename_i hh
        obtain ⟨g1, g2, g3, g4⟩ := hh
        have hj := jn_le (c := c) (a := v.2 (s.1 - 1 - 1)) (b := v.2 (s.1 - 1))
        refine ⟨⟨rfl, by show s.1 - 1 ≤ 32; omega, fun x hx hT => ?_, ?_⟩, fun z => absurd z k1, fun _ z => absurd z k2, fun _ _ => ⟨g1, g2, fun z => ?_⟩⟩
        · show (if x = s.1 - 1 - 1 then jn c (v.2 (s.1 - 1 - 1)) (v.2 (s.1 - 1)) else v.2 x) ≤ 1
          have hx : x < s.1 - 1 := hx
          have hT : (if x = s.1 - 1 - 1 then !decide (c = 11) else s.2 x) = true := hT
          by_cases e : x = s.1 - 1 - 1
          · rw [if_pos e] at hT ⊢
            exact jn_b (by intro z; rw [decide_eq_true z] at hT; exact absurd hT (by decide))
          · rw [if_neg e] at hT ⊢
            exact h3 x (by omega) hT
        · have e1 := sumN_set (V := v.2) (i := s.1 - 1 - 1) (v := jn c (v.2 (s.1 - 1 - 1)) (v.2 (s.1 - 1))) (n := s.1 - 1) (by omega)
          have e2 : sumN v.2 s.1 = sumN v.2 (s.1 - 1) + v.2 (s.1 - 1) := by
            obtain ⟨n, hn⟩ : ∃ n, s.1 = n + 1 := ⟨s.1 - 1, by omega⟩
            rw [hn]; rfl
          show sumN (fun x => if x = s.1 - 1 - 1 then jn c (v.2 (s.1 - 1 - 1)) (v.2 (s.1 - 1)) else v.2 x) (s.1 - 1) ≤ m + 999
          omega
        · have hd : decide (15 ≤ c) = true := decide_eq_true (by omega)
          exact ⟨h3 _ (by omega) (g3.trans hd), h3 _ (by omega) (g4.trans hd)⟩
      · cases ht
def okLn (R : Nat → Nat) (n : Nat) : Prop := R (369 + 4 * n) ≤ 2 ∧ R (369 + 4 * n + 1) ≤ 40 ∧ R (369 + 4 * n + 2) ≤ R (369 + 4 * n + 3) ∧ R (369 + 4 * n + 3) ≤ 400 ∧ (∀ i, R (369 + 4 * n + 2) ≤ i → i < R (369 + 4 * n + 3) → R (417 + 2 * i) ≤ 16 ∧ R (417 + 2 * i + 1) ≤ 999) ∧ ∃ t, tyL (fun i => R (417 + 2 * i)) (R (369 + 4 * n + 3) - R (369 + 4 * n + 2)) (R (369 + 4 * n + 2)) (0, fun _ => false) = some t ∧ t.1 ≤ 1 ∧ (t.1 = 1 → t.2 0 = true)
def okLw (R : Nat → Nat) : Prop := R 2 = 1 → R 368 ≤ 12 ∧ ∀ n, n < R 368 → okLn R n
/-- whether a line holds for an op -/
def hld (R : Nat → Nat) (t p n : Nat) (V : Nat → Nat) : Bool :=
  let v := evL (fun i => fct R t p (R (417 + 2 * i)) (R (417 + 2 * i + 1))) (fun i => R (417 + 2 * i)) (R (369 + 4 * n + 3) - R (369 + 4 * n + 2)) (R (369 + 4 * n + 2)) (0, V)
  decide (v.1 = 0) || decide (v.2 0 = 1)
