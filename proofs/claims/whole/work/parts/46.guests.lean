/-! guests: how they come to the machine and go -/
def rotC (f : Nat → Nat) (b k : Nat) (g : Nat → Nat) : Nat → Nat := fun x => if x < 8 ∧ (x + 8 - b) % 8 < k then f ((x + 8 - b) % 8) else g x
theorem rotC_0 (f : Nat → Nat) (b : Nat) (g : Nat → Nat) : rotC f b 0 g = g := by funext x; simp [rotC]
theorem rotC_s {f : Nat → Nat} {b k : Nat} {g : Nat → Nat} (hb : b < 8) (hk : k < 8) : (fun y => if y = (k + b) % 8 then f k else rotC f b k g y) = rotC f b (k + 1) g := by
  funext y
  show (if y = (k + b) % 8 then f k else (if y < 8 ∧ (y + 8 - b) % 8 < k then f ((y + 8 - b) % 8) else g y)) = (if y < 8 ∧ (y + 8 - b) % 8 < k + 1 then f ((y + 8 - b) % 8) else g y)
  by_cases h : y = (k + b) % 8
  · have e : (y + 8 - b) % 8 = k := by omega
    rw [if_pos h, if_pos ⟨by omega, by omega⟩, e]
  · rw [if_neg h]
    by_cases h2 : y < 8 ∧ (y + 8 - b) % 8 < k
    · rw [if_pos h2, if_pos ⟨h2.1, by omega⟩]
    · rw [if_neg h2, if_neg (by omega)]
def cmM (R : Nat → Nat) (g mo b sk : Nat) (f : Nat → Nat) : Mc := (R (102 + 13 * g + 1), mo, (R (102 + 13 * g + 3) + b) % 8, R (102 + 13 * g + 4), sk, rotC (fun k => R (102 + 13 * g + (5 + k))) b 8 f)
/-- the guest on the machine -/
def gM (R : Nat → Nat) (g mo b : Nat) : Mc := (R (102 + 13 * g + 1), mo, (R (102 + 13 * g + 3) + b) % 8, R (102 + 13 * g + 4), 0, fun x => R (102 + 13 * g + (5 + (x + 8 - b) % 8)))
theorem cmM_eq {R : Nat → Nat} {g mo b sk : Nat} {f : Nat → Nat} : eqM (mSk0 (cmM R g mo b sk f)) (mSk0 (gM R g mo b)) := ⟨rfl, rfl, rfl, rfl, rfl, fun x hx => if_pos ⟨hx, by omega⟩⟩
theorem gM_ok {R : Nat → Nat} (h : okW R) {g mo b : Nat} (hg : g < 2) (hm : mo ≤ 1) (hb : b ≤ 6) (hb2 : b % 2 = 0) : okM (gM R g mo b) := by
  have h1 := okW_g h hg
  refine ⟨h1.2.1, hm, ⟨by show (R (102 + 13 * g + 3) + b) % 8 ≤ 6; omega, by show (R (102 + 13 * g + 3) + b) % 8 % 2 = 0; omega⟩, h1.2.2.2.2, Nat.zero_le 1, fun i hi => okW_gc h hg (by omega)⟩
theorem okM_eq {c e : Mc} (h : eqM c e) (h2 : okM e) : okM c := by
  obtain ⟨a1, a2, a3, a4, a5, a6⟩ := h
  obtain ⟨b1, b2, b3, b4, b5, b6⟩ := h2
  exact ⟨a1 ▸ b1, a2 ▸ b2, a3 ▸ b3, a4 ▸ b4, a5 ▸ b5, fun i hi => a6 i hi ▸ b6 i hi⟩
def goR (R : Nat → Nat) (c : Mc) (g b : Nat) : Nat → Nat := fun i =>
  if i = 102 + 13 * g + 0 then min 12 (R (102 + 13 * g + 0) + (if c.2.2.2.2.1 = 0 then 1 else 2))
  else if i = 102 + 13 * g + 1 then c.1
  else if i = 102 + 13 * g + 3 then (c.2.2.1 + 8 - b) % 8
  else if 102 + 13 * g + 5 ≤ i ∧ i < 102 + 13 * g + 13 then c.2.2.2.2.2 ((i - (102 + 13 * g + 5) + b) % 8)
  else R i
theorem goR_eq {R : Nat → Nat} {c e : Mc} {g b : Nat} (h : eqM c e) : goR R c g b = goR R e g b := by
  funext i
  unfold goR
  rw [h.1, h.2.2.1, h.2.2.2.2.1, h.2.2.2.2.2 _ (Nat.mod_lt _ (by decide))]
def ctR (R : Nat → Nat) (g : Nat) : Nat → Nat := fun i => if i = 102 + 13 * g + 0 then R 4 else if i = 102 + 13 * g + 2 then 1 else R i
def ckR (R : Nat → Nat) (g n : Nat) : Nat → Nat := fun i => if i = 102 + 13 * g + 4 then (R (102 + 13 * g + 4) + n) % 8 else R i
def mdR (R : Nat → Nat) (g m : Nat) : Nat → Nat := fun i => if i = 102 + 13 * g + 2 then m else R i
/-- an op done as it is -/
def doR (R : Nat → Nat) (g p : Nat) : Nat → Nat := goR (mdR R g (mOp 0 R p (gM R g (R (102 + 13 * g + 2)) 0)).2.1) (mOp 0 R p (gM R g (R (102 + 13 * g + 2)) 0)) g 0
/-- an op let through -/
def leR (R : Nat → Nat) (g p : Nat) : Nat → Nat := goR R (mOp 0 R p (gM R g 0 (R 5))) g (R 5)
def baR (R : Nat → Nat) : Nat → Nat := if R 3 ≤ R (102 + 13 * 0 + 0) then R else if trp R (R (12 + R (102 + 13 * 0 + 0))) (R (102 + 13 * 0 + 2)) = true then ckR (ctR R 0) 0 1 else ckR (doR R 0 (R (12 + R (102 + 13 * 0 + 0)))) 0 1
/-- what stays where guests step -/
def frG (A B : Nat → Nat → Nat) : Prop := (∀ q, q ≠ 263 → q ≠ 264 → q ≠ 271 → q ≠ 275 → B q = A q) ∧ ∀ k, k < 19 ∨ 23 < k → B 263 k = A 263 k
theorem frG_rf (A : Nat → Nat → Nat) : frG A A := ⟨fun _ _ _ _ _ => rfl, fun _ _ => rfl⟩
theorem frG_tr {A B C : Nat → Nat → Nat} (h : frG A B) (h2 : frG B C) : frG A C := ⟨fun q a b c e => (h2.1 q a b c e).trans (h.1 q a b c e), fun k hk => (h2.2 k hk).trans (h.2 k hk)⟩
theorem frG_mWr (A : Nat → Nat → Nat) (c : Mc) : frG A (mWr A c) := ⟨fun _ a _ b _ => mWr_o a b, fun _ hk => mWr_f hk⟩
theorem frG_gw (A : Nat → Nat → Nat) (f : Nat → Nat) : frG A (gw A 264 f) := ⟨fun _ _ b _ _ => gw_row b, fun _ _ => gw_q (by decide) rfl⟩
theorem frG_gu (A : Nat → Nat → Nat) (k v : Nat) : frG A (gu A 264 k v) := ⟨fun _ _ b _ _ => gu_row b, fun _ _ => gu_q (by decide) rfl⟩
theorem frG_275 {A B : Nat → Nat → Nat} (h : ∀ q, q ≠ 275 → B q = A q) : frG A B := ⟨fun q _ _ _ e => h q e, fun k _ => by rw [h 263 (by decide)]⟩
theorem g264 (A : Nat → Nat → Nat) (k v : Nat) : gu A 263 k v 264 = A 264 := gu_row (by decide)
