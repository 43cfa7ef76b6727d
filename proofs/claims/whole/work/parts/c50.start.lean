/-! the constructors, run -/
def ks0 : gv_S := ((0, fun _ => (999, 0), fun _ _ => none), (fun _ _ => 0, fun _ _ => 0), (0, 0, 0))
def kR1 : Option (gv_O × gv_S) := gv_run gv_fkT gv_txT gv_meth (fun _ => 0, 0) 8000 1389 gvm_104 0 (gv_enter [.ref 0] 1) [] (gv_new ks0 11 0 15)
def kR2 (S : gv_S) : Option (gv_O × gv_S) := gv_run gv_fkT gv_txT gv_meth (fun _ => 0, 0) 8000 1389 gvm_195 0 (gv_enter [.ref 263] 1) [] (gv_new S 12 0 32)
def kA (S : gv_S) (q k : Nat) : Nat := (S.2.1.1 q k).toBitVec.toNat
def oE : Option Nat → Option Nat → Bool
  | none, none => true
  | some a, some b => Nat.beq a b
  | _, _ => false
theorem oE_t : ∀ {a b : Option Nat}, oE a b = true → a = b
  | none, none, _ => rfl
  | some a, some b, h => by rw [Nat.eq_of_beq_eq_true h]
  | none, some b, h => by cases h
  | some a, none, h => by cases h
/-- the reference's row at the start -/
def r0N (i : Nat) : Nat := if i = 5 then 2 else if i = 6 ∨ i = 11 ∨ i = 104 ∨ i = 117 then 1 else 0
def kL : List (Nat × Nat × Nat) := [(2, 2, 0), (2, 4, 0), (2, 5, 2), (2, 6, 1), (2, 7, 0), (2, 8, 0), (2, 9, 0), (2, 10, 1), (2, 11, 0), (3, 0, 0), (11, 0, 0), (11, 1, 0), (11, 2, 1), (11, 3, 0), (11, 4, 0), (11, 5, 0), (13, 0, 0), (13, 1, 0), (13, 2, 1), (13, 3, 0), (13, 4, 0), (13, 5, 0), (15, 0, 0), (15, 1, 0), (48, 0, 0), (48, 1, 0), (263, 6, 0), (263, 7, 0), (263, 9, 0), (263, 14, 4294967295), (0, 1, 0), (0, 2, 4294967295), (0, 6, 0), (76, 1, 0), (76, 2, 0)]
def kS1 (T : gv_S) (q : Nat) : Bool := Nat.beq (T.1.2.1 q).1 (gK q).1 && (Nat.beq (T.1.2.1 q).2 (gK q).2 && allN (fun k => oE (T.1.2.2 q k) (gR q k)) 32)
/-- places 40 n .. 40 n + 39 -/
def kSh (n : Nat) (T : gv_S) : Bool := allN (fun i => Nat.ble 279 (40 * n + i) || kS1 T (40 * n + i)) 40
def kI1 (T : gv_S) : Bool := allN (fun i => Nat.beq (kA T 264 i) (r0N i)) 368
def kI2 (T : gv_S) : Bool := allN (fun i => Nat.beq (kA T 55 i) 4294967294) 64 && allN (fun i => Nat.beq (kA T 61 i) 4294967294) 264
def kI3 (T : gv_S) : Bool := allN (fun i => Nat.beq (kA T 5 i) 0 && Nat.beq (kA T 6 i) 0) 24 && (allN (fun i => Nat.beq (kA T 10 i) 0 && (Nat.beq (kA T 12 i) 0 && (Nat.beq (kA T 14 i) 0 && (Nat.beq (kA T 273 i) 0 && decide (T.2.1.2 274 i = 0))))) 8 && kL.all (fun x => Nat.beq (kA T x.1 x.2.1) x.2.2))
def kRo (T : gv_S) : Bool := Nat.beq T.1.1 279 && (Nat.beq T.2.2.1 0 && (Nat.ble T.2.2.2.1 300 && Nat.ble T.2.2.2.2 20000))
def kC (f : gv_S → Bool) : Bool := match kR1 with
  | some (.inl none, S) => Nat.beq S.1.1 263 && (Nat.beq S.2.2.1 0 && (match kR2 S with
    | some (.inl none, T) => f T
    | _ => false))
  | _ => false
