/-! THE WALKER: an interpreter of the bytecode over a small picture of the heap. Places are numbers: 0, 1, .. in the order of making; a value 'retAddr' stands for a thing that was there before: 0 the script, k + 1 the String constant k. -/
abbrev gv_Sh : Type := Nat × (Nat → Nat × Nat) × (Nat → Nat → Option Nat)
abbrev gv_Me : Type := (Nat → Nat → Int32) × (Nat → Nat → Int64)
abbrev gv_Rs : Type := Nat × Nat × Nat
abbrev gv_S : Type := gv_Sh × gv_Me × gv_Rs
abbrev gv_X : Type := (Nat → Int32) × Nat
abbrev gv_L : Type := List (Option Value)
abbrev gv_RI : Type := Instr × Nat × Nat × Int32
abbrev gv_Mt : Type := MethodName × ByteArray × Nat × Option FieldType × List (Nat × Nat × Nat × Nat × Nat) × (Nat → gv_RI)
abbrev gv_A : Type := (Nat × gv_L × List Value × gv_S) ⊕ (Bool × Nat × Nat × List Value) ⊕ (Nat × Bool × List Value × List Value) ⊕ (Option Value) ⊕ Nat
abbrev gv_O : Type := (Option Value) ⊕ Nat
def gu {α : Type} (f : Nat → Nat → α) (q k : Nat) (v : α) : Nat → Nat → α := fun a => if a = q then (fun b => if b = k then v else f q b) else f a
def gw {α : Type} (f : Nat → α) (q : Nat) (v : α) : Nat → α := fun a => if a = q then v else f a
def gv_setI (S : gv_S) (q k : Nat) (v : Int32) : gv_S := (S.1, (gu S.2.1.1 q k v, S.2.1.2), S.2.2)
def gv_setJ (S : gv_S) (q k : Nat) (v : Int64) : gv_S := (S.1, (S.2.1.1, gu S.2.1.2 q k v), S.2.2)
def gv_setP (S : gv_S) (q k : Nat) (r : Option Nat) : gv_S := ((S.1.1, S.1.2.1, gu S.1.2.2 q k r), S.2.1, S.2.2)
def gv_row (S : gv_S) (q : Nat) (f : Nat → Int32) : gv_S := (S.1, (gw S.2.1.1 q f, S.2.1.2), S.2.2)
def gv_new (S : gv_S) (kk len sl : Nat) : gv_S := ((S.1.1 + 1, gw S.1.2.1 S.1.1 (kk, len), gw S.1.2.2 S.1.1 (fun _ => none)), (gw S.2.1.1 S.1.1 (fun _ => 0), gw S.2.1.2 S.1.1 (fun _ => 0)), (S.2.2.1, S.2.2.2.1 + 1, S.2.2.2.2 + sl))
def gv_ex (S : gv_S) : gv_S := (S.1, S.2.1, (1, S.2.2.2.1 + 1, S.2.2.2.2 + 6))
def gv_go (pc : Nat) (lo : gv_L) (st : List Value) (S : gv_S) : Option gv_A := some (.inl (pc, lo, st, S))
def gv_br (b : Bool) (t f : Nat) (st : List Value) : Option gv_A := some (.inr (.inl (b, t, f, st)))
def gv_call (m : Nat) (v : Bool) (as rest : List Value) : Option gv_A := some (.inr (.inr (.inl (m, v, as, rest))))
def gv_ret (v : Option Value) : Option gv_A := some (.inr (.inr (.inr (.inl v))))
def gv_thr (e : Nat) : Option gv_A := some (.inr (.inr (.inr (.inr e))))
def gv_gd {β : Type} (b : Bool) (o : Option β) : Option β := match b with
  | true => o
  | false => none
def gv_pi {β : Type} (st : List Value) (k : Int32 → List Value → Option β) : Option β := match st with
  | .int x :: r => k x r
  | _ => none
def gv_pl {β : Type} (st : List Value) (k : Int64 → List Value → Option β) : Option β := match st with
  | .long x :: r => k x r
  | _ => none
def gv_pr {β : Type} (st : List Value) (k : Nat → List Value → Option β) : Option β := match st with
  | .ref x :: r => k x r
  | _ => none
def gv_px {β : Type} (st : List Value) (k : Nat → List Value → Option β) : Option β := match st with
  | .retAddr x :: r => k x r
  | _ => none
def gv_pa {β : Type} (st : List Value) (k : Value → List Value → Option β) : Option β := match st with
  | .ref x :: r => k (.ref x) r
  | .retAddr x :: r => k (.retAddr x) r
  | _ => none
def gv_li {β : Type} (lo : gv_L) (i : Nat) (k : Int32 → Option β) : Option β := match lo[i]? with
  | some (some (.int x)) => k x
  | _ => none
def gv_ll {β : Type} (lo : gv_L) (i : Nat) (k : Int64 → Option β) : Option β := match lo[i]? with
  | some (some (.long x)) => k x
  | _ => none
def gv_la {β : Type} (lo : gv_L) (i : Nat) (k : Value → Option β) : Option β := match lo[i]? with
  | some (some (.ref x)) => k (.ref x)
  | some (some (.retAddr x)) => k (.retAddr x)
  | _ => none
/-- nothing long stands ahead of place i -/
def gv_ok (lo : gv_L) (i : Nat) : Bool := match i with
  | 0 => true
  | j + 1 => match lo[j]? with
    | some (some v) => Nat.beq v.category 1
    | _ => true
def gv_sto {β : Type} (lo : gv_L) (i : Nat) (v : Option Value) (k : gv_L → Option β) : Option β := gv_gd (gv_ok lo i && Nat.blt i lo.length) (k (lo.set i v))
def gv_sto2 {β : Type} (lo : gv_L) (i : Nat) (v : Option Value) (k : gv_L → Option β) : Option β := gv_gd (gv_ok lo i && Nat.blt (i + 1) lo.length) (k ((lo.set i v).set (i + 1) none))
def gv_in (i : Int32) (n : Nat) : Bool := !(decide (i < 0)) && Nat.blt i.toNatClampNeg n
def gv_cat (st : List Value) : Nat := (st.map fun v => v.category).sum
/-- the String constants' texts, as bytes -/
def gv_str (tx : List (List Int32)) (q : Nat) : List Int32 := tx.getD (q - 1) []
def gv_cmp (c : Jvm.ClassFile.Cond) (x y : Int32) : Bool := match c with
  | .eq => decide (x = y)
  | .ne => decide (¬ x = y)
  | .lt => decide (x < y)
  | .ge => decide (y ≤ x)
  | .gt => decide (y < x)
  | .le => decide (x ≤ y)
def gv_lcmp (x y : Int64) : Int32 := if x < y then -1 else if x = y then 0 else 1
/-- what a field is: 0 an int, 1 a boolean, 2 a reference -/
def gv_fk (fk : List (List Nat)) (ci k : Nat) : Nat := (fk.getD ci []).getD k 9
def gv_args (b : Nat) (st : List Value) (k : List Value → List Value → Option gv_A) : Option gv_A := gv_gd (Nat.ble b st.length) (k (st.take b).reverse (st.drop b))
def gv_jmp (pc : Nat) (off : Int) (lo : gv_L) (st : List Value) (S : gv_S) : Option gv_A := gv_gd (decide (0 ≤ (pc : Int) + off)) (gv_go ((pc : Int) + off).toNat lo st S)
/-- a binary operation on ints -/
def gv_i2 (f : Int32 → Int32 → Int32) (pc : Nat) (lo : gv_L) (st : List Value) (S : gv_S) : Option gv_A := gv_pi st fun y r => gv_pi r fun x r => gv_go (pc + 1) lo (.int (f x y) :: r) S
def gv_l2 (f : Int64 → Int64 → Int64) (pc : Nat) (lo : gv_L) (st : List Value) (S : gv_S) : Option gv_A := gv_pl st fun y r => gv_pl r fun x r => gv_go (pc + 1) lo (.long (f x y) :: r) S
def gv_iret (ret : Option FieldType) (st : List Value) : Option gv_A := match st with
  | [.int x] => (match ret with
    | some .int => gv_ret (some (.int x))
    | some .boolean => gv_gd (decide (x = 0) || decide (x = 1)) (gv_ret (some (.int x)))
    | _ => none)
  | _ => none
def gv_step (fk : List (List Nat)) (tx : List (List Int32)) (X : gv_X) (M : gv_Mt) (pc : Nat) (lo : gv_L) (st : List Value) (S : gv_S) : Option gv_A :=
  match M.2.2.2.2.2 pc with
  | (.iconst _, _, _, c) => gv_go (pc + 1) lo (.int c :: st) S
  | (.bipush _, _, _, c) => gv_go (pc + 2) lo (.int c :: st) S
  | (.sipush _, _, _, c) => gv_go (pc + 3) lo (.int c :: st) S
  | (.lconst k, _, _, _) => gv_go (pc + 1) lo (.long (Int64.ofNat k.val) :: st) S
  | (.ldc _, a, b, c) => (match b with
    | 0 => gv_go (pc + 2) lo (.int c :: st) S
    | _ => gv_go (pc + 2) lo (.retAddr (a + 1) :: st) S)
  | (.ldc_w _, a, b, c) => (match b with
    | 0 => gv_go (pc + 3) lo (.int c :: st) S
    | _ => gv_go (pc + 3) lo (.retAddr (a + 1) :: st) S)
  | (.ldc2_w _, a, _, _) => gv_go (pc + 3) lo (.long (Int64.ofNat a) :: st) S
  | (.iload_n k, _, _, _) => gv_li lo k.val fun x => gv_go (pc + 1) lo (.int x :: st) S
  | (.iload k, _, _, _) => gv_li lo k fun x => gv_go (pc + 2) lo (.int x :: st) S
  | (.lload_n k, _, _, _) => gv_ll lo k.val fun x => gv_go (pc + 1) lo (.long x :: st) S
  | (.lload k, _, _, _) => gv_ll lo k fun x => gv_go (pc + 2) lo (.long x :: st) S
  | (.aload_n k, _, _, _) => gv_la lo k.val fun x => gv_go (pc + 1) lo (x :: st) S
  | (.aload k, _, _, _) => gv_la lo k fun x => gv_go (pc + 2) lo (x :: st) S
  | (.istore_n k, _, _, _) => gv_pi st fun x r => gv_sto lo k.val (some (.int x)) fun lo => gv_go (pc + 1) lo r S
  | (.istore k, _, _, _) => gv_pi st fun x r => gv_sto lo k (some (.int x)) fun lo => gv_go (pc + 2) lo r S
  | (.lstore_n k, _, _, _) => gv_pl st fun x r => gv_sto2 lo k.val (some (.long x)) fun lo => gv_go (pc + 1) lo r S
  | (.lstore k, _, _, _) => gv_pl st fun x r => gv_sto2 lo k (some (.long x)) fun lo => gv_go (pc + 2) lo r S
  | (.astore_n k, _, _, _) => gv_pa st fun x r => gv_sto lo k.val (some x) fun lo => gv_go (pc + 1) lo r S
  | (.astore k, _, _, _) => gv_pa st fun x r => gv_sto lo k (some x) fun lo => gv_go (pc + 2) lo r S
  | (.iinc k _, _, _, c) => gv_li lo k fun x => gv_sto lo k (some (.int (x + c))) fun lo => gv_go (pc + 3) lo st S
  | (.iadd, _, _, _) => gv_i2 (fun x y => x + y) pc lo st S
  | (.isub, _, _, _) => gv_i2 (fun x y => x - y) pc lo st S
  | (.imul, _, _, _) => gv_i2 (fun x y => x * y) pc lo st S
  | (.iand, _, _, _) => gv_i2 (fun x y => x &&& y) pc lo st S
  | (.ior, _, _, _) => gv_i2 (fun x y => x ||| y) pc lo st S
  | (.ixor, _, _, _) => gv_i2 (fun x y => x ^^^ y) pc lo st S
  | (.ishl, _, _, _) => gv_i2 (fun x y => x <<< (y &&& 31)) pc lo st S
  | (.ishr, _, _, _) => gv_i2 (fun x y => x >>> (y &&& 31)) pc lo st S
  | (.iushr, _, _, _) => gv_i2 (fun x y => (x.toUInt32 >>> (y.toUInt32 &&& Int32.toUInt32 31)).toInt32) pc lo st S
  | (.idiv, _, _, _) => gv_pi st fun y r => gv_pi r fun x r => gv_gd (decide (¬ y = 0)) (gv_go (pc + 1) lo (.int (x / y) :: r) S)
  | (.irem, _, _, _) => gv_pi st fun y r => gv_pi r fun x r => gv_gd (decide (¬ y = 0)) (gv_go (pc + 1) lo (.int (x - x / y * y) :: r) S)
  | (.ineg, _, _, _) => gv_pi st fun x r => gv_go (pc + 1) lo (.int (-x) :: r) S
  | (.ladd, _, _, _) => gv_l2 (fun x y => x + y) pc lo st S
  | (.lmul, _, _, _) => gv_l2 (fun x y => x * y) pc lo st S
  | (.ldiv, _, _, _) => gv_pl st fun y r => gv_pl r fun x r => gv_gd (decide (¬ y = 0)) (gv_go (pc + 1) lo (.long (x / y) :: r) S)
  | (.lcmp, _, _, _) => gv_pl st fun y r => gv_pl r fun x r => gv_go (pc + 1) lo (.int (lg_cmp x y) :: r) S
  | (.i2l, _, _, _) => gv_pi st fun x r => gv_go (pc + 1) lo (.long x.toInt64 :: r) S
  | (.l2i, _, _, _) => gv_pl st fun x r => gv_go (pc + 1) lo (.int x.toInt32 :: r) S
  | (.i2b, _, _, _) => gv_pi st fun x r => gv_go (pc + 1) lo (.int x.toInt8.toInt32 :: r) S
  | (.dup, _, _, _) => (match st with
    | v :: r => gv_gd (Nat.beq v.category 1) (gv_go (pc + 1) lo (v :: v :: r) S)
    | _ => none)
  | (.pop, _, _, _) => (match st with
    | v :: r => gv_gd (Nat.beq v.category 1) (gv_go (pc + 1) lo r S)
    | _ => none)
  | (.dup2, _, _, _) => (match st with
    | v :: w :: r => gv_gd (Nat.beq v.category 1 && Nat.beq w.category 1) (gv_go (pc + 1) lo (v :: w :: v :: w :: r) S)
    | _ => none)
  | (.goto _, a, _, _) => gv_go a lo st S
  | (.ifCond k _, a, _, _) => gv_pi st fun x r => gv_br (gv_cmp k x 0) a (pc + 3) r
  | (.if_icmp k _, a, _, _) => gv_pi st fun y r => gv_pi r fun x r => gv_br (gv_cmp k x y) a (pc + 3) r
  | (.tableswitch d l h os, _, _, _) => gv_pi st fun x r => (match decide (x.toInt < l) || decide (h < x.toInt) with
    | true => gv_jmp pc d lo r S
    | false => (match os[(x.toInt - l).toNat]? with
      | some o => gv_jmp pc o lo r S
      | none => none))
  | (.lookupswitch d ps, _, _, _) => gv_pi st fun x r => gv_jmp pc (Op.lookupswitch.offset ps.toList d x.toInt) lo r S
  | (.getfield _, a, b, _) => gv_pr st fun q r => gv_gd (Nat.beq (S.1.2.1 q).1 a) (match gv_fk fk a b with
    | 2 => (match S.1.2.2 q b with
      | some t => gv_go (pc + 3) lo (.ref t :: r) S
      | none => none)
    | 9 => none
    | _ => gv_go (pc + 3) lo (.int (S.2.1.1 q b) :: r) S)
  | (.putfield _, a, b, _) => (match gv_fk fk a b with
    | 0 => gv_pi st fun x r => gv_pr r fun q r => gv_gd (Nat.beq (S.1.2.1 q).1 a) (gv_go (pc + 3) lo r (gv_setI S q b x))
    | 1 => gv_pi st fun x r => gv_pr r fun q r => gv_gd (Nat.beq (S.1.2.1 q).1 a && (decide (x = 0) || decide (x = 1))) (gv_go (pc + 3) lo r (gv_setI S q b x))
    | 2 => gv_pr st fun x r => gv_pr r fun q r => gv_gd (Nat.beq (S.1.2.1 q).1 a) (gv_go (pc + 3) lo r (gv_setP S q b (some x)))
    | _ => none)
  | (.iaload, _, _, _) => gv_pi st fun i r => (match r with
    | .retAddr 0 :: r => gv_gd (gv_in i X.2) (gv_go (pc + 1) lo (.int (X.1 i.toNatClampNeg) :: r) S)
    | .ref q :: r => gv_gd (Nat.beq (S.1.2.1 q).1 100 && gv_in i (S.1.2.1 q).2) (gv_go (pc + 1) lo (.int (S.2.1.1 q i.toNatClampNeg) :: r) S)
    | _ => none)
  | (.baload, _, _, _) => gv_pi st fun i r => gv_pr r fun q r => gv_gd (Nat.beq (S.1.2.1 q).1 101 && gv_in i (S.1.2.1 q).2) (gv_go (pc + 1) lo (.int (S.2.1.1 q i.toNatClampNeg) :: r) S)
  | (.laload, _, _, _) => gv_pi st fun i r => gv_pr r fun q r => gv_gd (Nat.beq (S.1.2.1 q).1 102 && gv_in i (S.1.2.1 q).2) (gv_go (pc + 1) lo (.long (S.2.1.2 q i.toNatClampNeg) :: r) S)
  | (.aaload, _, _, _) => gv_pi st fun i r => gv_pr r fun q r => gv_gd (Nat.beq (S.1.2.1 q).1 103 && gv_in i (S.1.2.1 q).2) (match S.1.2.2 q i.toNatClampNeg with
    | some t => gv_go (pc + 1) lo (.ref t :: r) S
    | none => none)
  | (.iastore, _, _, _) => gv_pi st fun x r => gv_pi r fun i r => gv_pr r fun q r => gv_gd (Nat.beq (S.1.2.1 q).1 100 && gv_in i (S.1.2.1 q).2) (gv_go (pc + 1) lo r (gv_setI S q i.toNatClampNeg x))
  | (.bastore, _, _, _) => gv_pi st fun x r => gv_pi r fun i r => gv_pr r fun q r => gv_gd (Nat.beq (S.1.2.1 q).1 101 && gv_in i (S.1.2.1 q).2) (gv_go (pc + 1) lo r (gv_setI S q i.toNatClampNeg (vp_nar .byte x)))
  | (.lastore, _, _, _) => gv_pl st fun x r => gv_pi r fun i r => gv_pr r fun q r => gv_gd (Nat.beq (S.1.2.1 q).1 102 && gv_in i (S.1.2.1 q).2) (gv_go (pc + 1) lo r (gv_setJ S q i.toNatClampNeg x))
  | (.aastore, a, _, _) => gv_pr st fun x r => gv_pi r fun i r => gv_pr r fun q r => gv_gd (Nat.beq (S.1.2.1 q).1 103 && gv_in i (S.1.2.1 q).2 && Nat.beq (S.1.2.1 x).1 a) (gv_go (pc + 1) lo r (gv_setP S q i.toNatClampNeg (some x)))
  | (.arraylength, _, _, _) => (match st with
    | .retAddr 0 :: r => gv_go (pc + 1) lo (.int (Int32.ofNat X.2) :: r) S
    | .ref q :: r => gv_gd (Nat.ble 100 (S.1.2.1 q).1 && Nat.ble (S.1.2.1 q).1 103) (gv_go (pc + 1) lo (.int (Int32.ofNat (S.1.2.1 q).2) :: r) S)
    | _ => none)
  | (.new _, a, b, _) => (match Nat.ble 300 a with
    | true => gv_gd (Nat.ble (gv_cat st) 8) (gv_thr (a - 300))
    | false => gv_gd (Nat.beq S.2.2.1 0) (gv_go (pc + 3) lo (.ref S.1.1 :: st) (gv_new S a 0 b)))
  | (.newarray _, a, _, _) => gv_pi st fun n r => gv_gd (Nat.beq S.2.2.1 0 && !(decide (n < 0)) && Nat.ble n.toNatClampNeg 1000000) (gv_go (pc + 2) lo (.ref S.1.1 :: r) (gv_new S a n.toNatClampNeg n.toNatClampNeg))
  | (.anewarray _, a, _, _) => gv_pi st fun n r => gv_gd (Nat.beq S.2.2.1 0 && !(decide (n < 0)) && Nat.ble n.toNatClampNeg 1000000) (gv_go (pc + 3) lo (.ref S.1.1 :: r) (gv_new S a n.toNatClampNeg n.toNatClampNeg))
  | (.invokevirtual _, a, b, _) => (match Nat.ble 990000 a with
    | true => (match a with
      | 990001 => gv_px st fun q r => gv_gd (Nat.ble 1 q && Nat.blt (q - 1) tx.length && Nat.ble (gv_cat r) 8) (gv_go (pc + 3) lo (.int (Int32.ofNat (gv_str tx q).length) :: r) S)
      | _ => gv_pi st fun i r => gv_px r fun q r => gv_gd (Nat.ble 1 q && Nat.blt (q - 1) tx.length && gv_in i (gv_str tx q).length && Nat.ble (gv_cat r) 8) (gv_go (pc + 3) lo (.int ((gv_str tx q).getD i.toNatClampNeg 0) :: r) S))
    | false => gv_args (b / 100) st fun as r => gv_pr r fun q r => gv_gd (Nat.beq (S.1.2.1 q).1 (b % 100) && Nat.ble (gv_cat r) 8) (gv_call a true (.ref q :: as) r))
  | (.invokespecial _, a, b, _) => (match Nat.ble 990000 a with
    | true => gv_pr st fun _ r => gv_gd (Nat.ble (gv_cat r) 8) (gv_go (pc + 3) lo r S)
    | false => gv_args b st fun as r => gv_pr r fun q r => gv_gd (Nat.ble (gv_cat r) 8) (gv_call a false (.ref q :: as) r))
  | (.invokestatic _, a, b, _) => (match Nat.ble 990000 a with
    | true => gv_pi st fun n r => gv_pi r fun dp r => gv_pr r fun q1 r => gv_pi r fun sp r => gv_pr r fun q0 r => gv_gd (Nat.beq (S.1.2.1 q0).1 100 && Nat.beq (S.1.2.1 q1).1 100 && !(decide (sp < 0)) && !(decide (dp < 0)) && !(decide (n < 0)) && Nat.ble (sp.toNatClampNeg + n.toNatClampNeg) (S.1.2.1 q0).2 && Nat.ble (dp.toNatClampNeg + n.toNatClampNeg) (S.1.2.1 q1).2 && Nat.ble (gv_cat r) 8) (gv_go (pc + 3) lo r (gv_row S q1 (va_cpy (S.2.1.1 q0) (S.2.1.1 q1) sp.toNatClampNeg dp.toNatClampNeg n.toNatClampNeg)))
    | false => gv_args b st fun as r => gv_gd (Nat.ble (gv_cat r) 8) (gv_call a false as r))
  | (.ireturn, _, _, _) => gv_iret M.2.2.2.1 st
  | (.lreturn, _, _, _) => (match st with
    | [.long x] => gv_ret (some (.long x))
    | _ => none)
  | (.return_, _, _, _) => (match st with
    | [] => gv_ret none
    | _ => none)
  | _ => none
/-- the locals at a method's entry -/
def gv_ent : List Value → gv_L
  | [] => []
  | v :: r => (match Nat.beq v.category 2 with
    | true => some v :: none :: gv_ent r
    | false => some v :: gv_ent r)
def gv_enter (as : List Value) (n : Nat) : gv_L := gv_ent as ++ List.replicate (n - (gv_ent as).length) none
/-- the handler that takes what is thrown at pc -/
def gv_hand : List (Nat × Nat × Nat × Nat × Nat) → Nat → Nat → Option Nat
  | [], _, _ => none
  | (a, b, h, _, x) :: r, pc, e => bif (Nat.ble a pc && Nat.blt pc b && Nat.beq x e) then some h else gv_hand r pc e
def gv_caught (M : gv_Mt) (h : Nat) (lo : gv_L) : Option (Nat × gv_L) := match M.2.2.2.2.2 h with
  | (.astore_n k, _, _, _) => gv_sto lo k.val none fun lo => some (h + 1, lo)
  | (.astore k, _, _, _) => gv_sto lo k none fun lo => some (h + 2, lo)
  | _ => none
def gv_run (fk : List (List Nat)) (tx : List (List Int32)) (P : Nat → gv_Mt) (X : gv_X) : Nat → Nat → gv_Mt → Nat → gv_L → List Value → gv_S → Option (gv_O × gv_S)
  | 0, _, _, _, _, _, _ => none
  | n + 1, d, M, pc, lo, st, S => match gv_step fk tx X M pc lo st S with
    | none => none
    | some (.inl (pc', lo', st', S')) => gv_run fk tx P X n d M pc' lo' st' S'
    | some (.inr (.inl (b, t, f, st'))) => (match b with
      | true => gv_run fk tx P X n d M t lo st' S
      | false => gv_run fk tx P X n d M f lo st' S)
    | some (.inr (.inr (.inl (k, vf, as, rest)))) => (match d with
      | 0 => none
      | d + 1 => (match gv_gd (Nat.ble (gv_ent as).length (P k).2.2.1) (gv_run fk tx P X n d (P k) 0 (gv_enter as (P k).2.2.1) [] S) with
        | none => none
        | some (.inl v, S') => gv_run fk tx P X n (d + 1) M (pc + 3) lo (v.toList ++ rest) S'
        | some (.inr e, S') => (match vf with
          | false => none
          | true => (match gv_hand M.2.2.2.2.1 pc e with
            | none => (match M.2.2.2.2.1 with
              | [] => some (.inr e, S')
              | _ => none)
            | some h => (match gv_caught M h lo with
              | none => none
              | some (pc', lo') => gv_run fk tx P X n (d + 1) M pc' lo' [] S')))))
    | some (.inr (.inr (.inr (.inl v)))) => some (.inl v, S)
    | some (.inr (.inr (.inr (.inr e)))) => some (.inr e, gv_ex S)
