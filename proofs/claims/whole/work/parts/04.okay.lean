/-! what must stand in the tables for an instruction to be walked: decided by program -/
def gv_own (M : gv_Mt) : String := M.1.cls
/-- what a call needs of the tables but its own link -/
def gv_okC (Ts : List Cond) (y : MethodName) (n : Nat) : Prop := Cond.initialized y.cls ∈ Ts ∧ (y.cls ≠ "java/lang/invoke/MethodHandle" ∧ y.cls ≠ "java/lang/invoke/VarHandle") ∧ (parseMethodDescriptor y.desc).map (fun d => d.parameters.length) = some n
def gv_okE (cl : List vw_C) (fk : List (List Nat)) (tf : Nat → Nat → FieldType) (P : Nat → gv_Mt) (Ts : List Cond) (M : gv_Mt) (pc : Nat) : Prop :=
  match M.2.2.2.2.2 pc with
  | (.nop, _, _, _) => True
  | (.iconst n, _, _, c) => decode M.2.1 pc = .ok (.iconst n, 1) ∧ Int32.ofInt n = c
  | (.bipush n, _, _, c) => decode M.2.1 pc = .ok (.bipush n, 2) ∧ (Int8.ofInt n).toInt32 = c
  | (.sipush n, _, _, c) => decode M.2.1 pc = .ok (.sipush n, 3) ∧ (Int16.ofInt n).toInt32 = c
  | (.lconst n, _, _, _) => decode M.2.1 pc = .ok (.lconst n, 1)
  | (.ldc i, _, b, c) => decode M.2.1 pc = .ok (.ldc i, 2) ∧ (b = 0 → Cond.constant (gv_own M) i c ∈ Ts)
  | (.ldc_w i, _, b, c) => decode M.2.1 pc = .ok (.ldc_w i, 3) ∧ (b = 0 → Cond.constant (gv_own M) i c ∈ Ts)
  | (.ldc2_w i, a, _, _) => decode M.2.1 pc = .ok (.ldc2_w i, 3) ∧ Cond.constantLong (gv_own M) i (Int64.ofNat a) ∈ Ts
  | (.iload_n k, _, _, _) => decode M.2.1 pc = .ok (.iload_n k, 1)
  | (.iload k, _, _, _) => decode M.2.1 pc = .ok (.iload k, 2)
  | (.lload_n k, _, _, _) => decode M.2.1 pc = .ok (.lload_n k, 1)
  | (.lload k, _, _, _) => decode M.2.1 pc = .ok (.lload k, 2)
  | (.aload_n k, _, _, _) => decode M.2.1 pc = .ok (.aload_n k, 1)
  | (.aload k, _, _, _) => decode M.2.1 pc = .ok (.aload k, 2)
  | (.istore_n k, _, _, _) => decode M.2.1 pc = .ok (.istore_n k, 1)
  | (.istore k, _, _, _) => decode M.2.1 pc = .ok (.istore k, 2)
  | (.lstore_n k, _, _, _) => decode M.2.1 pc = .ok (.lstore_n k, 1)
  | (.lstore k, _, _, _) => decode M.2.1 pc = .ok (.lstore k, 2)
  | (.astore_n k, _, _, _) => decode M.2.1 pc = .ok (.astore_n k, 1)
  | (.astore k, _, _, _) => decode M.2.1 pc = .ok (.astore k, 2)
  | (.iinc k n, _, _, c) => decode M.2.1 pc = .ok (.iinc k n, 3) ∧ Int32.ofInt n = c
  | (.goto o, a, _, _) => decode M.2.1 pc = .ok (.goto o, 3) ∧ (pc : Int) + o = (a : Int)
  | (.ifCond k o, a, _, _) => decode M.2.1 pc = .ok (.ifCond k o, 3) ∧ (pc : Int) + o = (a : Int)
  | (.if_icmp k o, a, _, _) => decode M.2.1 pc = .ok (.if_icmp k o, 3) ∧ (pc : Int) + o = (a : Int)
  | (.tableswitch d l h os, a, _, _) => decode M.2.1 pc = .ok (.tableswitch d l h os, a)
  | (.lookupswitch d ps, a, _, _) => decode M.2.1 pc = .ok (.lookupswitch d ps, a) ∧ (ps.toList.zip (ps.toList.drop 1)).all (fun (x, y) => x.1 < y.1) = true
  | (.getfield i, a, b, _) => decode M.2.1 pc = .ok (.getfield i, 3) ∧ a < 50 ∧ ∃ r : vw_C, cl[a]? = some r ∧ b < r.2.2 ∧ (fk.getD a []).length = r.2.2 ∧ Cond.fieldLink (gv_own M) i (r.2.1 b).1 (r.2.1 b).2.1 (r.2.1 b).2.2.1 ∈ Ts ∧ ∀ w ∈ u_ws r.1 r.2.1 r.2.2, w ∈ Ts
  | (.putfield i, a, b, _) => decode M.2.1 pc = .ok (.putfield i, 3) ∧ a < 50 ∧ ∃ r : vw_C, cl[a]? = some r ∧ b < r.2.2 ∧ (fk.getD a []).length = r.2.2 ∧ Cond.fieldLink (gv_own M) i (r.2.1 b).1 (r.2.1 b).2.1 (r.2.1 b).2.2.1 ∈ Ts ∧ (∀ w ∈ u_ws r.1 r.2.1 r.2.2, w ∈ Ts) ∧
      (∀ k, k < r.2.2 → parseFieldDescriptor (r.2.1 k).2.2.1 = some (tf a k)) ∧ (∀ x, x < r.2.2 → ∀ y, y < r.2.2 → x ≠ y → (r.2.1 x).2.1 ≠ (r.2.1 y).2.1) ∧
      ((r.2.1 b).2.2.2 = true → M.1.name = "<init>" ∧ (r.2.1 b).1 = gv_own M) ∧
      (gv_fk fk a b = 0 → tf a b = .int) ∧ (gv_fk fk a b = 1 → tf a b = .boolean) ∧ (gv_fk fk a b = 2 → (∃ C, tf a b = .object C) ∨ ∃ t, tf a b = .array t)
  | (.new i, a, b, _) => a < 50 → decode M.2.1 pc = .ok (.new i, 3) ∧ ∃ r : vw_C, cl[a]? = some r ∧ b = r.2.2 ∧ (fk.getD a []).length = r.2.2 ∧ (∀ w ∈ u_ws r.1 r.2.1 r.2.2, w ∈ Ts) ∧ (∀ k, k < r.2.2 → parseFieldDescriptor (r.2.1 k).2.2.1 = some (tf a k)) ∧ Cond.classLink (gv_own M) i r.1 ∈ Ts ∧ Cond.instantiable r.1 r.2.2 ∈ Ts ∧ Cond.initialized r.1 ∈ Ts ∧
      (∀ k, k < r.2.2 → defaultValue (tf a k) = if gv_fk fk a k = 2 then .null else .int 0)
  | (.newarray t, a, _, _) => decode M.2.1 pc = .ok (.newarray t, 2) ∧ Cond.arrayClass (newarray.typeOf t) ∈ Ts ∧ ((t = .int ∧ a = 100) ∨ (t = .byte ∧ a = 101) ∨ (t = .long ∧ a = 102))
  | (.anewarray i, a, _, _) => decode M.2.1 pc = .ok (.anewarray i, 3) ∧ a = 103 ∧ Cond.classLink (gv_own M) i "GuestView$World" ∈ Ts
  | (.aastore, a, _, _) => decode M.2.1 pc = .ok (.aastore, 1) ∧ a < 50 ∧ ∃ r : vw_C, cl[a]? = some r ∧ r.1 = "GuestView$World"
  | (.invokevirtual i, a, b, _) => decode M.2.1 pc = .ok (.invokevirtual i, 3) ∧ (a < 990000 → b % 100 < 50 ∧ (∃ r : vw_C, cl[b % 100]? = some r ∧ r.1 = (P a).1.cls) ∧ gv_okC Ts (P a).1 (b / 100) ∧ Cond.methodLink (gv_own M) i (P a).1 ∈ Ts ∧ Cond.instanceMethod (P a).1 ∈ Ts ∧ Cond.selects (P a).1.cls (P a).1 (P a).1 ∈ Ts ∧ (P a).2.2.2.2.1 = [])
  | (.invokespecial i, a, b, _) => decode M.2.1 pc = .ok (.invokespecial i, 3) ∧ (990000 ≤ a → Cond.methodLink (gv_own M) i Lib.objectInit ∈ Ts ∧ Cond.instanceMethod Lib.objectInit ∈ Ts ∧ Cond.code Lib.objectInit ⟨#[0xb1]⟩ 1 none ∈ Ts) ∧
      (a < 990000 → gv_okC Ts (P a).1 b ∧ Cond.instanceMethod (P a).1 ∈ Ts ∧ (P a).1.name = "<init>" ∧ (P a).2.2.2.1 = none ∧ (P a).2.2.2.2.1 = [])
  | (.invokestatic i, a, b, _) => decode M.2.1 pc = .ok (.invokestatic i, 3) ∧ (990000 ≤ a → Cond.methodLink (gv_own M) i arraycopyName ∈ Ts ∧ Cond.native arraycopyName ∈ Ts ∧ Cond.static arraycopyName ∈ Ts ∧ Cond.initialized "java/lang/System" ∈ Ts) ∧
      (a < 990000 → gv_okC Ts (P a).1 b ∧ Cond.methodLink (gv_own M) i (P a).1 ∈ Ts ∧ Cond.static (P a).1 ∈ Ts)
  | (i, _, _, _) => decode M.2.1 pc = .ok (i, 1)
