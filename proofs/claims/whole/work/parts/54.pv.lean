/-! the rules once more: a set of results -/
def EvP (X : gv_X) (d : Nat) (M : gv_Mt) (pc : Nat) (lo : gv_L) (st : List Value) (S : gv_S) (P : gv_O × gv_S → Prop) : Prop := ∃ r, Ev X d M pc lo st S r ∧ P r
theorem evp_det {X : gv_X} {d : Nat} {M : gv_Mt} {pc : Nat} {lo : gv_L} {st : List Value} {S : gv_S} {r : gv_O × gv_S} (h : EvP X d M pc lo st S (fun x => x = r)) : Ev X d M pc lo st S r := by
  obtain ⟨x, h1, rfl⟩ := h
  exact h1
theorem evp_of {X : gv_X} {d : Nat} {M : gv_Mt} {pc : Nat} {lo : gv_L} {st : List Value} {S : gv_S} {r : gv_O × gv_S} {P : gv_O × gv_S → Prop} (h : Ev X d M pc lo st S r) (hp : P r) : EvP X d M pc lo st S P := ⟨r, h, hp⟩
theorem evp_mono {X : gv_X} {d : Nat} {M : gv_Mt} {pc : Nat} {lo : gv_L} {st : List Value} {S : gv_S} {P Q : gv_O × gv_S → Prop} (h : EvP X d M pc lo st S P) (hp : ∀ r, P r → Q r) : EvP X d M pc lo st S Q := by
  obtain ⟨r, h1, h2⟩ := h
  exact ⟨r, h1, hp r h2⟩
section PV
variable {X : gv_X} {d : Nat} {M : gv_Mt} {pc : Nat} {lo : gv_L} {st : List Value} {S : gv_S} {P : gv_O × gv_S → Prop} {a b : Nat} {z : Int32}
theorem pv_go {pc' : Nat} {lo' : gv_L} {st' : List Value} {S' : gv_S} (h : gv_step gv_fkT gv_txT X M pc lo st S = some (.inl (pc', lo', st', S'))) (k : EvP X d M pc' lo' st' S' P) : EvP X d M pc lo st S P := by
  obtain ⟨r, k, hp⟩ := k
  exact ⟨r, ev_go h k, hp⟩
theorem pv_br {t f : Nat} {c : Bool} {st' : List Value} (h : gv_step gv_fkT gv_txT X M pc lo st S = some (.inr (.inl (c, t, f, st')))) (kt : c = true → EvP X d M t lo st' S P) (kf : c = false → EvP X d M f lo st' S P) : EvP X d M pc lo st S P := by
  cases c
  · obtain ⟨r, k, hp⟩ := kf rfl
    exact ⟨r, ev_br h (fun e => nomatch e) (fun _ => k), hp⟩
  · obtain ⟨r, k, hp⟩ := kt rfl
    exact ⟨r, ev_br h (fun _ => k) (fun e => nomatch e), hp⟩
theorem pv_cal {k : Nat} {vf : Bool} {as rest : List Value} {v : Option Value} {S' : gv_S} {N : gv_Mt} (h : gv_step gv_fkT gv_txT X M pc lo st S = some (.inr (.inr (.inl (k, vf, as, rest))))) (hN : gv_meth k = N) (hl : Nat.ble (gv_ent as).length N.2.2.1 = true) (k1 : Ev X d N 0 (gv_enter as N.2.2.1) [] S (.inl v, S')) (k2 : EvP X (d + 1) M (pc + 3) lo (v.toList ++ rest) S' P) : EvP X (d + 1) M pc lo st S P := by
  obtain ⟨r, k, hp⟩ := k2
  exact ⟨r, ev_cal h hN hl k1 k, hp⟩
theorem pv_calT {k : Nat} {as rest : List Value} {x : Nat} {S' : gv_S} {N : gv_Mt} (h : gv_step gv_fkT gv_txT X M pc lo st S = some (.inr (.inr (.inl (k, true, as, rest))))) (hN : gv_meth k = N) (hl : Nat.ble (gv_ent as).length N.2.2.1 = true) (hh : M.2.2.2.2.1 = []) (k1 : Ev X d N 0 (gv_enter as N.2.2.1) [] S (.inr x, S')) (hr : P (.inr x, S')) : EvP X (d + 1) M pc lo st S P := ⟨_, ev_calT h hN hl hh k1 rfl, hr⟩
theorem pv_calC {k : Nat} {as rest : List Value} {x y pc' : Nat} {lo' : gv_L} {S' : gv_S} {N : gv_Mt} (h : gv_step gv_fkT gv_txT X M pc lo st S = some (.inr (.inr (.inl (k, true, as, rest))))) (hN : gv_meth k = N) (hl : Nat.ble (gv_ent as).length N.2.2.1 = true) (hh : gv_hand M.2.2.2.2.1 pc x = some y) (hc : gv_caught M y lo = some (pc', lo')) (k1 : Ev X d N 0 (gv_enter as N.2.2.1) [] S (.inr x, S')) (k2 : EvP X (d + 1) M pc' lo' [] S' P) : EvP X (d + 1) M pc lo st S P := by
  obtain ⟨r, k, hp⟩ := k2
  exact ⟨r, ev_calC h hN hl hh hc k1 k, hp⟩
theorem pv_rt {v : Option Value} (h : gv_step gv_fkT gv_txT X M pc lo st S = some (.inr (.inr (.inr (.inl v))))) (hr : P (.inl v, S)) : EvP X d M pc lo st S P := ⟨_, ev_rt h rfl, hr⟩
theorem pv_th {e : Nat} (h : gv_step gv_fkT gv_txT X M pc lo st S = some (.inr (.inr (.inr (.inr e))))) (hr : P (.inr e, gv_ex S)) : EvP X d M pc lo st S P := ⟨_, ev_th h rfl, hr⟩
variable {G : gv_Sh} {m : Nat → Nat → Int32} {j : Nat → Nat → Int64} {cc : gv_Rs}
theorem pv_iconst {i} (h : M.2.2.2.2.2 pc = (.iconst i, a, b, z)) (k : EvP X d M (pc + 1) lo (.int z :: st) S P) : EvP X d M pc lo st S P := pv_go (ev_st h rfl) k
theorem pv_bipush {i} (h : M.2.2.2.2.2 pc = (.bipush i, a, b, z)) (k : EvP X d M (pc + 2) lo (.int z :: st) S P) : EvP X d M pc lo st S P := pv_go (ev_st h rfl) k
theorem pv_sipush {i} (h : M.2.2.2.2.2 pc = (.sipush i, a, b, z)) (k : EvP X d M (pc + 3) lo (.int z :: st) S P) : EvP X d M pc lo st S P := pv_go (ev_st h rfl) k
theorem pv_ldc {i} (h : M.2.2.2.2.2 pc = (.ldc i, a, 0, z)) (k : EvP X d M (pc + 2) lo (.int z :: st) S P) : EvP X d M pc lo st S P := pv_go (ev_st h rfl) k
theorem pv_ldcS {i} (h : M.2.2.2.2.2 pc = (.ldc i, a, 1, z)) (k : EvP X d M (pc + 2) lo (.retAddr (a + 1) :: st) S P) : EvP X d M pc lo st S P := pv_go (ev_st h rfl) k
theorem pv_ldc_w {i} (h : M.2.2.2.2.2 pc = (.ldc_w i, a, 0, z)) (k : EvP X d M (pc + 3) lo (.int z :: st) S P) : EvP X d M pc lo st S P := pv_go (ev_st h rfl) k
theorem pv_ldc_wS {i} (h : M.2.2.2.2.2 pc = (.ldc_w i, a, 1, z)) (k : EvP X d M (pc + 3) lo (.retAddr (a + 1) :: st) S P) : EvP X d M pc lo st S P := pv_go (ev_st h rfl) k
theorem pv_lconst {i} (h : M.2.2.2.2.2 pc = (.lconst i, a, b, z)) (k : EvP X d M (pc + 1) lo (.long (Int64.ofNat i.val) :: st) S P) : EvP X d M pc lo st S P := pv_go (ev_st h rfl) k
theorem pv_ldc2 {i} (h : M.2.2.2.2.2 pc = (.ldc2_w i, a, b, z)) (k : EvP X d M (pc + 3) lo (.long (Int64.ofNat a) :: st) S P) : EvP X d M pc lo st S P := pv_go (ev_st h rfl) k
theorem pv_iload_n {i} {x : Int32} (h : M.2.2.2.2.2 pc = (.iload_n i, a, b, z)) (hl : lo[i.val]? = some (some (.int x))) (k : EvP X d M (pc + 1) lo (.int x :: st) S P) : EvP X d M pc lo st S P := pv_go (pc' := pc + 1) (lo' := lo) (st' := .int x :: st) (S' := S) (ev_st h (by show gv_li lo (i.val) (fun y => gv_go (pc + 1) lo (.int y :: st) S) = _; unfold gv_li; rw [hl]; rfl)) k
theorem pv_iload {i} {x : Int32} (h : M.2.2.2.2.2 pc = (.iload i, a, b, z)) (hl : lo[i]? = some (some (.int x))) (k : EvP X d M (pc + 2) lo (.int x :: st) S P) : EvP X d M pc lo st S P := pv_go (pc' := pc + 2) (lo' := lo) (st' := .int x :: st) (S' := S) (ev_st h (by show gv_li lo (i) (fun y => gv_go (pc + 2) lo (.int y :: st) S) = _; unfold gv_li; rw [hl]; rfl)) k
theorem pv_lload_n {i} {x : Int64} (h : M.2.2.2.2.2 pc = (.lload_n i, a, b, z)) (hl : lo[i.val]? = some (some (.long x))) (k : EvP X d M (pc + 1) lo (.long x :: st) S P) : EvP X d M pc lo st S P := pv_go (pc' := pc + 1) (lo' := lo) (st' := .long x :: st) (S' := S) (ev_st h (by show gv_ll lo (i.val) (fun y => gv_go (pc + 1) lo (.long y :: st) S) = _; unfold gv_ll; rw [hl]; rfl)) k
theorem pv_lload {i} {x : Int64} (h : M.2.2.2.2.2 pc = (.lload i, a, b, z)) (hl : lo[i]? = some (some (.long x))) (k : EvP X d M (pc + 2) lo (.long x :: st) S P) : EvP X d M pc lo st S P := pv_go (pc' := pc + 2) (lo' := lo) (st' := .long x :: st) (S' := S) (ev_st h (by show gv_ll lo (i) (fun y => gv_go (pc + 2) lo (.long y :: st) S) = _; unfold gv_ll; rw [hl]; rfl)) k
theorem pv_aload_n {i} {x : Nat} (h : M.2.2.2.2.2 pc = (.aload_n i, a, b, z)) (hl : lo[i.val]? = some (some (.ref x))) (k : EvP X d M (pc + 1) lo (.ref x :: st) S P) : EvP X d M pc lo st S P := pv_go (pc' := pc + 1) (lo' := lo) (st' := .ref x :: st) (S' := S) (ev_st h (by show gv_la lo (i.val) (fun y => gv_go (pc + 1) lo (y :: st) S) = _; unfold gv_la; rw [hl]; rfl)) k
theorem pv_aload {i} {x : Nat} (h : M.2.2.2.2.2 pc = (.aload i, a, b, z)) (hl : lo[i]? = some (some (.ref x))) (k : EvP X d M (pc + 2) lo (.ref x :: st) S P) : EvP X d M pc lo st S P := pv_go (pc' := pc + 2) (lo' := lo) (st' := .ref x :: st) (S' := S) (ev_st h (by show gv_la lo (i) (fun y => gv_go (pc + 2) lo (y :: st) S) = _; unfold gv_la; rw [hl]; rfl)) k
theorem pv_xload_n {i} {x : Nat} (h : M.2.2.2.2.2 pc = (.aload_n i, a, b, z)) (hl : lo[i.val]? = some (some (.retAddr x))) (k : EvP X d M (pc + 1) lo (.retAddr x :: st) S P) : EvP X d M pc lo st S P := pv_go (pc' := pc + 1) (lo' := lo) (st' := .retAddr x :: st) (S' := S) (ev_st h (by show gv_la lo (i.val) (fun y => gv_go (pc + 1) lo (y :: st) S) = _; unfold gv_la; rw [hl]; rfl)) k
theorem pv_xload {i} {x : Nat} (h : M.2.2.2.2.2 pc = (.aload i, a, b, z)) (hl : lo[i]? = some (some (.retAddr x))) (k : EvP X d M (pc + 2) lo (.retAddr x :: st) S P) : EvP X d M pc lo st S P := pv_go (pc' := pc + 2) (lo' := lo) (st' := .retAddr x :: st) (S' := S) (ev_st h (by show gv_la lo (i) (fun y => gv_go (pc + 2) lo (y :: st) S) = _; unfold gv_la; rw [hl]; rfl)) k
theorem pv_istore_n {i} {x : Int32} (h : M.2.2.2.2.2 pc = (.istore_n i, a, b, z)) (hl : (gv_ok lo (i.val) && Nat.blt i.val lo.length) = true) (k : EvP X d M (pc + 1) (lo.set i.val (some (.int x))) st S P) : EvP X d M pc lo (.int x :: st) S P := pv_go (pc' := pc + 1) (lo' := (lo.set i.val (some (.int x)))) (st' := st) (S' := S) (ev_st h (by show gv_sto lo (i.val) (some (.int x)) (fun lo => gv_go (pc + 1) lo st S) = _; unfold gv_sto; rw [hl]; rfl)) k
theorem pv_istore {i} {x : Int32} (h : M.2.2.2.2.2 pc = (.istore i, a, b, z)) (hl : (gv_ok lo (i) && Nat.blt i lo.length) = true) (k : EvP X d M (pc + 2) (lo.set i (some (.int x))) st S P) : EvP X d M pc lo (.int x :: st) S P := pv_go (pc' := pc + 2) (lo' := (lo.set i (some (.int x)))) (st' := st) (S' := S) (ev_st h (by show gv_sto lo (i) (some (.int x)) (fun lo => gv_go (pc + 2) lo st S) = _; unfold gv_sto; rw [hl]; rfl)) k
theorem pv_lstore_n {i} {x : Int64} (h : M.2.2.2.2.2 pc = (.lstore_n i, a, b, z)) (hl : (gv_ok lo (i.val) && Nat.blt (i.val + 1) lo.length) = true) (k : EvP X d M (pc + 1) ((lo.set i.val (some (.long x))).set (i.val + 1) none) st S P) : EvP X d M pc lo (.long x :: st) S P := pv_go (pc' := pc + 1) (lo' := ((lo.set i.val (some (.long x))).set (i.val + 1) none)) (st' := st) (S' := S) (ev_st h (by show gv_sto2 lo (i.val) (some (.long x)) (fun lo => gv_go (pc + 1) lo st S) = _; unfold gv_sto2; rw [hl]; rfl)) k
theorem pv_lstore {i} {x : Int64} (h : M.2.2.2.2.2 pc = (.lstore i, a, b, z)) (hl : (gv_ok lo (i) && Nat.blt (i + 1) lo.length) = true) (k : EvP X d M (pc + 2) ((lo.set i (some (.long x))).set (i + 1) none) st S P) : EvP X d M pc lo (.long x :: st) S P := pv_go (pc' := pc + 2) (lo' := ((lo.set i (some (.long x))).set (i + 1) none)) (st' := st) (S' := S) (ev_st h (by show gv_sto2 lo (i) (some (.long x)) (fun lo => gv_go (pc + 2) lo st S) = _; unfold gv_sto2; rw [hl]; rfl)) k
theorem pv_astore_n {i} {x : Nat} (h : M.2.2.2.2.2 pc = (.astore_n i, a, b, z)) (hl : (gv_ok lo (i.val) && Nat.blt i.val lo.length) = true) (k : EvP X d M (pc + 1) (lo.set i.val (some (.ref x))) st S P) : EvP X d M pc lo (.ref x :: st) S P := pv_go (pc' := pc + 1) (lo' := (lo.set i.val (some (.ref x)))) (st' := st) (S' := S) (ev_st h (by show gv_sto lo (i.val) (some (.ref x)) (fun lo => gv_go (pc + 1) lo st S) = _; unfold gv_sto; rw [hl]; rfl)) k
theorem pv_astore {i} {x : Nat} (h : M.2.2.2.2.2 pc = (.astore i, a, b, z)) (hl : (gv_ok lo (i) && Nat.blt i lo.length) = true) (k : EvP X d M (pc + 2) (lo.set i (some (.ref x))) st S P) : EvP X d M pc lo (.ref x :: st) S P := pv_go (pc' := pc + 2) (lo' := (lo.set i (some (.ref x)))) (st' := st) (S' := S) (ev_st h (by show gv_sto lo (i) (some (.ref x)) (fun lo => gv_go (pc + 2) lo st S) = _; unfold gv_sto; rw [hl]; rfl)) k
theorem pv_iinc {i y} {x : Int32} (h : M.2.2.2.2.2 pc = (.iinc i y, a, b, z)) (hl : lo[i]? = some (some (.int x))) (ho : (gv_ok lo i && Nat.blt i lo.length) = true) (k : EvP X d M (pc + 3) (lo.set i (some (.int (x + z)))) st S P) : EvP X d M pc lo st S P := pv_go (ev_st h (show gv_li lo _ _ = _ by unfold gv_li; rw [hl]; show gv_sto lo _ _ _ = _; unfold gv_sto; rw [ho]; rfl)) k
theorem pv_iadd {x y : Int32} (h : M.2.2.2.2.2 pc = (.iadd, a, b, z)) (k : EvP X d M (pc + 1) lo (.int (x + y) :: st) S P) : EvP X d M pc lo (.int y :: .int x :: st) S P := pv_go (ev_st h rfl) k
theorem pv_isub {x y : Int32} (h : M.2.2.2.2.2 pc = (.isub, a, b, z)) (k : EvP X d M (pc + 1) lo (.int (x - y) :: st) S P) : EvP X d M pc lo (.int y :: .int x :: st) S P := pv_go (ev_st h rfl) k
theorem pv_imul {x y : Int32} (h : M.2.2.2.2.2 pc = (.imul, a, b, z)) (k : EvP X d M (pc + 1) lo (.int (x * y) :: st) S P) : EvP X d M pc lo (.int y :: .int x :: st) S P := pv_go (ev_st h rfl) k
theorem pv_iand {x y : Int32} (h : M.2.2.2.2.2 pc = (.iand, a, b, z)) (k : EvP X d M (pc + 1) lo (.int (x &&& y) :: st) S P) : EvP X d M pc lo (.int y :: .int x :: st) S P := pv_go (ev_st h rfl) k
theorem pv_ior {x y : Int32} (h : M.2.2.2.2.2 pc = (.ior, a, b, z)) (k : EvP X d M (pc + 1) lo (.int (x ||| y) :: st) S P) : EvP X d M pc lo (.int y :: .int x :: st) S P := pv_go (ev_st h rfl) k
theorem pv_ixor {x y : Int32} (h : M.2.2.2.2.2 pc = (.ixor, a, b, z)) (k : EvP X d M (pc + 1) lo (.int (x ^^^ y) :: st) S P) : EvP X d M pc lo (.int y :: .int x :: st) S P := pv_go (ev_st h rfl) k
theorem pv_ishl {x y : Int32} (h : M.2.2.2.2.2 pc = (.ishl, a, b, z)) (k : EvP X d M (pc + 1) lo (.int (x <<< (y &&& 31)) :: st) S P) : EvP X d M pc lo (.int y :: .int x :: st) S P := pv_go (ev_st h rfl) k
theorem pv_ishr {x y : Int32} (h : M.2.2.2.2.2 pc = (.ishr, a, b, z)) (k : EvP X d M (pc + 1) lo (.int (x >>> (y &&& 31)) :: st) S P) : EvP X d M pc lo (.int y :: .int x :: st) S P := pv_go (ev_st h rfl) k
theorem pv_iushr {x y : Int32} (h : M.2.2.2.2.2 pc = (.iushr, a, b, z)) (k : EvP X d M (pc + 1) lo (.int ((x.toUInt32 >>> (y.toUInt32 &&& Int32.toUInt32 31)).toInt32) :: st) S P) : EvP X d M pc lo (.int y :: .int x :: st) S P := pv_go (ev_st h rfl) k
theorem pv_idiv {x y : Int32} (h : M.2.2.2.2.2 pc = (.idiv, a, b, z)) (hy : ¬ y = 0) (k : EvP X d M (pc + 1) lo (.int (x / y) :: st) S P) : EvP X d M pc lo (.int y :: .int x :: st) S P := pv_go (ev_st h (show gv_gd (decide (¬ y = 0)) _ = _ by rw [decide_eq_true hy]; rfl)) k
theorem pv_irem {x y : Int32} (h : M.2.2.2.2.2 pc = (.irem, a, b, z)) (hy : ¬ y = 0) (k : EvP X d M (pc + 1) lo (.int (x - x / y * y) :: st) S P) : EvP X d M pc lo (.int y :: .int x :: st) S P := pv_go (ev_st h (show gv_gd (decide (¬ y = 0)) _ = _ by rw [decide_eq_true hy]; rfl)) k
theorem pv_ineg {x : Int32} (h : M.2.2.2.2.2 pc = (.ineg, a, b, z)) (k : EvP X d M (pc + 1) lo (.int (-x) :: st) S P) : EvP X d M pc lo (.int x :: st) S P := pv_go (ev_st h rfl) k
theorem pv_ladd {x y : Int64} (h : M.2.2.2.2.2 pc = (.ladd, a, b, z)) (k : EvP X d M (pc + 1) lo (.long (x + y) :: st) S P) : EvP X d M pc lo (.long y :: .long x :: st) S P := pv_go (ev_st h rfl) k
theorem pv_lmul {x y : Int64} (h : M.2.2.2.2.2 pc = (.lmul, a, b, z)) (k : EvP X d M (pc + 1) lo (.long (x * y) :: st) S P) : EvP X d M pc lo (.long y :: .long x :: st) S P := pv_go (ev_st h rfl) k
theorem pv_ldiv {x y : Int64} (h : M.2.2.2.2.2 pc = (.ldiv, a, b, z)) (hy : ¬ y = 0) (k : EvP X d M (pc + 1) lo (.long (x / y) :: st) S P) : EvP X d M pc lo (.long y :: .long x :: st) S P := pv_go (ev_st h (show gv_gd (decide (¬ y = 0)) _ = _ by rw [decide_eq_true hy]; rfl)) k
theorem pv_lcmp {x y : Int64} (h : M.2.2.2.2.2 pc = (.lcmp, a, b, z)) (k : EvP X d M (pc + 1) lo (.int (lg_cmp x y) :: st) S P) : EvP X d M pc lo (.long y :: .long x :: st) S P := pv_go (ev_st h rfl) k
theorem pv_i2l {x : Int32} (h : M.2.2.2.2.2 pc = (.i2l, a, b, z)) (k : EvP X d M (pc + 1) lo (.long x.toInt64 :: st) S P) : EvP X d M pc lo (.int x :: st) S P := pv_go (ev_st h rfl) k
theorem pv_l2i {x : Int64} (h : M.2.2.2.2.2 pc = (.l2i, a, b, z)) (k : EvP X d M (pc + 1) lo (.int x.toInt32 :: st) S P) : EvP X d M pc lo (.long x :: st) S P := pv_go (ev_st h rfl) k
theorem pv_i2b {x : Int32} (h : M.2.2.2.2.2 pc = (.i2b, a, b, z)) (k : EvP X d M (pc + 1) lo (.int x.toInt8.toInt32 :: st) S P) : EvP X d M pc lo (.int x :: st) S P := pv_go (ev_st h rfl) k
theorem pv_dup {v : Value} (h : M.2.2.2.2.2 pc = (.dup, a, b, z)) (hv : Nat.beq v.category 1 = true) (k : EvP X d M (pc + 1) lo (v :: v :: st) S P) : EvP X d M pc lo (v :: st) S P := pv_go (ev_st h (show gv_gd (Nat.beq v.category 1) _ = _ by rw [hv]; rfl)) k
theorem pv_pop {v : Value} (h : M.2.2.2.2.2 pc = (.pop, a, b, z)) (hv : Nat.beq v.category 1 = true) (k : EvP X d M (pc + 1) lo st S P) : EvP X d M pc lo (v :: st) S P := pv_go (ev_st h (show gv_gd (Nat.beq v.category 1) _ = _ by rw [hv]; rfl)) k
theorem pv_dup2 {v w : Value} (h : M.2.2.2.2.2 pc = (.dup2, a, b, z)) (hv : (Nat.beq v.category 1 && Nat.beq w.category 1) = true) (k : EvP X d M (pc + 1) lo (v :: w :: v :: w :: st) S P) : EvP X d M pc lo (v :: w :: st) S P := pv_go (ev_st h (show gv_gd (Nat.beq v.category 1 && Nat.beq w.category 1) _ = _ by rw [hv]; rfl)) k
theorem pv_goto {i} (h : M.2.2.2.2.2 pc = (.goto i, a, b, z)) (k : EvP X d M a lo st S P) : EvP X d M pc lo st S P := pv_go (ev_st h rfl) k
theorem pv_if_eq {i} {x : Int32} (h : M.2.2.2.2.2 pc = (.ifCond .eq i, a, b, z)) (kt : x = 0 → EvP X d M a lo st S P) (kf : ¬ x = 0 → EvP X d M (pc + 3) lo st S P) : EvP X d M pc lo (.int x :: st) S P := pv_br (c := decide (x = 0)) (ev_st h rfl) (fun e => kt (of_decide_eq_true e)) (fun e => kf (of_decide_eq_false e))
theorem pv_ic_eq {i} {x y : Int32} (h : M.2.2.2.2.2 pc = (.if_icmp .eq i, a, b, z)) (kt : x = y → EvP X d M a lo st S P) (kf : ¬ x = y → EvP X d M (pc + 3) lo st S P) : EvP X d M pc lo (.int y :: .int x :: st) S P := pv_br (c := decide (x = y)) (ev_st h rfl) (fun e => kt (of_decide_eq_true e)) (fun e => kf (of_decide_eq_false e))
theorem pv_if_ne {i} {x : Int32} (h : M.2.2.2.2.2 pc = (.ifCond .ne i, a, b, z)) (kt : ¬ x = 0 → EvP X d M a lo st S P) (kf : x = 0 → EvP X d M (pc + 3) lo st S P) : EvP X d M pc lo (.int x :: st) S P := pv_br (c := decide (¬ x = 0)) (ev_st h rfl) (fun e => kt (of_decide_eq_true e)) (fun e => kf (Decidable.not_not.mp (of_decide_eq_false e)))
theorem pv_ic_ne {i} {x y : Int32} (h : M.2.2.2.2.2 pc = (.if_icmp .ne i, a, b, z)) (kt : ¬ x = y → EvP X d M a lo st S P) (kf : x = y → EvP X d M (pc + 3) lo st S P) : EvP X d M pc lo (.int y :: .int x :: st) S P := pv_br (c := decide (¬ x = y)) (ev_st h rfl) (fun e => kt (of_decide_eq_true e)) (fun e => kf (Decidable.not_not.mp (of_decide_eq_false e)))
theorem pv_if_lt {i} {x : Int32} (h : M.2.2.2.2.2 pc = (.ifCond .lt i, a, b, z)) (kt : x < 0 → EvP X d M a lo st S P) (kf : ¬ x < 0 → EvP X d M (pc + 3) lo st S P) : EvP X d M pc lo (.int x :: st) S P := pv_br (c := decide (x < 0)) (ev_st h rfl) (fun e => kt (of_decide_eq_true e)) (fun e => kf (of_decide_eq_false e))
theorem pv_ic_lt {i} {x y : Int32} (h : M.2.2.2.2.2 pc = (.if_icmp .lt i, a, b, z)) (kt : x < y → EvP X d M a lo st S P) (kf : ¬ x < y → EvP X d M (pc + 3) lo st S P) : EvP X d M pc lo (.int y :: .int x :: st) S P := pv_br (c := decide (x < y)) (ev_st h rfl) (fun e => kt (of_decide_eq_true e)) (fun e => kf (of_decide_eq_false e))
theorem pv_if_ge {i} {x : Int32} (h : M.2.2.2.2.2 pc = (.ifCond .ge i, a, b, z)) (kt : 0 ≤ x → EvP X d M a lo st S P) (kf : ¬ 0 ≤ x → EvP X d M (pc + 3) lo st S P) : EvP X d M pc lo (.int x :: st) S P := pv_br (c := decide (0 ≤ x)) (ev_st h rfl) (fun e => kt (of_decide_eq_true e)) (fun e => kf (of_decide_eq_false e))
theorem pv_ic_ge {i} {x y : Int32} (h : M.2.2.2.2.2 pc = (.if_icmp .ge i, a, b, z)) (kt : y ≤ x → EvP X d M a lo st S P) (kf : ¬ y ≤ x → EvP X d M (pc + 3) lo st S P) : EvP X d M pc lo (.int y :: .int x :: st) S P := pv_br (c := decide (y ≤ x)) (ev_st h rfl) (fun e => kt (of_decide_eq_true e)) (fun e => kf (of_decide_eq_false e))
theorem pv_if_gt {i} {x : Int32} (h : M.2.2.2.2.2 pc = (.ifCond .gt i, a, b, z)) (kt : 0 < x → EvP X d M a lo st S P) (kf : ¬ 0 < x → EvP X d M (pc + 3) lo st S P) : EvP X d M pc lo (.int x :: st) S P := pv_br (c := decide (0 < x)) (ev_st h rfl) (fun e => kt (of_decide_eq_true e)) (fun e => kf (of_decide_eq_false e))
theorem pv_ic_gt {i} {x y : Int32} (h : M.2.2.2.2.2 pc = (.if_icmp .gt i, a, b, z)) (kt : y < x → EvP X d M a lo st S P) (kf : ¬ y < x → EvP X d M (pc + 3) lo st S P) : EvP X d M pc lo (.int y :: .int x :: st) S P := pv_br (c := decide (y < x)) (ev_st h rfl) (fun e => kt (of_decide_eq_true e)) (fun e => kf (of_decide_eq_false e))
theorem pv_if_le {i} {x : Int32} (h : M.2.2.2.2.2 pc = (.ifCond .le i, a, b, z)) (kt : x ≤ 0 → EvP X d M a lo st S P) (kf : ¬ x ≤ 0 → EvP X d M (pc + 3) lo st S P) : EvP X d M pc lo (.int x :: st) S P := pv_br (c := decide (x ≤ 0)) (ev_st h rfl) (fun e => kt (of_decide_eq_true e)) (fun e => kf (of_decide_eq_false e))
theorem pv_ic_le {i} {x y : Int32} (h : M.2.2.2.2.2 pc = (.if_icmp .le i, a, b, z)) (kt : x ≤ y → EvP X d M a lo st S P) (kf : ¬ x ≤ y → EvP X d M (pc + 3) lo st S P) : EvP X d M pc lo (.int y :: .int x :: st) S P := pv_br (c := decide (x ≤ y)) (ev_st h rfl) (fun e => kt (of_decide_eq_true e)) (fun e => kf (of_decide_eq_false e))
theorem pv_tsw {df lw hg : Int} {os : Array Int} {x : Int32} (i : Nat) {o : Int} (h : M.2.2.2.2.2 pc = (.tableswitch df lw hg os, a, b, z)) (h1 : (decide (x.toInt < lw) || decide (hg < x.toInt)) = false) (hi : (x.toInt - lw).toNat = i) (ho : os[i]? = some o) (hp : decide (0 ≤ (pc : Int) + o) = true) (k : EvP X d M ((pc : Int) + o).toNat lo st S P) : EvP X d M pc lo (.int x :: st) S P := by
  refine pv_go (ev_st h ?_) k
  show (match decide (x.toInt < lw) || decide (hg < x.toInt) with
    | true => gv_jmp pc df lo st S
    | false => (match os[(x.toInt - lw).toNat]? with
      | some o => gv_jmp pc o lo st S
      | none => none)) = _
  rw [h1, hi, ho]
  show gv_gd _ _ = _
  rw [hp]
  rfl
theorem pv_tswD {df lw hg : Int} {os : Array Int} {x : Int32} (h : M.2.2.2.2.2 pc = (.tableswitch df lw hg os, a, b, z)) (h1 : (decide (x.toInt < lw) || decide (hg < x.toInt)) = true) (hp : decide (0 ≤ (pc : Int) + df) = true) (k : EvP X d M ((pc : Int) + df).toNat lo st S P) : EvP X d M pc lo (.int x :: st) S P := by
  refine pv_go (ev_st h ?_) k
  show (match decide (x.toInt < lw) || decide (hg < x.toInt) with
    | true => gv_jmp pc df lo st S
    | false => (match os[(x.toInt - lw).toNat]? with
      | some o => gv_jmp pc o lo st S
      | none => none)) = _
  rw [h1]
  show gv_gd _ _ = _
  rw [hp]
  rfl
theorem pv_lsw {df : Int} {ps : Array (Int × Int)} {x : Int32} {o : Int} (h : M.2.2.2.2.2 pc = (.lookupswitch df ps, a, b, z)) (ho : Op.lookupswitch.offset ps.toList df x.toInt = o) (hp : decide (0 ≤ (pc : Int) + o) = true) (k : EvP X d M ((pc : Int) + o).toNat lo st S P) : EvP X d M pc lo (.int x :: st) S P := by
  refine pv_go (ev_st h ?_) k
  show gv_jmp pc (Op.lookupswitch.offset ps.toList df x.toInt) lo st S = _
  rw [ho]
  show gv_gd _ _ = _
  rw [hp]
  rfl
theorem pv_getI {i q : Nat} (h : M.2.2.2.2.2 pc = (.getfield i, a, b, z)) (hf : gv_fk gv_fkT a b = 0) (hk : (G.2.1 q).1 = a) (k : EvP X d M (pc + 3) lo (.int (m q b) :: st) (G, (m, j), cc) P) : EvP X d M pc lo (.ref q :: st) (G, (m, j), cc) P := by
  refine pv_go (ev_st h ?_) k
  subst hk
  show gv_gd (Nat.beq (G.2.1 q).1 (G.2.1 q).1) (match gv_fk gv_fkT (G.2.1 q).1 b with | 2 => _ | 9 => _ | _ => _) = _
  rw [Nat.beq_refl, hf]
  rfl
theorem pv_getZ {i q : Nat} (h : M.2.2.2.2.2 pc = (.getfield i, a, b, z)) (hf : gv_fk gv_fkT a b = 1) (hk : (G.2.1 q).1 = a) (k : EvP X d M (pc + 3) lo (.int (m q b) :: st) (G, (m, j), cc) P) : EvP X d M pc lo (.ref q :: st) (G, (m, j), cc) P := by
  refine pv_go (ev_st h ?_) k
  subst hk
  show gv_gd (Nat.beq (G.2.1 q).1 (G.2.1 q).1) (match gv_fk gv_fkT (G.2.1 q).1 b with | 2 => _ | 9 => _ | _ => _) = _
  rw [Nat.beq_refl, hf]
  rfl
theorem pv_getP {i q t : Nat} (h : M.2.2.2.2.2 pc = (.getfield i, a, b, z)) (hf : gv_fk gv_fkT a b = 2) (hk : (G.2.1 q).1 = a) (ht : G.2.2 q b = some t) (k : EvP X d M (pc + 3) lo (.ref t :: st) (G, (m, j), cc) P) : EvP X d M pc lo (.ref q :: st) (G, (m, j), cc) P := by
  refine pv_go (ev_st h ?_) k
  subst hk
  show gv_gd (Nat.beq (G.2.1 q).1 (G.2.1 q).1) (match gv_fk gv_fkT (G.2.1 q).1 b with | 2 => (match G.2.2 q b with | some t => _ | none => none) | 9 => _ | _ => _) = _
  rw [Nat.beq_refl, hf, ht]
  rfl
theorem pv_putI {i q : Nat} {x : Int32} (h : M.2.2.2.2.2 pc = (.putfield i, a, b, z)) (hf : gv_fk gv_fkT a b = 0) (hk : (G.2.1 q).1 = a) (k : EvP X d M (pc + 3) lo st (G, (gu m q b x, j), cc) P) : EvP X d M pc lo (.int x :: .ref q :: st) (G, (m, j), cc) P := by
  refine pv_go (ev_st h ?_) k
  subst hk
  show (match gv_fk gv_fkT (G.2.1 q).1 b with | 0 => _ | 1 => _ | 2 => _ | _ => _) = _
  rw [hf]
  show gv_gd (Nat.beq (G.2.1 q).1 (G.2.1 q).1) _ = _
  rw [Nat.beq_refl]
  rfl
theorem pv_putZ {i q : Nat} {x : Int32} (h : M.2.2.2.2.2 pc = (.putfield i, a, b, z)) (hf : gv_fk gv_fkT a b = 1) (hk : (G.2.1 q).1 = a) (hx : x = 0 ∨ x = 1) (k : EvP X d M (pc + 3) lo st (G, (gu m q b x, j), cc) P) : EvP X d M pc lo (.int x :: .ref q :: st) (G, (m, j), cc) P := by
  refine pv_go (ev_st h ?_) k
  subst hk
  show (match gv_fk gv_fkT (G.2.1 q).1 b with | 0 => _ | 1 => _ | 2 => _ | _ => _) = _
  rw [hf]
  show gv_gd (Nat.beq (G.2.1 q).1 (G.2.1 q).1 && (decide (x = 0) || decide (x = 1))) _ = _
  rw [Nat.beq_refl]
  rcases hx with rfl | rfl
  · rfl
  · rfl
theorem pv_script {i : Int32} (h : M.2.2.2.2.2 pc = (.iaload, a, b, z)) (hi : gv_in i X.2 = true) (k : EvP X d M (pc + 1) lo (.int (X.1 i.toNatClampNeg) :: st) S P) : EvP X d M pc lo (.int i :: .retAddr 0 :: st) S P := pv_go (ev_st h (show gv_gd (gv_in i X.2) _ = _ by rw [hi]; rfl)) k
theorem pv_scriptL (h : M.2.2.2.2.2 pc = (.arraylength, a, b, z)) (k : EvP X d M (pc + 1) lo (.int (Int32.ofNat X.2) :: st) S P) : EvP X d M pc lo (.retAddr 0 :: st) S P := pv_go (ev_st h rfl) k
theorem pv_iald {q n : Nat} {i : Int32} (h : M.2.2.2.2.2 pc = (.iaload, a, b, z)) (hk : G.2.1 q = (100, n)) (hi : gv_in i n = true) (k : EvP X d M (pc + 1) lo (.int (m q i.toNatClampNeg) :: st) (G, (m, j), cc) P) : EvP X d M pc lo (.int i :: .ref q :: st) (G, (m, j), cc) P := pv_go (ev_st h (show gv_gd (Nat.beq (G.2.1 q).1 100 && gv_in i (G.2.1 q).2) _ = _ by rw [hk]; show gv_gd (gv_in i n) _ = _; rw [hi]; rfl)) k
theorem pv_bald {q n : Nat} {i : Int32} (h : M.2.2.2.2.2 pc = (.baload, a, b, z)) (hk : G.2.1 q = (101, n)) (hi : gv_in i n = true) (k : EvP X d M (pc + 1) lo (.int (m q i.toNatClampNeg) :: st) (G, (m, j), cc) P) : EvP X d M pc lo (.int i :: .ref q :: st) (G, (m, j), cc) P := pv_go (ev_st h (show gv_gd (Nat.beq (G.2.1 q).1 101 && gv_in i (G.2.1 q).2) _ = _ by rw [hk]; show gv_gd (gv_in i n) _ = _; rw [hi]; rfl)) k
theorem pv_lald {q n : Nat} {i : Int32} (h : M.2.2.2.2.2 pc = (.laload, a, b, z)) (hk : G.2.1 q = (102, n)) (hi : gv_in i n = true) (k : EvP X d M (pc + 1) lo (.long (j q i.toNatClampNeg) :: st) (G, (m, j), cc) P) : EvP X d M pc lo (.int i :: .ref q :: st) (G, (m, j), cc) P := pv_go (ev_st h (show gv_gd (Nat.beq (G.2.1 q).1 102 && gv_in i (G.2.1 q).2) _ = _ by rw [hk]; show gv_gd (gv_in i n) _ = _; rw [hi]; rfl)) k
theorem pv_aald {q n t : Nat} {i : Int32} (h : M.2.2.2.2.2 pc = (.aaload, a, b, z)) (hk : G.2.1 q = (103, n)) (hi : gv_in i n = true) (ht : G.2.2 q i.toNatClampNeg = some t) (k : EvP X d M (pc + 1) lo (.ref t :: st) (G, (m, j), cc) P) : EvP X d M pc lo (.int i :: .ref q :: st) (G, (m, j), cc) P := pv_go (ev_st h (show gv_gd (Nat.beq (G.2.1 q).1 103 && gv_in i (G.2.1 q).2) (match G.2.2 q i.toNatClampNeg with | some t => _ | none => none) = _ by rw [hk, ht]; show gv_gd (gv_in i n) _ = _; rw [hi]; rfl)) k
theorem pv_iast {q n : Nat} {i : Int32} {x : Int32} (h : M.2.2.2.2.2 pc = (.iastore, a, b, z)) (hk : G.2.1 q = (100, n)) (hi : gv_in i n = true) (k : EvP X d M (pc + 1) lo st (G, (gu m q i.toNatClampNeg x, j), cc) P) : EvP X d M pc lo (.int x :: .int i :: .ref q :: st) (G, (m, j), cc) P := pv_go (ev_st h (show gv_gd (Nat.beq (G.2.1 q).1 100 && gv_in i (G.2.1 q).2) _ = _ by rw [hk]; show gv_gd (gv_in i n) _ = _; rw [hi]; rfl)) k
theorem pv_bast {q n : Nat} {i : Int32} {x : Int32} (h : M.2.2.2.2.2 pc = (.bastore, a, b, z)) (hk : G.2.1 q = (101, n)) (hi : gv_in i n = true) (k : EvP X d M (pc + 1) lo st (G, (gu m q i.toNatClampNeg (vp_nar .byte x), j), cc) P) : EvP X d M pc lo (.int x :: .int i :: .ref q :: st) (G, (m, j), cc) P := pv_go (ev_st h (show gv_gd (Nat.beq (G.2.1 q).1 101 && gv_in i (G.2.1 q).2) _ = _ by rw [hk]; show gv_gd (gv_in i n) _ = _; rw [hi]; rfl)) k
theorem pv_last {q n : Nat} {i : Int32} {x : Int64} (h : M.2.2.2.2.2 pc = (.lastore, a, b, z)) (hk : G.2.1 q = (102, n)) (hi : gv_in i n = true) (k : EvP X d M (pc + 1) lo st (G, (m, gu j q i.toNatClampNeg x), cc) P) : EvP X d M pc lo (.long x :: .int i :: .ref q :: st) (G, (m, j), cc) P := pv_go (ev_st h (show gv_gd (Nat.beq (G.2.1 q).1 102 && gv_in i (G.2.1 q).2) _ = _ by rw [hk]; show gv_gd (gv_in i n) _ = _; rw [hi]; rfl)) k
theorem pv_alen {q n : Nat} (h : M.2.2.2.2.2 pc = (.arraylength, a, b, z)) (hk : G.2.1 q = (100, n)) (k : EvP X d M (pc + 1) lo (.int (nI n) :: st) (G, (m, j), cc) P) : EvP X d M pc lo (.ref q :: st) (G, (m, j), cc) P := pv_go (ev_st h (show gv_gd (Nat.ble 100 (G.2.1 q).1 && Nat.ble (G.2.1 q).1 103) (gv_go _ _ (.int (Int32.ofNat (G.2.1 q).2) :: _) _) = _ by rw [hk]; rfl)) k
theorem pv_throw {i : Nat} (h : M.2.2.2.2.2 pc = (.new i, a, b, z)) (ha : Nat.ble 300 a = true) (hc : Nat.ble (gv_cat st) 8 = true) (hr : P (.inr (a - 300), gv_ex S)) : EvP X d M pc lo st S P := pv_th (ev_st h (show (match Nat.ble 300 a with | true => gv_gd (Nat.ble (gv_cat st) 8) _ | false => _) = _ by rw [ha]; show gv_gd (Nat.ble (gv_cat st) 8) _ = _; rw [hc]; rfl)) hr
theorem pv_slen {i q : Nat} (h : M.2.2.2.2.2 pc = (.invokevirtual i, 990001, b, z)) (hq : (Nat.ble 1 q && Nat.blt (q - 1) gv_txT.length && Nat.ble (gv_cat st) 8) = true) (k : EvP X d M (pc + 3) lo (.int (Int32.ofNat (gv_str gv_txT q).length) :: st) S P) : EvP X d M pc lo (.retAddr q :: st) S P := pv_go (ev_st h (show gv_gd (Nat.ble 1 q && Nat.blt (q - 1) gv_txT.length && Nat.ble (gv_cat st) 8) _ = _ by rw [hq]; rfl)) k
theorem pv_schar {i q : Nat} {x : Int32} (h : M.2.2.2.2.2 pc = (.invokevirtual i, 990002, b, z)) (hq : (Nat.ble 1 q && Nat.blt (q - 1) gv_txT.length && gv_in x (gv_str gv_txT q).length && Nat.ble (gv_cat st) 8) = true) (k : EvP X d M (pc + 3) lo (.int ((gv_str gv_txT q).getD x.toNatClampNeg 0) :: st) S P) : EvP X d M pc lo (.int x :: .retAddr q :: st) S P := pv_go (ev_st h (show gv_gd (Nat.ble 1 q && Nat.blt (q - 1) gv_txT.length && gv_in x (gv_str gv_txT q).length && Nat.ble (gv_cat st) 8) _ = _ by rw [hq]; rfl)) k
theorem pv_virt {i q : Nat} {as rest : List Value} {v : Option Value} {S' : gv_S} {N : gv_Mt} (h : M.2.2.2.2.2 pc = (.invokevirtual i, a, b, z)) (ha : Nat.ble 990000 a = false) (h1 : Nat.ble (b / 100) st.length = true) (h2 : (st.take (b / 100)).reverse = as) (h3 : st.drop (b / 100) = .ref q :: rest) (hk : (G.2.1 q).1 = b % 100) (hc : Nat.ble (gv_cat rest) 8 = true) (hN : gv_meth a = N) (hl : Nat.ble (gv_ent (.ref q :: as)).length N.2.2.1 = true) (k1 : Ev X d N 0 (gv_enter (.ref q :: as) N.2.2.1) [] (G, (m, j), cc) (.inl v, S')) (k2 : EvP X (d + 1) M (pc + 3) lo (v.toList ++ rest) S' P) : EvP X (d + 1) M pc lo st (G, (m, j), cc) P := pv_cal (gv_virt h ha h1 h2 h3 hk hc) hN hl k1 k2
theorem pv_virtT {i q : Nat} {as rest : List Value} {x : Nat} {S' : gv_S} {N : gv_Mt} (h : M.2.2.2.2.2 pc = (.invokevirtual i, a, b, z)) (ha : Nat.ble 990000 a = false) (h1 : Nat.ble (b / 100) st.length = true) (h2 : (st.take (b / 100)).reverse = as) (h3 : st.drop (b / 100) = .ref q :: rest) (hk : (G.2.1 q).1 = b % 100) (hc : Nat.ble (gv_cat rest) 8 = true) (hN : gv_meth a = N) (hl : Nat.ble (gv_ent (.ref q :: as)).length N.2.2.1 = true) (hh : M.2.2.2.2.1 = []) (k1 : Ev X d N 0 (gv_enter (.ref q :: as) N.2.2.1) [] (G, (m, j), cc) (.inr x, S')) (hr : P (.inr x, S')) : EvP X (d + 1) M pc lo st (G, (m, j), cc) P := pv_calT (gv_virt h ha h1 h2 h3 hk hc) hN hl hh k1 hr
theorem pv_virtC {i q : Nat} {as rest : List Value} {x y pc' : Nat} {lo' : gv_L} {S' : gv_S} {N : gv_Mt} (h : M.2.2.2.2.2 pc = (.invokevirtual i, a, b, z)) (ha : Nat.ble 990000 a = false) (h1 : Nat.ble (b / 100) st.length = true) (h2 : (st.take (b / 100)).reverse = as) (h3 : st.drop (b / 100) = .ref q :: rest) (hk : (G.2.1 q).1 = b % 100) (hc : Nat.ble (gv_cat rest) 8 = true) (hN : gv_meth a = N) (hl : Nat.ble (gv_ent (.ref q :: as)).length N.2.2.1 = true) (hh : gv_hand M.2.2.2.2.1 pc x = some y) (hg : gv_caught M y lo = some (pc', lo')) (k1 : Ev X d N 0 (gv_enter (.ref q :: as) N.2.2.1) [] (G, (m, j), cc) (.inr x, S')) (k2 : EvP X (d + 1) M pc' lo' [] S' P) : EvP X (d + 1) M pc lo st (G, (m, j), cc) P := pv_calC (gv_virt h ha h1 h2 h3 hk hc) hN hl hh hg k1 k2
theorem pv_stat {i : Nat} {as rest : List Value} {v : Option Value} {S' : gv_S} {N : gv_Mt} (h : M.2.2.2.2.2 pc = (.invokestatic i, a, b, z)) (ha : Nat.ble 990000 a = false) (h1 : Nat.ble b st.length = true) (h2 : (st.take b).reverse = as) (h3 : st.drop b = rest) (hc : Nat.ble (gv_cat rest) 8 = true) (hN : gv_meth a = N) (hl : Nat.ble (gv_ent as).length N.2.2.1 = true) (k1 : Ev X d N 0 (gv_enter as N.2.2.1) [] S (.inl v, S')) (k2 : EvP X (d + 1) M (pc + 3) lo (v.toList ++ rest) S' P) : EvP X (d + 1) M pc lo st S P := pv_cal (gv_stat h ha h1 h2 h3 hc) hN hl k1 k2
theorem pv_copy {i q0 q1 n0 n1 : Nat} {sp dp n : Int32} (h : M.2.2.2.2.2 pc = (.invokestatic i, a, b, z)) (ha : Nat.ble 990000 a = true) (hk0 : G.2.1 q0 = (100, n0)) (hk1 : G.2.1 q1 = (100, n1)) (hn : (!(decide (sp < 0)) && !(decide (dp < 0)) && !(decide (n < 0)) && Nat.ble (sp.toNatClampNeg + n.toNatClampNeg) n0 && Nat.ble (dp.toNatClampNeg + n.toNatClampNeg) n1 && Nat.ble (gv_cat st) 8) = true) (k : EvP X d M (pc + 3) lo st (G, (gw m q1 (va_cpy (m q0) (m q1) sp.toNatClampNeg dp.toNatClampNeg n.toNatClampNeg), j), cc) P) : EvP X d M pc lo (.int n :: .int dp :: .ref q1 :: .int sp :: .ref q0 :: st) (G, (m, j), cc) P := by
  refine pv_go (ev_st h ?_) k
  show (match Nat.ble 990000 a with | true => gv_gd (Nat.beq (G.2.1 q0).1 100 && Nat.beq (G.2.1 q1).1 100 && !(decide (sp < 0)) && !(decide (dp < 0)) && !(decide (n < 0)) && Nat.ble (sp.toNatClampNeg + n.toNatClampNeg) (G.2.1 q0).2 && Nat.ble (dp.toNatClampNeg + n.toNatClampNeg) (G.2.1 q1).2 && Nat.ble (gv_cat st) 8) _ | false => _) = _
  rw [ha, hk0, hk1]
  show gv_gd (!(decide (sp < 0)) && !(decide (dp < 0)) && !(decide (n < 0)) && Nat.ble (sp.toNatClampNeg + n.toNatClampNeg) n0 && Nat.ble (dp.toNatClampNeg + n.toNatClampNeg) n1 && Nat.ble (gv_cat st) 8) _ = _
  rw [hn]
  rfl
theorem pv_ireti {x : Int32} (h : M.2.2.2.2.2 pc = (.ireturn, a, b, z)) (ht : M.2.2.2.1 = some .int) (hr : P (.inl (some (.int x)), S)) : EvP X d M pc lo [.int x] S P := pv_rt (ev_st h (show gv_iret M.2.2.2.1 [.int x] = _ by rw [ht]; rfl)) hr
theorem pv_iretz {x : Int32} (h : M.2.2.2.2.2 pc = (.ireturn, a, b, z)) (ht : M.2.2.2.1 = some .boolean) (hx : x = 0 ∨ x = 1) (hr : P (.inl (some (.int x)), S)) : EvP X d M pc lo [.int x] S P := pv_rt (ev_st h (show gv_iret M.2.2.2.1 [.int x] = _ by rw [ht]; rcases hx with rfl | rfl <;> rfl)) hr
theorem pv_lret {x : Int64} (h : M.2.2.2.2.2 pc = (.lreturn, a, b, z)) (hr : P (.inl (some (.long x)), S)) : EvP X d M pc lo [.long x] S P := pv_rt (ev_st h rfl) hr
theorem pv_vret (h : M.2.2.2.2.2 pc = (.return_, a, b, z)) (hr : P (.inl none, S)) : EvP X d M pc lo [] S P := pv_rt (ev_st h rfl) hr
end PV
section PVN
variable {X : gv_X} {d : Nat} {M : gv_Mt} {pc : Nat} {lo : gv_L} {st : List Value} {S : gv_S} {P : gv_O × gv_S → Prop} {a b : Nat} {z : Int32} {u v : Nat}
theorem pn_iconst {i} (h : M.2.2.2.2.2 pc = (.iconst i, a, b, z)) (hz : z = nI u) (k : EvP X d M (pc + 1) lo (.int (nI u) :: st) S P) : EvP X d M pc lo st S P := pv_iconst h (by rw [hz]; exact k)
theorem pn_bipush {i} (h : M.2.2.2.2.2 pc = (.bipush i, a, b, z)) (hz : z = nI u) (k : EvP X d M (pc + 2) lo (.int (nI u) :: st) S P) : EvP X d M pc lo st S P := pv_bipush h (by rw [hz]; exact k)
theorem pn_sipush {i} (h : M.2.2.2.2.2 pc = (.sipush i, a, b, z)) (hz : z = nI u) (k : EvP X d M (pc + 3) lo (.int (nI u) :: st) S P) : EvP X d M pc lo st S P := pv_sipush h (by rw [hz]; exact k)
theorem pn_ldc {i} (h : M.2.2.2.2.2 pc = (.ldc i, a, 0, z)) (hz : z = nI u) (k : EvP X d M (pc + 2) lo (.int (nI u) :: st) S P) : EvP X d M pc lo st S P := pv_ldc h (by rw [hz]; exact k)
theorem pn_ldc_w {i} (h : M.2.2.2.2.2 pc = (.ldc_w i, a, 0, z)) (hz : z = nI u) (k : EvP X d M (pc + 3) lo (.int (nI u) :: st) S P) : EvP X d M pc lo st S P := pv_ldc_w h (by rw [hz]; exact k)
theorem pn_iinc {i y} (h : M.2.2.2.2.2 pc = (.iinc i y, a, b, z)) (hz : z = nI v) (hl : lo[i]? = some (some (.int (nI u)))) (ho : (gv_ok lo i && Nat.blt i lo.length) = true) (k : EvP X d M (pc + 3) (lo.set i (some (.int (nI (u + v))))) st S P) : EvP X d M pc lo st S P := pv_iinc h hl ho (by rw [hz, nI_add]; exact k)
theorem pn_idec {i y} (h : M.2.2.2.2.2 pc = (.iinc i y, a, b, z)) (hz : z = - nI v) (hv : v ≤ u) (hl : lo[i]? = some (some (.int (nI u)))) (ho : (gv_ok lo i && Nat.blt i lo.length) = true) (k : EvP X d M (pc + 3) (lo.set i (some (.int (nI (u - v))))) st S P) : EvP X d M pc lo st S P := pv_iinc h hl ho (by rw [hz, ← Int32.sub_eq_add_neg, pk_sub hv]; exact k)
theorem pn_idecw {i y} (h : M.2.2.2.2.2 pc = (.iinc i y, a, b, z)) (hz : z = - nI v) (hv : v ≤ 4294967296) (hl : lo[i]? = some (some (.int (nI u)))) (ho : (gv_ok lo i && Nat.blt i lo.length) = true) (k : EvP X d M (pc + 3) (lo.set i (some (.int (nI ((u + 4294967296 - v) % 4294967296))))) st S P) : EvP X d M pc lo st S P := pv_iinc h hl ho (by rw [hz, ← Int32.sub_eq_add_neg, nn_sub _ _ hv, ← nn_mod]; exact k)
theorem pn_iadd (h : M.2.2.2.2.2 pc = (.iadd, a, b, z))  (k : EvP X d M (pc + 1) lo (.int (nI (u + v)) :: st) S P) : EvP X d M pc lo (.int (nI v) :: .int (nI u) :: st) S P := pv_iadd h (by rw [nI_add]; exact k)
theorem pn_iaddw (h : M.2.2.2.2.2 pc = (.iadd, a, b, z))  (k : EvP X d M (pc + 1) lo (.int (nI ((u + v) % 4294967296)) :: st) S P) : EvP X d M pc lo (.int (nI v) :: .int (nI u) :: st) S P := pv_iadd h (by rw [nI_add, ← nn_mod]; exact k)
theorem pn_imul (h : M.2.2.2.2.2 pc = (.imul, a, b, z))  (k : EvP X d M (pc + 1) lo (.int (nI (u * v)) :: st) S P) : EvP X d M pc lo (.int (nI v) :: .int (nI u) :: st) S P := pv_imul h (by rw [pk_mul]; exact k)
theorem pn_imulw (h : M.2.2.2.2.2 pc = (.imul, a, b, z))  (k : EvP X d M (pc + 1) lo (.int (nI (u * v % 4294967296)) :: st) S P) : EvP X d M pc lo (.int (nI v) :: .int (nI u) :: st) S P := pv_imul h (by rw [pk_mul, ← nn_mod]; exact k)
theorem pn_isub (h : M.2.2.2.2.2 pc = (.isub, a, b, z)) (hv : v ≤ u) (k : EvP X d M (pc + 1) lo (.int (nI (u - v)) :: st) S P) : EvP X d M pc lo (.int (nI v) :: .int (nI u) :: st) S P := pv_isub h (by rw [pk_sub hv]; exact k)
theorem pn_isubw (h : M.2.2.2.2.2 pc = (.isub, a, b, z)) (hv : v ≤ 4294967296) (k : EvP X d M (pc + 1) lo (.int (nI ((u + 4294967296 - v) % 4294967296)) :: st) S P) : EvP X d M pc lo (.int (nI v) :: .int (nI u) :: st) S P := pv_isub h (by rw [nn_sub _ _ hv, ← nn_mod]; exact k)
theorem pn_iand (h : M.2.2.2.2.2 pc = (.iand, a, b, z))  (k : EvP X d M (pc + 1) lo (.int (nI (u &&& v)) :: st) S P) : EvP X d M pc lo (.int (nI v) :: .int (nI u) :: st) S P := pv_iand h (by rw [nn_and]; exact k)
theorem pn_ior (h : M.2.2.2.2.2 pc = (.ior, a, b, z))  (k : EvP X d M (pc + 1) lo (.int (nI (u ||| v)) :: st) S P) : EvP X d M pc lo (.int (nI v) :: .int (nI u) :: st) S P := pv_ior h (by rw [nn_or]; exact k)
theorem pn_ixor (h : M.2.2.2.2.2 pc = (.ixor, a, b, z))  (k : EvP X d M (pc + 1) lo (.int (nI (u ^^^ v)) :: st) S P) : EvP X d M pc lo (.int (nI v) :: .int (nI u) :: st) S P := pv_ixor h (by rw [nn_xor]; exact k)
theorem pn_ishl (h : M.2.2.2.2.2 pc = (.ishl, a, b, z)) (hv : v < 32) (k : EvP X d M (pc + 1) lo (.int (nI (u * 2 ^ v)) :: st) S P) : EvP X d M pc lo (.int (nI v) :: .int (nI u) :: st) S P := pv_ishl h (by rw [nn_shl _ hv]; exact k)
theorem pn_ishr (h : M.2.2.2.2.2 pc = (.ishr, a, b, z)) (hu : u < 2147483648) (hv : v < 32) (k : EvP X d M (pc + 1) lo (.int (nI (u / 2 ^ v)) :: st) S P) : EvP X d M pc lo (.int (nI v) :: .int (nI u) :: st) S P := pv_ishr h (by rw [nn_shr hu hv]; exact k)
theorem pn_iushr (h : M.2.2.2.2.2 pc = (.iushr, a, b, z)) (hu : u < 4294967296) (hv : v < 32) (k : EvP X d M (pc + 1) lo (.int (nI (u / 2 ^ v)) :: st) S P) : EvP X d M pc lo (.int (nI v) :: .int (nI u) :: st) S P := pv_iushr h (by rw [nn_ushr hu hv]; exact k)
theorem pn_idiv (h : M.2.2.2.2.2 pc = (.idiv, a, b, z)) (hu : u < 2147483648) (h0 : 0 < v) (hv : v < 2147483648) (k : EvP X d M (pc + 1) lo (.int (nI (u / v)) :: st) S P) : EvP X d M pc lo (.int (nI v) :: .int (nI u) :: st) S P := pv_idiv h (nI_ne0 h0 hv) (by rw [pk_div hu h0 hv]; exact k)
theorem pn_irem (h : M.2.2.2.2.2 pc = (.irem, a, b, z)) (hu : u < 2147483648) (h0 : 0 < v) (hv : v < 2147483648) (k : EvP X d M (pc + 1) lo (.int (nI (u % v)) :: st) S P) : EvP X d M pc lo (.int (nI v) :: .int (nI u) :: st) S P := pv_irem h (nI_ne0 h0 hv) (by rw [pk_rem hu h0 hv]; exact k)
theorem pn_ineg (h : M.2.2.2.2.2 pc = (.ineg, a, b, z)) (hu : u ≤ 4294967296) (k : EvP X d M (pc + 1) lo (.int (nI ((4294967296 - u) % 4294967296)) :: st) S P) : EvP X d M pc lo (.int (nI u) :: st) S P := pv_ineg h (by rw [nn_neg _ hu, ← nn_mod]; exact k)
theorem pn_if_eq {i} (h : M.2.2.2.2.2 pc = (.ifCond .eq i, a, b, z)) (hu : u < 4294967296) (kt : u = 0 → EvP X d M a lo st S P) (kf : ¬ u = 0 → EvP X d M (pc + 3) lo st S P) : EvP X d M pc lo (.int (nI u) :: st) S P := pv_if_eq h (fun e => kt (by rw [← nI_0, nn_eq] at e; omega)) (fun e => kf (by rw [← nI_0, nn_eq] at e; omega))
theorem pn_if_ne {i} (h : M.2.2.2.2.2 pc = (.ifCond .ne i, a, b, z)) (hu : u < 4294967296) (kt : ¬ u = 0 → EvP X d M a lo st S P) (kf : u = 0 → EvP X d M (pc + 3) lo st S P) : EvP X d M pc lo (.int (nI u) :: st) S P := pv_if_ne h (fun e => kt (by rw [← nI_0, nn_eq] at e; omega)) (fun e => kf (by rw [← nI_0, nn_eq] at e; omega))
theorem pn_if_lt {i} (h : M.2.2.2.2.2 pc = (.ifCond .lt i, a, b, z)) (hu : u < 4294967296) (kt : 2147483648 ≤ u → EvP X d M a lo st S P) (kf : u < 2147483648 → EvP X d M (pc + 3) lo st S P) : EvP X d M pc lo (.int (nI u) :: st) S P := pv_if_lt h (fun e => kt (by rw [← nI_0, nn_lt] at e; omega)) (fun e => kf (by rw [← nI_0, nn_lt] at e; omega))
theorem pn_if_ge {i} (h : M.2.2.2.2.2 pc = (.ifCond .ge i, a, b, z)) (hu : u < 4294967296) (kt : u < 2147483648 → EvP X d M a lo st S P) (kf : 2147483648 ≤ u → EvP X d M (pc + 3) lo st S P) : EvP X d M pc lo (.int (nI u) :: st) S P := pv_if_ge h (fun e => kt (by rw [← nI_0, nn_le] at e; omega)) (fun e => kf (by rw [← nI_0, nn_le] at e; omega))
theorem pn_if_gt {i} (h : M.2.2.2.2.2 pc = (.ifCond .gt i, a, b, z)) (hu : u < 4294967296) (kt : 0 < u ∧ u < 2147483648 → EvP X d M a lo st S P) (kf : u = 0 ∨ 2147483648 ≤ u → EvP X d M (pc + 3) lo st S P) : EvP X d M pc lo (.int (nI u) :: st) S P := pv_if_gt h (fun e => kt (by rw [← nI_0, nn_lt] at e; omega)) (fun e => kf (by rw [← nI_0, nn_lt] at e; omega))
theorem pn_if_le {i} (h : M.2.2.2.2.2 pc = (.ifCond .le i, a, b, z)) (hu : u < 4294967296) (kt : u = 0 ∨ 2147483648 ≤ u → EvP X d M a lo st S P) (kf : 0 < u ∧ u < 2147483648 → EvP X d M (pc + 3) lo st S P) : EvP X d M pc lo (.int (nI u) :: st) S P := pv_if_le h (fun e => kt (by rw [← nI_0, nn_le] at e; omega)) (fun e => kf (by rw [← nI_0, nn_le] at e; omega))
theorem pn_ic_eq {i} (h : M.2.2.2.2.2 pc = (.if_icmp .eq i, a, b, z)) (hu : u < 4294967296) (hv : v < 4294967296) (kt : u = v → EvP X d M a lo st S P) (kf : ¬ u = v → EvP X d M (pc + 3) lo st S P) : EvP X d M pc lo (.int (nI v) :: .int (nI u) :: st) S P := pv_ic_eq h (fun e => kt (by rw [nn_eq] at e; omega)) (fun e => kf (by rw [nn_eq] at e; omega))
theorem pn_ic_ne {i} (h : M.2.2.2.2.2 pc = (.if_icmp .ne i, a, b, z)) (hu : u < 4294967296) (hv : v < 4294967296) (kt : ¬ u = v → EvP X d M a lo st S P) (kf : u = v → EvP X d M (pc + 3) lo st S P) : EvP X d M pc lo (.int (nI v) :: .int (nI u) :: st) S P := pv_ic_ne h (fun e => kt (by rw [nn_eq] at e; omega)) (fun e => kf (by rw [nn_eq] at e; omega))
theorem pn_ic_lt {i} (h : M.2.2.2.2.2 pc = (.if_icmp .lt i, a, b, z)) (hu : u < 2147483648) (hv : v < 2147483648) (kt : u < v → EvP X d M a lo st S P) (kf : v ≤ u → EvP X d M (pc + 3) lo st S P) : EvP X d M pc lo (.int (nI v) :: .int (nI u) :: st) S P := pv_ic_lt h (fun e => kt (by rw [nn_lt] at e; omega)) (fun e => kf (by rw [nn_lt] at e; omega))
theorem pn_ic_ltw {i} (h : M.2.2.2.2.2 pc = (.if_icmp .lt i, a, b, z)) (kt : (u + 2147483648) % 4294967296 < (v + 2147483648) % 4294967296 → EvP X d M a lo st S P) (kf : (v + 2147483648) % 4294967296 ≤ (u + 2147483648) % 4294967296 → EvP X d M (pc + 3) lo st S P) : EvP X d M pc lo (.int (nI v) :: .int (nI u) :: st) S P := pv_ic_lt h (fun e => kt (by rw [nn_lt] at e; omega)) (fun e => kf (by rw [nn_lt] at e; omega))
theorem pn_ic_ge {i} (h : M.2.2.2.2.2 pc = (.if_icmp .ge i, a, b, z)) (hu : u < 2147483648) (hv : v < 2147483648) (kt : v ≤ u → EvP X d M a lo st S P) (kf : u < v → EvP X d M (pc + 3) lo st S P) : EvP X d M pc lo (.int (nI v) :: .int (nI u) :: st) S P := pv_ic_ge h (fun e => kt (by rw [nn_le] at e; omega)) (fun e => kf (by rw [nn_le] at e; omega))
theorem pn_ic_gew {i} (h : M.2.2.2.2.2 pc = (.if_icmp .ge i, a, b, z)) (kt : (v + 2147483648) % 4294967296 ≤ (u + 2147483648) % 4294967296 → EvP X d M a lo st S P) (kf : (u + 2147483648) % 4294967296 < (v + 2147483648) % 4294967296 → EvP X d M (pc + 3) lo st S P) : EvP X d M pc lo (.int (nI v) :: .int (nI u) :: st) S P := pv_ic_ge h (fun e => kt (by rw [nn_le] at e; omega)) (fun e => kf (by rw [nn_le] at e; omega))
theorem pn_ic_gt {i} (h : M.2.2.2.2.2 pc = (.if_icmp .gt i, a, b, z)) (hu : u < 2147483648) (hv : v < 2147483648) (kt : v < u → EvP X d M a lo st S P) (kf : u ≤ v → EvP X d M (pc + 3) lo st S P) : EvP X d M pc lo (.int (nI v) :: .int (nI u) :: st) S P := pv_ic_gt h (fun e => kt (by rw [nn_lt] at e; omega)) (fun e => kf (by rw [nn_lt] at e; omega))
theorem pn_ic_gtw {i} (h : M.2.2.2.2.2 pc = (.if_icmp .gt i, a, b, z)) (kt : (v + 2147483648) % 4294967296 < (u + 2147483648) % 4294967296 → EvP X d M a lo st S P) (kf : (u + 2147483648) % 4294967296 ≤ (v + 2147483648) % 4294967296 → EvP X d M (pc + 3) lo st S P) : EvP X d M pc lo (.int (nI v) :: .int (nI u) :: st) S P := pv_ic_gt h (fun e => kt (by rw [nn_lt] at e; omega)) (fun e => kf (by rw [nn_lt] at e; omega))
theorem pn_ic_le {i} (h : M.2.2.2.2.2 pc = (.if_icmp .le i, a, b, z)) (hu : u < 2147483648) (hv : v < 2147483648) (kt : u ≤ v → EvP X d M a lo st S P) (kf : v < u → EvP X d M (pc + 3) lo st S P) : EvP X d M pc lo (.int (nI v) :: .int (nI u) :: st) S P := pv_ic_le h (fun e => kt (by rw [nn_le] at e; omega)) (fun e => kf (by rw [nn_le] at e; omega))
theorem pn_ic_lew {i} (h : M.2.2.2.2.2 pc = (.if_icmp .le i, a, b, z)) (kt : (u + 2147483648) % 4294967296 ≤ (v + 2147483648) % 4294967296 → EvP X d M a lo st S P) (kf : (v + 2147483648) % 4294967296 < (u + 2147483648) % 4294967296 → EvP X d M (pc + 3) lo st S P) : EvP X d M pc lo (.int (nI v) :: .int (nI u) :: st) S P := pv_ic_le h (fun e => kt (by rw [nn_le] at e; omega)) (fun e => kf (by rw [nn_le] at e; omega))
variable {G : gv_Sh} {A : Nat → Nat → Nat} {j : Nat → Nat → Int64} {cc : gv_Rs}
theorem pn_getI {i q : Nat} (h : M.2.2.2.2.2 pc = (.getfield i, a, b, z)) (hf : gv_fk gv_fkT a b = 0) (hk : (G.2.1 q).1 = a) (hv : A q b = v) (k : EvP X d M (pc + 3) lo (.int (nI v) :: st) (G, (mI A, j), cc) P) : EvP X d M pc lo (.ref q :: st) (G, (mI A, j), cc) P := pv_getI h hf hk (by subst hv; exact k)
theorem pn_getZ {i q : Nat} (h : M.2.2.2.2.2 pc = (.getfield i, a, b, z)) (hf : gv_fk gv_fkT a b = 1) (hk : (G.2.1 q).1 = a) (hv : A q b = v) (k : EvP X d M (pc + 3) lo (.int (nI v) :: st) (G, (mI A, j), cc) P) : EvP X d M pc lo (.ref q :: st) (G, (mI A, j), cc) P := pv_getZ h hf hk (by subst hv; exact k)
theorem pn_putI {i q : Nat} (h : M.2.2.2.2.2 pc = (.putfield i, a, b, z)) (hf : gv_fk gv_fkT a b = 0) (hk : (G.2.1 q).1 = a) (k : EvP X d M (pc + 3) lo st (G, (mI (gu A q b u), j), cc) P) : EvP X d M pc lo (.int (nI u) :: .ref q :: st) (G, (mI A, j), cc) P := pv_putI h hf hk (by rw [mI_gu]; exact k)
theorem pn_putZ {i q : Nat} (h : M.2.2.2.2.2 pc = (.putfield i, a, b, z)) (hf : gv_fk gv_fkT a b = 1) (hk : (G.2.1 q).1 = a) (hu : u < 2) (k : EvP X d M (pc + 3) lo st (G, (mI (gu A q b u), j), cc) P) : EvP X d M pc lo (.int (nI u) :: .ref q :: st) (G, (mI A, j), cc) P := pv_putZ h hf hk (by rcases (by omega : u = 0 ∨ u = 1) with rfl | rfl; exact Or.inl rfl; exact Or.inr rfl) (by rw [mI_gu]; exact k)
theorem pn_putz {i q : Nat} {y : Bool} (h : M.2.2.2.2.2 pc = (.putfield i, a, b, z)) (hf : gv_fk gv_fkT a b = 1) (hk : (G.2.1 q).1 = a) (k : EvP X d M (pc + 3) lo st (G, (mI (gu A q b y.toNat), j), cc) P) : EvP X d M pc lo (.int (zo y) :: .ref q :: st) (G, (mI A, j), cc) P := pv_putZ h hf hk (zo_b y) (by rw [zo_n, mI_gu]; exact k)
theorem pn_iald {q n : Nat} (h : M.2.2.2.2.2 pc = (.iaload, a, b, z)) (hk : G.2.1 q = (100, n)) (hn : n < 2147483648) (hi : u < n) (hv : A q u = v) (k : EvP X d M (pc + 1) lo (.int (nI v) :: st) (G, (mI A, j), cc) P) : EvP X d M pc lo (.int (nI u) :: .ref q :: st) (G, (mI A, j), cc) P := pv_iald h hk (nn_in hi hn) (by subst hv; rw [nI_clamp (by omega)]; exact k)
theorem pn_bald {q n : Nat} (h : M.2.2.2.2.2 pc = (.baload, a, b, z)) (hk : G.2.1 q = (101, n)) (hn : n < 2147483648) (hi : u < n) (hv : A q u = v) (k : EvP X d M (pc + 1) lo (.int (nI v) :: st) (G, (mI A, j), cc) P) : EvP X d M pc lo (.int (nI u) :: .ref q :: st) (G, (mI A, j), cc) P := pv_bald h hk (nn_in hi hn) (by subst hv; rw [nI_clamp (by omega)]; exact k)
theorem pn_iast {q n : Nat} (h : M.2.2.2.2.2 pc = (.iastore, a, b, z)) (hk : G.2.1 q = (100, n)) (hn : n < 2147483648) (hi : u < n) (k : EvP X d M (pc + 1) lo st (G, (mI (gu A q u v), j), cc) P) : EvP X d M pc lo (.int (nI v) :: .int (nI u) :: .ref q :: st) (G, (mI A, j), cc) P := pv_iast h hk (nn_in hi hn) (by rw [nI_clamp (by omega), mI_gu]; exact k)
theorem pn_copy {i q0 q1 n0 n1 s p n : Nat} (h : M.2.2.2.2.2 pc = (.invokestatic i, a, b, z)) (ha : Nat.ble 990000 a = true) (hk0 : G.2.1 q0 = (100, n0)) (hk1 : G.2.1 q1 = (100, n1)) (hn0 : n0 < 2147483648) (hn1 : n1 < 2147483648) (h0 : s + n ≤ n0) (h1 : p + n ≤ n1) (hc : Nat.ble (gv_cat st) 8 = true) (k : EvP X d M (pc + 3) lo st (G, (mI (gw A q1 (va_cpy (A q0) (A q1) s p n)), j), cc) P) : EvP X d M pc lo (.int (nI n) :: .int (nI p) :: .ref q1 :: .int (nI s) :: .ref q0 :: st) (G, (mI A, j), cc) P := by
  have e1 : ¬ nI s < 0 := nI_pos (by omega)
  have e2 : ¬ nI p < 0 := nI_pos (by omega)
  have e3 : ¬ nI n < 0 := nI_pos (by omega)
  refine pv_copy h ha hk0 hk1 ?_ ?_
  · rw [nI_clamp (by omega), nI_clamp (by omega), nI_clamp (by omega)]
    simp only [e1, e2, e3, decide_false, Bool.not_false, Bool.true_and, hc, Bool.and_true, Bool.and_eq_true, Nat.ble_eq]
    exact ⟨h0, h1⟩
  · rw [nI_clamp (by omega), nI_clamp (by omega), nI_clamp (by omega), mI_gw]
    exact k
theorem pn_tsw {df lw hg : Int} {os : Array Int} (i t : Nat) {o : Int} (h : M.2.2.2.2.2 pc = (.tableswitch df lw hg os, a, b, z)) (hw : lw = 0) (hh : hg < 2147483648) (hi : (i : Int) ≤ hg) (hu : u = i) (ho : os[i]? = some o) (ht : (pc : Int) + o = (t : Nat)) (k : EvP X d M t lo st S P) : EvP X d M pc lo (.int (nI u) :: st) S P := by
  subst hw
  have e : (nI u).toInt = (i : Int) := by rw [nI_toInt (by omega), hu]
  refine pv_tsw i h ?_ ?_ ho ?_ ?_
  · rw [e]; simp only [Bool.or_eq_false_iff, decide_eq_false_iff_not]; omega
  · rw [e]; omega
  · rw [ht]; exact decide_eq_true (by omega)
  · rw [ht]; exact k
theorem pn_tswD {df lw hg : Int} {os : Array Int} (n t : Nat) (h : M.2.2.2.2.2 pc = (.tableswitch df lw hg os, a, b, z)) (hw : lw = 0) (hx : hg = (n : Nat)) (hh : n < 2147483648) (hu : u < 4294967296) (hd : n < u) (ht : (pc : Int) + df = (t : Nat)) (k : EvP X d M t lo st S P) : EvP X d M pc lo (.int (nI u) :: st) S P := by
  subst hw
  refine pv_tswD h ?_ ?_ ?_
  · rw [nn_i, hx]; simp only [Bool.or_eq_true, decide_eq_true_eq]; omega
  · rw [ht]; exact decide_eq_true (by omega)
  · rw [ht]; exact k
theorem pn_iandm (k n : Nat) (h : M.2.2.2.2.2 pc = (.iand, a, b, z)) (hv : v = 2 ^ k - 1) (hn : n = 2 ^ k) (kk : EvP X d M (pc + 1) lo (.int (nI (u % n)) :: st) S P) : EvP X d M pc lo (.int (nI v) :: .int (nI u) :: st) S P := pn_iand h (by rw [hv, Nat.and_two_pow_sub_one_eq_mod, ← hn]; exact kk)
theorem pn_ishl1 (h : M.2.2.2.2.2 pc = (.ishl, a, b, z)) (hv : v < 32) (k : EvP X d M (pc + 1) lo (.int (nI (2 ^ v)) :: st) S P) : EvP X d M pc lo (.int (nI v) :: .int (nI 1) :: st) S P := pn_ishl h hv (by rw [Nat.one_mul]; exact k)
theorem pn_iz_eq {i} {x y : Bool} (h : M.2.2.2.2.2 pc = (.if_icmp .eq i, a, b, z)) (kt : x = y → EvP X d M a lo st S P) (kf : ¬ x = y → EvP X d M (pc + 3) lo st S P) : EvP X d M pc lo (.int (zo y) :: .int (zo x) :: st) S P := pv_ic_eq h (fun e => kt (zo_inj.mp e)) (fun e => kf (fun q => e (zo_inj.mpr q)))
theorem pn_iz_ne {i} {x y : Bool} (h : M.2.2.2.2.2 pc = (.if_icmp .ne i, a, b, z)) (kt : ¬ x = y → EvP X d M a lo st S P) (kf : x = y → EvP X d M (pc + 3) lo st S P) : EvP X d M pc lo (.int (zo y) :: .int (zo x) :: st) S P := pv_ic_ne h (fun e => kt (fun q => e (zo_inj.mpr q))) (fun e => kf (zo_inj.mp e))
theorem pn_script (h : M.2.2.2.2.2 pc = (.iaload, a, b, z)) (hi : u < X.2) (hn : X.2 < 2147483648) (k : EvP X d M (pc + 1) lo (.int (X.1 u) :: st) S P) : EvP X d M pc lo (.int (nI u) :: .retAddr 0 :: st) S P := pv_script h (nn_in hi hn) (by rw [nI_clamp (by omega)]; exact k)
theorem pn_lald {q n : Nat} {m : Nat → Nat → Int32} (h : M.2.2.2.2.2 pc = (.laload, a, b, z)) (hk : G.2.1 q = (102, n)) (hn : n < 2147483648) (hi : u < n) (k : EvP X d M (pc + 1) lo (.long (j q u) :: st) (G, (m, j), cc) P) : EvP X d M pc lo (.int (nI u) :: .ref q :: st) (G, (m, j), cc) P := pv_lald h hk (nn_in hi hn) (by rw [nI_clamp (by omega)]; exact k)
theorem pn_last {q n : Nat} {m : Nat → Nat → Int32} {x : Int64} (h : M.2.2.2.2.2 pc = (.lastore, a, b, z)) (hk : G.2.1 q = (102, n)) (hn : n < 2147483648) (hi : u < n) (k : EvP X d M (pc + 1) lo st (G, (m, gu j q u x), cc) P) : EvP X d M pc lo (.long x :: .int (nI u) :: .ref q :: st) (G, (m, j), cc) P := pv_last h hk (nn_in hi hn) (by rw [nI_clamp (by omega)]; exact k)
theorem pn_aald {m : Nat → Nat → Int32} (h : M.2.2.2.2.2 pc = (.aaload, a, b, z)) (hk : oHA G) (hi : u < 12) (k : EvP X d M (pc + 1) lo (.ref (hq u) :: st) (G, (m, j), cc) P) : EvP X d M pc lo (.int (nI u) :: .ref 77 :: st) (G, (m, j), cc) P := pv_aald h hk.1 (nn_in hi (by decide)) (by rw [nI_clamp (by omega)]; exact (hk.2 u hi).1) k
theorem pn_bast {q n : Nat} {x : Int32} (h : M.2.2.2.2.2 pc = (.bastore, a, b, z)) (hk : G.2.1 q = (101, n)) (hn : n < 2147483648) (hi : u < n) (k : EvP X d M (pc + 1) lo st (G, (mI (gu A q u (by8 x)), j), cc) P) : EvP X d M pc lo (.int x :: .int (nI u) :: .ref q :: st) (G, (mI A, j), cc) P := pv_bast h hk (nn_in hi hn) (by rw [nI_clamp (by omega)]; rw [← mI_gu] at k; unfold by8 at k; rw [nI_tn] at k; exact k)
theorem pn_slen {i q : Nat} (h : M.2.2.2.2.2 pc = (.invokevirtual i, 990001, b, z)) (hq : 1 ≤ q ∧ q - 1 < gv_txT.length) (hc : Nat.ble (gv_cat st) 8 = true) (k : EvP X d M (pc + 3) lo (.int (nI (gv_str gv_txT q).length) :: st) S P) : EvP X d M pc lo (.retAddr q :: st) S P := pv_slen h (by simp only [hc, Bool.and_true, Bool.and_eq_true, Nat.ble_eq, Nat.blt_eq]; exact hq) k
theorem pn_schar {i q : Nat} (h : M.2.2.2.2.2 pc = (.invokevirtual i, 990002, b, z)) (hq : 1 ≤ q ∧ q - 1 < gv_txT.length) (hi : u < (gv_str gv_txT q).length) (hc : Nat.ble (gv_cat st) 8 = true) (k : EvP X d M (pc + 3) lo (.int (nI (chN q u)) :: st) S P) : EvP X d M pc lo (.int (nI u) :: .retAddr q :: st) S P := pv_schar h (by rw [nn_in hi (by have := str_len q; omega)]; simp only [hc, Bool.and_true, Bool.and_eq_true, Nat.ble_eq, Nat.blt_eq]; exact hq) (by rw [nI_clamp (by have := str_len q; omega)]; unfold chN at k; rw [nI_tn] at k; exact k)
end PVN
section PVS
variable {X : gv_X} {d : Nat} {M : gv_Mt} {pc : Nat} {lo : gv_L} {st : List Value} {S : gv_S} {P : gv_O × gv_S → Prop} {a b : Nat} {z : Int32} {u : Nat}
theorem pn_shand (h : M.2.2.2.2.2 pc = (.iand, a, b, z)) (hu : u < 4294967296) (k : EvP X d M (pc + 1) lo (.int (nI (u / 65536 % 32768)) :: st) S P) : EvP X d M pc lo (.int (nI 32767) :: .int (nI u >>> (nI 16 &&& 31)) :: st) S P := pv_iand h (by rw [nn_shand hu]; exact k)
end PVS
section PVZ
variable {X : gv_X} {d : Nat} {M : gv_Mt} {pc : Nat} {lo : gv_L} {st : List Value} {S : gv_S} {P : gv_O × gv_S → Prop} {a b : Nat} {z : Int32}
theorem pv_if_eq_zo {i} {y : Bool} (h : M.2.2.2.2.2 pc = (.ifCond .eq i, a, b, z)) (kt : y = false → EvP X d M a lo st S P) (kf : y = true → EvP X d M (pc + 3) lo st S P) : EvP X d M pc lo (.int (zo y) :: st) S P := by
  refine pv_if_eq h (fun e => kt ?_) (fun e => kf ?_)
  · cases y
    · rfl
    · cases e
  · cases y
    · exact absurd rfl e
    · rfl
theorem pv_if_ne_zo {i} {y : Bool} (h : M.2.2.2.2.2 pc = (.ifCond .ne i, a, b, z)) (kt : y = true → EvP X d M a lo st S P) (kf : y = false → EvP X d M (pc + 3) lo st S P) : EvP X d M pc lo (.int (zo y) :: st) S P := by
  refine pv_if_ne h (fun e => kt ?_) (fun e => kf ?_)
  · cases y
    · exact absurd rfl e
    · rfl
  · cases y
    · rfl
    · cases e
end PVZ
theorem lsw_D {df k : Int} : ∀ {l : List (Int × Int)}, (∀ p ∈ l, ¬ p.1 = k) → Op.lookupswitch.offset l df k = df
  | [], _ => rfl
  | (a, o) :: r, h => by
    show (if a = k then o else Op.lookupswitch.offset r df k) = df
    rw [if_neg (h (a, o) List.mem_cons_self)]
    exact lsw_D (fun p hp => h p (List.mem_cons_of_mem _ hp))
section PVW
variable {X : gv_X} {d : Nat} {M : gv_Mt} {pc : Nat} {lo : gv_L} {st : List Value} {S : gv_S} {P : gv_O × gv_S → Prop} {a b : Nat} {z : Int32} {u : Nat}
theorem pn_tswl {df lw hg : Int} {os : Array Int} (i t : Nat) {o : Int} (h : M.2.2.2.2.2 pc = (.tableswitch df lw hg os, a, b, z)) (hu : u = i) (hb : i < 2147483648) (h1 : (decide ((i : Int) < lw) || decide (hg < (i : Int))) = false) (ho : os[((i : Int) - lw).toNat]? = some o) (ht : (pc : Int) + o = (t : Nat)) (k : EvP X d M t lo st S P) : EvP X d M pc lo (.int (nI u) :: st) S P := by
  have e : (nI u).toInt = (i : Int) := by rw [nI_toInt (by omega), hu]
  refine pv_tsw ((i : Int) - lw).toNat h ?_ ?_ ho ?_ ?_
  · rw [e]; exact h1
  · rw [e]
  · rw [ht]; exact decide_eq_true (by omega)
  · rw [ht]; exact k
theorem pn_tswlD {df lw hg : Int} {os : Array Int} (l n t : Nat) (h : M.2.2.2.2.2 pc = (.tableswitch df lw hg os, a, b, z)) (hw : lw = (l : Nat)) (hx : hg = (n : Nat)) (hh : n < 2147483648) (hu : u < 4294967296) (hd : u < l ∨ n < u) (ht : (pc : Int) + df = (t : Nat)) (k : EvP X d M t lo st S P) : EvP X d M pc lo (.int (nI u) :: st) S P := by
  refine pv_tswD h ?_ ?_ ?_
  · rw [nn_i, hx, hw]; simp only [Bool.or_eq_true, decide_eq_true_eq]; omega
  · rw [ht]; exact decide_eq_true (by omega)
  · rw [ht]; exact k
theorem pn_lsw {df : Int} {ps : Array (Int × Int)} (i t : Nat) {o : Int} (h : M.2.2.2.2.2 pc = (.lookupswitch df ps, a, b, z)) (hu : u = i) (hb : i < 2147483648) (ho : Op.lookupswitch.offset ps.toList df (i : Int) = o) (ht : (pc : Int) + o = (t : Nat)) (k : EvP X d M t lo st S P) : EvP X d M pc lo (.int (nI u) :: st) S P := by
  have e : (nI u).toInt = (i : Int) := by rw [nI_toInt (by omega), hu]
  refine pv_lsw (o := o) h (by rw [e]; exact ho) ?_ ?_
  · rw [ht]; exact decide_eq_true (by omega)
  · rw [ht]; exact k
theorem pn_lswD {df : Int} {ps : Array (Int × Int)} (t : Nat) (h : M.2.2.2.2.2 pc = (.lookupswitch df ps, a, b, z)) (hd : ∀ p ∈ ps.toList, ¬ p.1 = (nI u).toInt) (ht : (pc : Int) + df = (t : Nat)) (k : EvP X d M t lo st S P) : EvP X d M pc lo (.int (nI u) :: st) S P := by
  refine pv_lsw h (lsw_D hd) ?_ ?_
  · rw [ht]; exact decide_eq_true (by omega)
  · rw [ht]; exact k
theorem pv_if_eq_dc {i} {p : Prop} [Decidable p] (h : M.2.2.2.2.2 pc = (.ifCond .eq i, a, b, z)) (kt : ¬ p → EvP X d M a lo st S P) (kf : p → EvP X d M (pc + 3) lo st S P) : EvP X d M pc lo (.int (zo (decide p)) :: st) S P := pv_if_eq_zo h (fun e => kt (of_decide_eq_false e)) (fun e => kf (of_decide_eq_true e))
theorem pv_if_ne_dc {i} {p : Prop} [Decidable p] (h : M.2.2.2.2.2 pc = (.ifCond .ne i, a, b, z)) (kt : p → EvP X d M a lo st S P) (kf : ¬ p → EvP X d M (pc + 3) lo st S P) : EvP X d M pc lo (.int (zo (decide p)) :: st) S P := pv_if_ne_zo h (fun e => kt (of_decide_eq_true e)) (fun e => kf (of_decide_eq_false e))
end PVW
section THR
variable {X : gv_X} {d : Nat} {G : gv_Sh} {A : Nat → Nat → Nat} {j : Nat → Nat → Int64} {cc : gv_Rs} {v h n c : Nat} {b : Bool}
theorem r_thr_t (hp263 : oX12 G 263) (hb : b = true) : Ev X (d + 0) gvm_192 0 (gv_enter [.ref 263, .int (zo b), .int (nI c)] 3) [] (G, (mI A, j), cc) (.inl (some (.int (nI 1))), (G, (mI (gu A 263 0 c), j), cc)) := by
  subst hb
  exact r_throwsIf (b := true) hp263
theorem r_thr_f (hp263 : oX12 G 263) (hb : b = false) : Ev X (d + 0) gvm_192 0 (gv_enter [.ref 263, .int (zo b), .int (nI c)] 3) [] (G, (mI A, j), cc) (.inl (some (.int (nI 0))), (G, (mI A, j), cc)) := by
  subst hb
  exact r_throwsIf (b := false) hp263
theorem r_in0 (hv : v < 4294967296) (hh : h < 2147483648) : Ev X (d + 0) gvm_193 0 (gv_enter [.int (nI v), .int (nI 0), .int (nI h)] 3) [] (G, (mI A, j), cc) (.inl (some (.int (zo (decide (v ≤ h))))), (G, (mI A, j), cc)) := by
  rw [← inN_0 hv hh]
  exact r_in
theorem r_inm (hv : v < 4294967296) (hh : n < 2147483648) : Ev X (d + 0) gvm_193 0 (gv_enter [.int (nI v), .int (nI 0), .int (nI ((n + 4294967296 - 1) % 4294967296))] 3) [] (G, (mI A, j), cc) (.inl (some (.int (zo (decide (v < n))))), (G, (mI A, j), cc)) := by
  rw [← inN_m hv hh]
  exact r_in
theorem r_in1 (hv : v < 4294967296) (hh : h < 2147483648) : Ev X (d + 0) gvm_193 0 (gv_enter [.int (nI v), .int (nI 1), .int (nI h)] 3) [] (G, (mI A, j), cc) (.inl (some (.int (zo (decide (1 ≤ v ∧ v ≤ h))))), (G, (mI A, j), cc)) := by
  have e : inN v 1 h = decide (1 ≤ v ∧ v ≤ h) := by
    unfold inN sg
    rw [← Bool.decide_and]
    exact decide_eq_decide.mpr (by omega)
  rw [← e]
  exact r_in
end THR
