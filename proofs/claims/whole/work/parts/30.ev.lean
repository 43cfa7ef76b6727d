/-! THE WALK AS A RELATION: Ev: some fuel brings the walker from here to r; a rule for each instruction -/
theorem gv_fuel {fk : List (List Nat)} {tx : List (List Int32)} {P : Nat → gv_Mt} {X : gv_X} : ∀ (n d : Nat) (M : gv_Mt) (pc : Nat) (lo : gv_L) (st : List Value) (S : gv_S) (r : gv_O × gv_S), gv_run fk tx P X n d M pc lo st S = some r → gv_run fk tx P X (n + 1) d M pc lo st S = some r := by
  intro n
  induction n with
  | zero => intro d M pc lo st S r h; cases h
  | succ n ih =>
    intro d M pc lo st S r h
    unfold gv_run at h ⊢
    cases hs : gv_step fk tx X M pc lo st S with
    | none => rw [hs] at h; cases h
    | some z =>
      rw [hs] at h
      rcases z with ⟨pc', lo', st', S'⟩ | ⟨b, t, f, st'⟩ | ⟨k, vf, as, rest⟩ | v | e
      · exact ih _ _ _ _ _ _ _ h
      · cases b
        · exact ih _ _ _ _ _ _ _ h
        · exact ih _ _ _ _ _ _ _ h
      · cases d with
        | zero => cases h
        | succ d =>
          dsimp only at h ⊢
          cases hg : Nat.ble (gv_ent as).length (P k).2.2.1 with
          | false => rw [hg] at h; cases h
          | true =>
            rw [hg] at h
            unfold gv_gd at h ⊢
            dsimp only at h ⊢
            cases hc : gv_run fk tx P X n d (P k) 0 (gv_enter as (P k).2.2.1) [] S with
            | none => rw [hc] at h; cases h
            | some w =>
              rw [hc] at h
              rw [ih _ _ _ _ _ _ _ hc]
              rcases w with ⟨v | x, S'⟩
              · exact ih _ _ _ _ _ _ _ h
              · cases vf
                · cases h
                · dsimp only at h ⊢
                  cases hh : gv_hand M.2.2.2.2.1 pc x with
                  | none => rw [hh] at h; exact h
                  | some y =>
                    rw [hh] at h
                    dsimp only at h ⊢
                    cases hg2 : gv_caught M y lo with
                    | none => rw [hg2] at h; cases h
                    | some u =>
                      rw [hg2] at h
                      exact ih _ _ _ _ _ _ _ h
      · exact h
      · exact h
theorem gv_fuels {fk : List (List Nat)} {tx : List (List Int32)} {P : Nat → gv_Mt} {X : gv_X} {n d : Nat} {M : gv_Mt} {pc : Nat} {lo : gv_L} {st : List Value} {S : gv_S} {r : gv_O × gv_S} (h : gv_run fk tx P X n d M pc lo st S = some r) : ∀ k, gv_run fk tx P X (n + k) d M pc lo st S = some r
  | 0 => h
  | k + 1 => gv_fuel _ _ _ _ _ _ _ _ (gv_fuels h k)
def Ev (X : gv_X) (d : Nat) (M : gv_Mt) (pc : Nat) (lo : gv_L) (st : List Value) (S : gv_S) (r : gv_O × gv_S) : Prop := ∃ n, gv_run gv_fkT gv_txT gv_meth X n d M pc lo st S = some r
section EV
variable {X : gv_X} {d : Nat} {M : gv_Mt} {pc : Nat} {lo : gv_L} {st : List Value} {S : gv_S} {r : gv_O × gv_S} {a b : Nat} {z : Int32}
theorem ev_go {pc' : Nat} {lo' : gv_L} {st' : List Value} {S' : gv_S} (h : gv_step gv_fkT gv_txT X M pc lo st S = some (.inl (pc', lo', st', S'))) (k : Ev X d M pc' lo' st' S' r) : Ev X d M pc lo st S r := by
  obtain ⟨n, k⟩ := k
  refine ⟨n + 1, ?_⟩
  unfold gv_run
  rw [h]
  exact k
theorem ev_br {t f : Nat} {c : Bool} {st' : List Value} (h : gv_step gv_fkT gv_txT X M pc lo st S = some (.inr (.inl (c, t, f, st')))) (kt : c = true → Ev X d M t lo st' S r) (kf : c = false → Ev X d M f lo st' S r) : Ev X d M pc lo st S r := by
  cases c
  · obtain ⟨n, k⟩ := kf rfl
    refine ⟨n + 1, ?_⟩
    unfold gv_run
    rw [h]
    exact k
  · obtain ⟨n, k⟩ := kt rfl
    refine ⟨n + 1, ?_⟩
    unfold gv_run
    rw [h]
    exact k
theorem ev_cal {k : Nat} {vf : Bool} {as rest : List Value} {v : Option Value} {S' : gv_S} {N : gv_Mt} (h : gv_step gv_fkT gv_txT X M pc lo st S = some (.inr (.inr (.inl (k, vf, as, rest))))) (hN : gv_meth k = N) (hl : Nat.ble (gv_ent as).length N.2.2.1 = true) (k1 : Ev X d N 0 (gv_enter as N.2.2.1) [] S (.inl v, S')) (k2 : Ev X (d + 1) M (pc + 3) lo (v.toList ++ rest) S' r) : Ev X (d + 1) M pc lo st S r := by
  subst hN
  obtain ⟨n1, k1⟩ := k1
  obtain ⟨n2, k2⟩ := k2
  refine ⟨n1 + n2 + 1, ?_⟩
  unfold gv_run
  rw [h]
  dsimp only
  rw [hl]
  unfold gv_gd
  dsimp only
  rw [gv_fuels k1 n2]
  dsimp only
  rw [Nat.add_comm n1 n2]
  exact gv_fuels k2 n1
/-- a callee throws, and nothing here takes it -/
theorem ev_calT {k : Nat} {as rest : List Value} {x : Nat} {S' : gv_S} {N : gv_Mt} (h : gv_step gv_fkT gv_txT X M pc lo st S = some (.inr (.inr (.inl (k, true, as, rest))))) (hN : gv_meth k = N) (hl : Nat.ble (gv_ent as).length N.2.2.1 = true) (hh : M.2.2.2.2.1 = []) (k1 : Ev X d N 0 (gv_enter as N.2.2.1) [] S (.inr x, S')) (hr : r = (.inr x, S')) : Ev X (d + 1) M pc lo st S r := by
  subst hN
  subst hr
  obtain ⟨n1, k1⟩ := k1
  refine ⟨n1 + 1, ?_⟩
  unfold gv_run
  rw [h]
  dsimp only
  rw [hl]
  unfold gv_gd
  dsimp only
  rw [k1]
  dsimp only
  rw [hh]
  rfl
/-- .. or a handler takes it -/
theorem ev_calC {k : Nat} {as rest : List Value} {x y pc' : Nat} {lo' : gv_L} {S' : gv_S} {N : gv_Mt} (h : gv_step gv_fkT gv_txT X M pc lo st S = some (.inr (.inr (.inl (k, true, as, rest))))) (hN : gv_meth k = N) (hl : Nat.ble (gv_ent as).length N.2.2.1 = true) (hh : gv_hand M.2.2.2.2.1 pc x = some y) (hc : gv_caught M y lo = some (pc', lo')) (k1 : Ev X d N 0 (gv_enter as N.2.2.1) [] S (.inr x, S')) (k2 : Ev X (d + 1) M pc' lo' [] S' r) : Ev X (d + 1) M pc lo st S r := by
  subst hN
  obtain ⟨n1, k1⟩ := k1
  obtain ⟨n2, k2⟩ := k2
  refine ⟨n1 + n2 + 1, ?_⟩
  unfold gv_run
  rw [h]
  dsimp only
  rw [hl]
  unfold gv_gd
  dsimp only
  rw [gv_fuels k1 n2]
  dsimp only
  rw [hh]
  dsimp only
  rw [hc]
  dsimp only
  rw [Nat.add_comm n1 n2]
  exact gv_fuels k2 n1
theorem ev_rt {v : Option Value} (h : gv_step gv_fkT gv_txT X M pc lo st S = some (.inr (.inr (.inr (.inl v))))) (hr : r = (.inl v, S)) : Ev X d M pc lo st S r := ⟨1, by unfold gv_run; rw [h, hr]⟩
theorem ev_th {e : Nat} (h : gv_step gv_fkT gv_txT X M pc lo st S = some (.inr (.inr (.inr (.inr e))))) (hr : r = (.inr e, gv_ex S)) : Ev X d M pc lo st S r := ⟨1, by unfold gv_run; rw [h, hr]⟩
theorem ev_st {i : Instr} {x : Option gv_A} (h : M.2.2.2.2.2 pc = (i, a, b, z)) (k : gv_step gv_fkT gv_txT X (M.1, M.2.1, M.2.2.1, M.2.2.2.1, M.2.2.2.2.1, fun _ => (i, a, b, z)) pc lo st S = x) : gv_step gv_fkT gv_txT X M pc lo st S = x := by
  rw [← k]
  unfold gv_step
  rw [h]
variable {G : gv_Sh} {m : Nat → Nat → Int32} {j : Nat → Nat → Int64} {cc : gv_Rs}
theorem ev_iconst {i} (h : M.2.2.2.2.2 pc = (.iconst i, a, b, z)) (k : Ev X d M (pc + 1) lo (.int z :: st) S r) : Ev X d M pc lo st S r := ev_go (ev_st h rfl) k
theorem ev_bipush {i} (h : M.2.2.2.2.2 pc = (.bipush i, a, b, z)) (k : Ev X d M (pc + 2) lo (.int z :: st) S r) : Ev X d M pc lo st S r := ev_go (ev_st h rfl) k
theorem ev_sipush {i} (h : M.2.2.2.2.2 pc = (.sipush i, a, b, z)) (k : Ev X d M (pc + 3) lo (.int z :: st) S r) : Ev X d M pc lo st S r := ev_go (ev_st h rfl) k
theorem ev_ldc {i} (h : M.2.2.2.2.2 pc = (.ldc i, a, 0, z)) (k : Ev X d M (pc + 2) lo (.int z :: st) S r) : Ev X d M pc lo st S r := ev_go (ev_st h rfl) k
theorem ev_ldcS {i} (h : M.2.2.2.2.2 pc = (.ldc i, a, 1, z)) (k : Ev X d M (pc + 2) lo (.retAddr (a + 1) :: st) S r) : Ev X d M pc lo st S r := ev_go (ev_st h rfl) k
theorem ev_ldc_w {i} (h : M.2.2.2.2.2 pc = (.ldc_w i, a, 0, z)) (k : Ev X d M (pc + 3) lo (.int z :: st) S r) : Ev X d M pc lo st S r := ev_go (ev_st h rfl) k
theorem ev_ldc_wS {i} (h : M.2.2.2.2.2 pc = (.ldc_w i, a, 1, z)) (k : Ev X d M (pc + 3) lo (.retAddr (a + 1) :: st) S r) : Ev X d M pc lo st S r := ev_go (ev_st h rfl) k
theorem ev_lconst {i} (h : M.2.2.2.2.2 pc = (.lconst i, a, b, z)) (k : Ev X d M (pc + 1) lo (.long (Int64.ofNat i.val) :: st) S r) : Ev X d M pc lo st S r := ev_go (ev_st h rfl) k
theorem ev_ldc2 {i} (h : M.2.2.2.2.2 pc = (.ldc2_w i, a, b, z)) (k : Ev X d M (pc + 3) lo (.long (Int64.ofNat a) :: st) S r) : Ev X d M pc lo st S r := ev_go (ev_st h rfl) k
theorem ev_iload_n {i} {x : Int32} (h : M.2.2.2.2.2 pc = (.iload_n i, a, b, z)) (hl : lo[i.val]? = some (some (.int x))) (k : Ev X d M (pc + 1) lo (.int x :: st) S r) : Ev X d M pc lo st S r := ev_go (pc' := pc + 1) (lo' := lo) (st' := .int x :: st) (S' := S) (ev_st h (by show gv_li lo (i.val) (fun y => gv_go (pc + 1) lo (.int y :: st) S) = _; unfold gv_li; rw [hl]; rfl)) k
theorem ev_iload {i} {x : Int32} (h : M.2.2.2.2.2 pc = (.iload i, a, b, z)) (hl : lo[i]? = some (some (.int x))) (k : Ev X d M (pc + 2) lo (.int x :: st) S r) : Ev X d M pc lo st S r := ev_go (pc' := pc + 2) (lo' := lo) (st' := .int x :: st) (S' := S) (ev_st h (by show gv_li lo (i) (fun y => gv_go (pc + 2) lo (.int y :: st) S) = _; unfold gv_li; rw [hl]; rfl)) k
theorem ev_lload_n {i} {x : Int64} (h : M.2.2.2.2.2 pc = (.lload_n i, a, b, z)) (hl : lo[i.val]? = some (some (.long x))) (k : Ev X d M (pc + 1) lo (.long x :: st) S r) : Ev X d M pc lo st S r := ev_go (pc' := pc + 1) (lo' := lo) (st' := .long x :: st) (S' := S) (ev_st h (by show gv_ll lo (i.val) (fun y => gv_go (pc + 1) lo (.long y :: st) S) = _; unfold gv_ll; rw [hl]; rfl)) k
theorem ev_lload {i} {x : Int64} (h : M.2.2.2.2.2 pc = (.lload i, a, b, z)) (hl : lo[i]? = some (some (.long x))) (k : Ev X d M (pc + 2) lo (.long x :: st) S r) : Ev X d M pc lo st S r := ev_go (pc' := pc + 2) (lo' := lo) (st' := .long x :: st) (S' := S) (ev_st h (by show gv_ll lo (i) (fun y => gv_go (pc + 2) lo (.long y :: st) S) = _; unfold gv_ll; rw [hl]; rfl)) k
theorem ev_aload_n {i} {x : Nat} (h : M.2.2.2.2.2 pc = (.aload_n i, a, b, z)) (hl : lo[i.val]? = some (some (.ref x))) (k : Ev X d M (pc + 1) lo (.ref x :: st) S r) : Ev X d M pc lo st S r := ev_go (pc' := pc + 1) (lo' := lo) (st' := .ref x :: st) (S' := S) (ev_st h (by show gv_la lo (i.val) (fun y => gv_go (pc + 1) lo (y :: st) S) = _; unfold gv_la; rw [hl]; rfl)) k
theorem ev_aload {i} {x : Nat} (h : M.2.2.2.2.2 pc = (.aload i, a, b, z)) (hl : lo[i]? = some (some (.ref x))) (k : Ev X d M (pc + 2) lo (.ref x :: st) S r) : Ev X d M pc lo st S r := ev_go (pc' := pc + 2) (lo' := lo) (st' := .ref x :: st) (S' := S) (ev_st h (by show gv_la lo (i) (fun y => gv_go (pc + 2) lo (y :: st) S) = _; unfold gv_la; rw [hl]; rfl)) k
theorem ev_xload_n {i} {x : Nat} (h : M.2.2.2.2.2 pc = (.aload_n i, a, b, z)) (hl : lo[i.val]? = some (some (.retAddr x))) (k : Ev X d M (pc + 1) lo (.retAddr x :: st) S r) : Ev X d M pc lo st S r := ev_go (pc' := pc + 1) (lo' := lo) (st' := .retAddr x :: st) (S' := S) (ev_st h (by show gv_la lo (i.val) (fun y => gv_go (pc + 1) lo (y :: st) S) = _; unfold gv_la; rw [hl]; rfl)) k
theorem ev_xload {i} {x : Nat} (h : M.2.2.2.2.2 pc = (.aload i, a, b, z)) (hl : lo[i]? = some (some (.retAddr x))) (k : Ev X d M (pc + 2) lo (.retAddr x :: st) S r) : Ev X d M pc lo st S r := ev_go (pc' := pc + 2) (lo' := lo) (st' := .retAddr x :: st) (S' := S) (ev_st h (by show gv_la lo (i) (fun y => gv_go (pc + 2) lo (y :: st) S) = _; unfold gv_la; rw [hl]; rfl)) k
theorem ev_istore_n {i} {x : Int32} (h : M.2.2.2.2.2 pc = (.istore_n i, a, b, z)) (hl : (gv_ok lo (i.val) && Nat.blt i.val lo.length) = true) (k : Ev X d M (pc + 1) (lo.set i.val (some (.int x))) st S r) : Ev X d M pc lo (.int x :: st) S r := ev_go (pc' := pc + 1) (lo' := (lo.set i.val (some (.int x)))) (st' := st) (S' := S) (ev_st h (by show gv_sto lo (i.val) (some (.int x)) (fun lo => gv_go (pc + 1) lo st S) = _; unfold gv_sto; rw [hl]; rfl)) k
theorem ev_istore {i} {x : Int32} (h : M.2.2.2.2.2 pc = (.istore i, a, b, z)) (hl : (gv_ok lo (i) && Nat.blt i lo.length) = true) (k : Ev X d M (pc + 2) (lo.set i (some (.int x))) st S r) : Ev X d M pc lo (.int x :: st) S r := ev_go (pc' := pc + 2) (lo' := (lo.set i (some (.int x)))) (st' := st) (S' := S) (ev_st h (by show gv_sto lo (i) (some (.int x)) (fun lo => gv_go (pc + 2) lo st S) = _; unfold gv_sto; rw [hl]; rfl)) k
theorem ev_lstore_n {i} {x : Int64} (h : M.2.2.2.2.2 pc = (.lstore_n i, a, b, z)) (hl : (gv_ok lo (i.val) && Nat.blt (i.val + 1) lo.length) = true) (k : Ev X d M (pc + 1) ((lo.set i.val (some (.long x))).set (i.val + 1) none) st S r) : Ev X d M pc lo (.long x :: st) S r := ev_go (pc' := pc + 1) (lo' := ((lo.set i.val (some (.long x))).set (i.val + 1) none)) (st' := st) (S' := S) (ev_st h (by show gv_sto2 lo (i.val) (some (.long x)) (fun lo => gv_go (pc + 1) lo st S) = _; unfold gv_sto2; rw [hl]; rfl)) k
theorem ev_lstore {i} {x : Int64} (h : M.2.2.2.2.2 pc = (.lstore i, a, b, z)) (hl : (gv_ok lo (i) && Nat.blt (i + 1) lo.length) = true) (k : Ev X d M (pc + 2) ((lo.set i (some (.long x))).set (i + 1) none) st S r) : Ev X d M pc lo (.long x :: st) S r := ev_go (pc' := pc + 2) (lo' := ((lo.set i (some (.long x))).set (i + 1) none)) (st' := st) (S' := S) (ev_st h (by show gv_sto2 lo (i) (some (.long x)) (fun lo => gv_go (pc + 2) lo st S) = _; unfold gv_sto2; rw [hl]; rfl)) k
theorem ev_astore_n {i} {x : Nat} (h : M.2.2.2.2.2 pc = (.astore_n i, a, b, z)) (hl : (gv_ok lo (i.val) && Nat.blt i.val lo.length) = true) (k : Ev X d M (pc + 1) (lo.set i.val (some (.ref x))) st S r) : Ev X d M pc lo (.ref x :: st) S r := ev_go (pc' := pc + 1) (lo' := (lo.set i.val (some (.ref x)))) (st' := st) (S' := S) (ev_st h (by show gv_sto lo (i.val) (some (.ref x)) (fun lo => gv_go (pc + 1) lo st S) = _; unfold gv_sto; rw [hl]; rfl)) k
theorem ev_astore {i} {x : Nat} (h : M.2.2.2.2.2 pc = (.astore i, a, b, z)) (hl : (gv_ok lo (i) && Nat.blt i lo.length) = true) (k : Ev X d M (pc + 2) (lo.set i (some (.ref x))) st S r) : Ev X d M pc lo (.ref x :: st) S r := ev_go (pc' := pc + 2) (lo' := (lo.set i (some (.ref x)))) (st' := st) (S' := S) (ev_st h (by show gv_sto lo (i) (some (.ref x)) (fun lo => gv_go (pc + 2) lo st S) = _; unfold gv_sto; rw [hl]; rfl)) k
theorem ev_iinc {i y} {x : Int32} (h : M.2.2.2.2.2 pc = (.iinc i y, a, b, z)) (hl : lo[i]? = some (some (.int x))) (ho : (gv_ok lo i && Nat.blt i lo.length) = true) (k : Ev X d M (pc + 3) (lo.set i (some (.int (x + z)))) st S r) : Ev X d M pc lo st S r := ev_go (ev_st h (show gv_li lo _ _ = _ by unfold gv_li; rw [hl]; show gv_sto lo _ _ _ = _; unfold gv_sto; rw [ho]; rfl)) k
theorem ev_iadd {x y : Int32} (h : M.2.2.2.2.2 pc = (.iadd, a, b, z)) (k : Ev X d M (pc + 1) lo (.int (x + y) :: st) S r) : Ev X d M pc lo (.int y :: .int x :: st) S r := ev_go (ev_st h rfl) k
theorem ev_isub {x y : Int32} (h : M.2.2.2.2.2 pc = (.isub, a, b, z)) (k : Ev X d M (pc + 1) lo (.int (x - y) :: st) S r) : Ev X d M pc lo (.int y :: .int x :: st) S r := ev_go (ev_st h rfl) k
theorem ev_imul {x y : Int32} (h : M.2.2.2.2.2 pc = (.imul, a, b, z)) (k : Ev X d M (pc + 1) lo (.int (x * y) :: st) S r) : Ev X d M pc lo (.int y :: .int x :: st) S r := ev_go (ev_st h rfl) k
theorem ev_iand {x y : Int32} (h : M.2.2.2.2.2 pc = (.iand, a, b, z)) (k : Ev X d M (pc + 1) lo (.int (x &&& y) :: st) S r) : Ev X d M pc lo (.int y :: .int x :: st) S r := ev_go (ev_st h rfl) k
theorem ev_ior {x y : Int32} (h : M.2.2.2.2.2 pc = (.ior, a, b, z)) (k : Ev X d M (pc + 1) lo (.int (x ||| y) :: st) S r) : Ev X d M pc lo (.int y :: .int x :: st) S r := ev_go (ev_st h rfl) k
theorem ev_ixor {x y : Int32} (h : M.2.2.2.2.2 pc = (.ixor, a, b, z)) (k : Ev X d M (pc + 1) lo (.int (x ^^^ y) :: st) S r) : Ev X d M pc lo (.int y :: .int x :: st) S r := ev_go (ev_st h rfl) k
theorem ev_ishl {x y : Int32} (h : M.2.2.2.2.2 pc = (.ishl, a, b, z)) (k : Ev X d M (pc + 1) lo (.int (x <<< (y &&& 31)) :: st) S r) : Ev X d M pc lo (.int y :: .int x :: st) S r := ev_go (ev_st h rfl) k
theorem ev_ishr {x y : Int32} (h : M.2.2.2.2.2 pc = (.ishr, a, b, z)) (k : Ev X d M (pc + 1) lo (.int (x >>> (y &&& 31)) :: st) S r) : Ev X d M pc lo (.int y :: .int x :: st) S r := ev_go (ev_st h rfl) k
theorem ev_iushr {x y : Int32} (h : M.2.2.2.2.2 pc = (.iushr, a, b, z)) (k : Ev X d M (pc + 1) lo (.int ((x.toUInt32 >>> (y.toUInt32 &&& Int32.toUInt32 31)).toInt32) :: st) S r) : Ev X d M pc lo (.int y :: .int x :: st) S r := ev_go (ev_st h rfl) k
theorem ev_idiv {x y : Int32} (h : M.2.2.2.2.2 pc = (.idiv, a, b, z)) (hy : ¬ y = 0) (k : Ev X d M (pc + 1) lo (.int (x / y) :: st) S r) : Ev X d M pc lo (.int y :: .int x :: st) S r := ev_go (ev_st h (show gv_gd (decide (¬ y = 0)) _ = _ by rw [decide_eq_true hy]; rfl)) k
theorem ev_irem {x y : Int32} (h : M.2.2.2.2.2 pc = (.irem, a, b, z)) (hy : ¬ y = 0) (k : Ev X d M (pc + 1) lo (.int (x - x / y * y) :: st) S r) : Ev X d M pc lo (.int y :: .int x :: st) S r := ev_go (ev_st h (show gv_gd (decide (¬ y = 0)) _ = _ by rw [decide_eq_true hy]; rfl)) k
theorem ev_ineg {x : Int32} (h : M.2.2.2.2.2 pc = (.ineg, a, b, z)) (k : Ev X d M (pc + 1) lo (.int (-x) :: st) S r) : Ev X d M pc lo (.int x :: st) S r := ev_go (ev_st h rfl) k
theorem ev_ladd {x y : Int64} (h : M.2.2.2.2.2 pc = (.ladd, a, b, z)) (k : Ev X d M (pc + 1) lo (.long (x + y) :: st) S r) : Ev X d M pc lo (.long y :: .long x :: st) S r := ev_go (ev_st h rfl) k
theorem ev_lmul {x y : Int64} (h : M.2.2.2.2.2 pc = (.lmul, a, b, z)) (k : Ev X d M (pc + 1) lo (.long (x * y) :: st) S r) : Ev X d M pc lo (.long y :: .long x :: st) S r := ev_go (ev_st h rfl) k
theorem ev_ldiv {x y : Int64} (h : M.2.2.2.2.2 pc = (.ldiv, a, b, z)) (hy : ¬ y = 0) (k : Ev X d M (pc + 1) lo (.long (x / y) :: st) S r) : Ev X d M pc lo (.long y :: .long x :: st) S r := ev_go (ev_st h (show gv_gd (decide (¬ y = 0)) _ = _ by rw [decide_eq_true hy]; rfl)) k
theorem ev_lcmp {x y : Int64} (h : M.2.2.2.2.2 pc = (.lcmp, a, b, z)) (k : Ev X d M (pc + 1) lo (.int (lg_cmp x y) :: st) S r) : Ev X d M pc lo (.long y :: .long x :: st) S r := ev_go (ev_st h rfl) k
theorem ev_i2l {x : Int32} (h : M.2.2.2.2.2 pc = (.i2l, a, b, z)) (k : Ev X d M (pc + 1) lo (.long x.toInt64 :: st) S r) : Ev X d M pc lo (.int x :: st) S r := ev_go (ev_st h rfl) k
theorem ev_l2i {x : Int64} (h : M.2.2.2.2.2 pc = (.l2i, a, b, z)) (k : Ev X d M (pc + 1) lo (.int x.toInt32 :: st) S r) : Ev X d M pc lo (.long x :: st) S r := ev_go (ev_st h rfl) k
theorem ev_i2b {x : Int32} (h : M.2.2.2.2.2 pc = (.i2b, a, b, z)) (k : Ev X d M (pc + 1) lo (.int x.toInt8.toInt32 :: st) S r) : Ev X d M pc lo (.int x :: st) S r := ev_go (ev_st h rfl) k
theorem ev_dup {v : Value} (h : M.2.2.2.2.2 pc = (.dup, a, b, z)) (hv : Nat.beq v.category 1 = true) (k : Ev X d M (pc + 1) lo (v :: v :: st) S r) : Ev X d M pc lo (v :: st) S r := ev_go (ev_st h (show gv_gd (Nat.beq v.category 1) _ = _ by rw [hv]; rfl)) k
theorem ev_pop {v : Value} (h : M.2.2.2.2.2 pc = (.pop, a, b, z)) (hv : Nat.beq v.category 1 = true) (k : Ev X d M (pc + 1) lo st S r) : Ev X d M pc lo (v :: st) S r := ev_go (ev_st h (show gv_gd (Nat.beq v.category 1) _ = _ by rw [hv]; rfl)) k
theorem ev_dup2 {v w : Value} (h : M.2.2.2.2.2 pc = (.dup2, a, b, z)) (hv : (Nat.beq v.category 1 && Nat.beq w.category 1) = true) (k : Ev X d M (pc + 1) lo (v :: w :: v :: w :: st) S r) : Ev X d M pc lo (v :: w :: st) S r := ev_go (ev_st h (show gv_gd (Nat.beq v.category 1 && Nat.beq w.category 1) _ = _ by rw [hv]; rfl)) k
theorem ev_goto {i} (h : M.2.2.2.2.2 pc = (.goto i, a, b, z)) (k : Ev X d M a lo st S r) : Ev X d M pc lo st S r := ev_go (ev_st h rfl) k
theorem ev_if_eq {i} {x : Int32} (h : M.2.2.2.2.2 pc = (.ifCond .eq i, a, b, z)) (kt : x = 0 → Ev X d M a lo st S r) (kf : ¬ x = 0 → Ev X d M (pc + 3) lo st S r) : Ev X d M pc lo (.int x :: st) S r := ev_br (c := decide (x = 0)) (ev_st h rfl) (fun e => kt (of_decide_eq_true e)) (fun e => kf (of_decide_eq_false e))
theorem ev_ic_eq {i} {x y : Int32} (h : M.2.2.2.2.2 pc = (.if_icmp .eq i, a, b, z)) (kt : x = y → Ev X d M a lo st S r) (kf : ¬ x = y → Ev X d M (pc + 3) lo st S r) : Ev X d M pc lo (.int y :: .int x :: st) S r := ev_br (c := decide (x = y)) (ev_st h rfl) (fun e => kt (of_decide_eq_true e)) (fun e => kf (of_decide_eq_false e))
theorem ev_if_ne {i} {x : Int32} (h : M.2.2.2.2.2 pc = (.ifCond .ne i, a, b, z)) (kt : ¬ x = 0 → Ev X d M a lo st S r) (kf : x = 0 → Ev X d M (pc + 3) lo st S r) : Ev X d M pc lo (.int x :: st) S r := ev_br (c := decide (¬ x = 0)) (ev_st h rfl) (fun e => kt (of_decide_eq_true e)) (fun e => kf (Decidable.not_not.mp (of_decide_eq_false e)))
theorem ev_ic_ne {i} {x y : Int32} (h : M.2.2.2.2.2 pc = (.if_icmp .ne i, a, b, z)) (kt : ¬ x = y → Ev X d M a lo st S r) (kf : x = y → Ev X d M (pc + 3) lo st S r) : Ev X d M pc lo (.int y :: .int x :: st) S r := ev_br (c := decide (¬ x = y)) (ev_st h rfl) (fun e => kt (of_decide_eq_true e)) (fun e => kf (Decidable.not_not.mp (of_decide_eq_false e)))
theorem ev_if_lt {i} {x : Int32} (h : M.2.2.2.2.2 pc = (.ifCond .lt i, a, b, z)) (kt : x < 0 → Ev X d M a lo st S r) (kf : ¬ x < 0 → Ev X d M (pc + 3) lo st S r) : Ev X d M pc lo (.int x :: st) S r := ev_br (c := decide (x < 0)) (ev_st h rfl) (fun e => kt (of_decide_eq_true e)) (fun e => kf (of_decide_eq_false e))
theorem ev_ic_lt {i} {x y : Int32} (h : M.2.2.2.2.2 pc = (.if_icmp .lt i, a, b, z)) (kt : x < y → Ev X d M a lo st S r) (kf : ¬ x < y → Ev X d M (pc + 3) lo st S r) : Ev X d M pc lo (.int y :: .int x :: st) S r := ev_br (c := decide (x < y)) (ev_st h rfl) (fun e => kt (of_decide_eq_true e)) (fun e => kf (of_decide_eq_false e))
theorem ev_if_ge {i} {x : Int32} (h : M.2.2.2.2.2 pc = (.ifCond .ge i, a, b, z)) (kt : 0 ≤ x → Ev X d M a lo st S r) (kf : ¬ 0 ≤ x → Ev X d M (pc + 3) lo st S r) : Ev X d M pc lo (.int x :: st) S r := ev_br (c := decide (0 ≤ x)) (ev_st h rfl) (fun e => kt (of_decide_eq_true e)) (fun e => kf (of_decide_eq_false e))
theorem ev_ic_ge {i} {x y : Int32} (h : M.2.2.2.2.2 pc = (.if_icmp .ge i, a, b, z)) (kt : y ≤ x → Ev X d M a lo st S r) (kf : ¬ y ≤ x → Ev X d M (pc + 3) lo st S r) : Ev X d M pc lo (.int y :: .int x :: st) S r := ev_br (c := decide (y ≤ x)) (ev_st h rfl) (fun e => kt (of_decide_eq_true e)) (fun e => kf (of_decide_eq_false e))
theorem ev_if_gt {i} {x : Int32} (h : M.2.2.2.2.2 pc = (.ifCond .gt i, a, b, z)) (kt : 0 < x → Ev X d M a lo st S r) (kf : ¬ 0 < x → Ev X d M (pc + 3) lo st S r) : Ev X d M pc lo (.int x :: st) S r := ev_br (c := decide (0 < x)) (ev_st h rfl) (fun e => kt (of_decide_eq_true e)) (fun e => kf (of_decide_eq_false e))
theorem ev_ic_gt {i} {x y : Int32} (h : M.2.2.2.2.2 pc = (.if_icmp .gt i, a, b, z)) (kt : y < x → Ev X d M a lo st S r) (kf : ¬ y < x → Ev X d M (pc + 3) lo st S r) : Ev X d M pc lo (.int y :: .int x :: st) S r := ev_br (c := decide (y < x)) (ev_st h rfl) (fun e => kt (of_decide_eq_true e)) (fun e => kf (of_decide_eq_false e))
theorem ev_if_le {i} {x : Int32} (h : M.2.2.2.2.2 pc = (.ifCond .le i, a, b, z)) (kt : x ≤ 0 → Ev X d M a lo st S r) (kf : ¬ x ≤ 0 → Ev X d M (pc + 3) lo st S r) : Ev X d M pc lo (.int x :: st) S r := ev_br (c := decide (x ≤ 0)) (ev_st h rfl) (fun e => kt (of_decide_eq_true e)) (fun e => kf (of_decide_eq_false e))
theorem ev_ic_le {i} {x y : Int32} (h : M.2.2.2.2.2 pc = (.if_icmp .le i, a, b, z)) (kt : x ≤ y → Ev X d M a lo st S r) (kf : ¬ x ≤ y → Ev X d M (pc + 3) lo st S r) : Ev X d M pc lo (.int y :: .int x :: st) S r := ev_br (c := decide (x ≤ y)) (ev_st h rfl) (fun e => kt (of_decide_eq_true e)) (fun e => kf (of_decide_eq_false e))
theorem ev_tsw {df lw hg : Int} {os : Array Int} {x : Int32} (i : Nat) {o : Int} (h : M.2.2.2.2.2 pc = (.tableswitch df lw hg os, a, b, z)) (h1 : (decide (x.toInt < lw) || decide (hg < x.toInt)) = false) (hi : (x.toInt - lw).toNat = i) (ho : os[i]? = some o) (hp : decide (0 ≤ (pc : Int) + o) = true) (k : Ev X d M ((pc : Int) + o).toNat lo st S r) : Ev X d M pc lo (.int x :: st) S r := by
  refine ev_go (ev_st h ?_) k
  show (match decide (x.toInt < lw) || decide (hg < x.toInt) with
    | true => gv_jmp pc df lo st S
    | false => (match os[(x.toInt - lw).toNat]? with
      | some o => gv_jmp pc o lo st S
      | none => none)) = _
  rw [h1, hi, ho]
  show gv_gd _ _ = _
  rw [hp]
  rfl
theorem ev_tswD {df lw hg : Int} {os : Array Int} {x : Int32} (h : M.2.2.2.2.2 pc = (.tableswitch df lw hg os, a, b, z)) (h1 : (decide (x.toInt < lw) || decide (hg < x.toInt)) = true) (hp : decide (0 ≤ (pc : Int) + df) = true) (k : Ev X d M ((pc : Int) + df).toNat lo st S r) : Ev X d M pc lo (.int x :: st) S r := by
  refine ev_go (ev_st h ?_) k
  show (match decide (x.toInt < lw) || decide (hg < x.toInt) with
    | true => gv_jmp pc df lo st S
    | false => (match os[(x.toInt - lw).toNat]? with
      | some o => gv_jmp pc o lo st S
      | none => none)) = _
  rw [h1]
  show gv_gd _ _ = _
  rw [hp]
  rfl
theorem ev_lsw {df : Int} {ps : Array (Int × Int)} {x : Int32} {o : Int} (h : M.2.2.2.2.2 pc = (.lookupswitch df ps, a, b, z)) (ho : Op.lookupswitch.offset ps.toList df x.toInt = o) (hp : decide (0 ≤ (pc : Int) + o) = true) (k : Ev X d M ((pc : Int) + o).toNat lo st S r) : Ev X d M pc lo (.int x :: st) S r := by
  refine ev_go (ev_st h ?_) k
  show gv_jmp pc (Op.lookupswitch.offset ps.toList df x.toInt) lo st S = _
  rw [ho]
  show gv_gd _ _ = _
  rw [hp]
  rfl
theorem ev_getI {i q : Nat} (h : M.2.2.2.2.2 pc = (.getfield i, a, b, z)) (hf : gv_fk gv_fkT a b = 0) (hk : (G.2.1 q).1 = a) (k : Ev X d M (pc + 3) lo (.int (m q b) :: st) (G, (m, j), cc) r) : Ev X d M pc lo (.ref q :: st) (G, (m, j), cc) r := by
  refine ev_go (ev_st h ?_) k
  subst hk
  show gv_gd (Nat.beq (G.2.1 q).1 (G.2.1 q).1) (match gv_fk gv_fkT (G.2.1 q).1 b with | 2 => _ | 9 => _ | _ => _) = _
  rw [Nat.beq_refl, hf]
  rfl
theorem ev_getZ {i q : Nat} (h : M.2.2.2.2.2 pc = (.getfield i, a, b, z)) (hf : gv_fk gv_fkT a b = 1) (hk : (G.2.1 q).1 = a) (k : Ev X d M (pc + 3) lo (.int (m q b) :: st) (G, (m, j), cc) r) : Ev X d M pc lo (.ref q :: st) (G, (m, j), cc) r := by
  refine ev_go (ev_st h ?_) k
  subst hk
  show gv_gd (Nat.beq (G.2.1 q).1 (G.2.1 q).1) (match gv_fk gv_fkT (G.2.1 q).1 b with | 2 => _ | 9 => _ | _ => _) = _
  rw [Nat.beq_refl, hf]
  rfl
theorem ev_getP {i q t : Nat} (h : M.2.2.2.2.2 pc = (.getfield i, a, b, z)) (hf : gv_fk gv_fkT a b = 2) (hk : (G.2.1 q).1 = a) (ht : G.2.2 q b = some t) (k : Ev X d M (pc + 3) lo (.ref t :: st) (G, (m, j), cc) r) : Ev X d M pc lo (.ref q :: st) (G, (m, j), cc) r := by
  refine ev_go (ev_st h ?_) k
  subst hk
  show gv_gd (Nat.beq (G.2.1 q).1 (G.2.1 q).1) (match gv_fk gv_fkT (G.2.1 q).1 b with | 2 => (match G.2.2 q b with | some t => _ | none => none) | 9 => _ | _ => _) = _
  rw [Nat.beq_refl, hf, ht]
  rfl
theorem ev_putI {i q : Nat} {x : Int32} (h : M.2.2.2.2.2 pc = (.putfield i, a, b, z)) (hf : gv_fk gv_fkT a b = 0) (hk : (G.2.1 q).1 = a) (k : Ev X d M (pc + 3) lo st (G, (gu m q b x, j), cc) r) : Ev X d M pc lo (.int x :: .ref q :: st) (G, (m, j), cc) r := by
  refine ev_go (ev_st h ?_) k
  subst hk
  show (match gv_fk gv_fkT (G.2.1 q).1 b with | 0 => _ | 1 => _ | 2 => _ | _ => _) = _
  rw [hf]
  show gv_gd (Nat.beq (G.2.1 q).1 (G.2.1 q).1) _ = _
  rw [Nat.beq_refl]
  rfl
theorem ev_putZ {i q : Nat} {x : Int32} (h : M.2.2.2.2.2 pc = (.putfield i, a, b, z)) (hf : gv_fk gv_fkT a b = 1) (hk : (G.2.1 q).1 = a) (hx : x = 0 ∨ x = 1) (k : Ev X d M (pc + 3) lo st (G, (gu m q b x, j), cc) r) : Ev X d M pc lo (.int x :: .ref q :: st) (G, (m, j), cc) r := by
  refine ev_go (ev_st h ?_) k
  subst hk
  show (match gv_fk gv_fkT (G.2.1 q).1 b with | 0 => _ | 1 => _ | 2 => _ | _ => _) = _
  rw [hf]
  show gv_gd (Nat.beq (G.2.1 q).1 (G.2.1 q).1 && (decide (x = 0) || decide (x = 1))) _ = _
  rw [Nat.beq_refl]
  rcases hx with rfl | rfl
  · rfl
  · rfl
theorem ev_script {i : Int32} (h : M.2.2.2.2.2 pc = (.iaload, a, b, z)) (hi : gv_in i X.2 = true) (k : Ev X d M (pc + 1) lo (.int (X.1 i.toNatClampNeg) :: st) S r) : Ev X d M pc lo (.int i :: .retAddr 0 :: st) S r := ev_go (ev_st h (show gv_gd (gv_in i X.2) _ = _ by rw [hi]; rfl)) k
theorem ev_scriptL (h : M.2.2.2.2.2 pc = (.arraylength, a, b, z)) (k : Ev X d M (pc + 1) lo (.int (Int32.ofNat X.2) :: st) S r) : Ev X d M pc lo (.retAddr 0 :: st) S r := ev_go (ev_st h rfl) k
theorem ev_iald {q n : Nat} {i : Int32} (h : M.2.2.2.2.2 pc = (.iaload, a, b, z)) (hk : G.2.1 q = (100, n)) (hi : gv_in i n = true) (k : Ev X d M (pc + 1) lo (.int (m q i.toNatClampNeg) :: st) (G, (m, j), cc) r) : Ev X d M pc lo (.int i :: .ref q :: st) (G, (m, j), cc) r := ev_go (ev_st h (show gv_gd (Nat.beq (G.2.1 q).1 100 && gv_in i (G.2.1 q).2) _ = _ by rw [hk]; show gv_gd (gv_in i n) _ = _; rw [hi]; rfl)) k
theorem ev_bald {q n : Nat} {i : Int32} (h : M.2.2.2.2.2 pc = (.baload, a, b, z)) (hk : G.2.1 q = (101, n)) (hi : gv_in i n = true) (k : Ev X d M (pc + 1) lo (.int (m q i.toNatClampNeg) :: st) (G, (m, j), cc) r) : Ev X d M pc lo (.int i :: .ref q :: st) (G, (m, j), cc) r := ev_go (ev_st h (show gv_gd (Nat.beq (G.2.1 q).1 101 && gv_in i (G.2.1 q).2) _ = _ by rw [hk]; show gv_gd (gv_in i n) _ = _; rw [hi]; rfl)) k
theorem ev_lald {q n : Nat} {i : Int32} (h : M.2.2.2.2.2 pc = (.laload, a, b, z)) (hk : G.2.1 q = (102, n)) (hi : gv_in i n = true) (k : Ev X d M (pc + 1) lo (.long (j q i.toNatClampNeg) :: st) (G, (m, j), cc) r) : Ev X d M pc lo (.int i :: .ref q :: st) (G, (m, j), cc) r := ev_go (ev_st h (show gv_gd (Nat.beq (G.2.1 q).1 102 && gv_in i (G.2.1 q).2) _ = _ by rw [hk]; show gv_gd (gv_in i n) _ = _; rw [hi]; rfl)) k
theorem ev_aald {q n t : Nat} {i : Int32} (h : M.2.2.2.2.2 pc = (.aaload, a, b, z)) (hk : G.2.1 q = (103, n)) (hi : gv_in i n = true) (ht : G.2.2 q i.toNatClampNeg = some t) (k : Ev X d M (pc + 1) lo (.ref t :: st) (G, (m, j), cc) r) : Ev X d M pc lo (.int i :: .ref q :: st) (G, (m, j), cc) r := ev_go (ev_st h (show gv_gd (Nat.beq (G.2.1 q).1 103 && gv_in i (G.2.1 q).2) (match G.2.2 q i.toNatClampNeg with | some t => _ | none => none) = _ by rw [hk, ht]; show gv_gd (gv_in i n) _ = _; rw [hi]; rfl)) k
theorem ev_iast {q n : Nat} {i : Int32} {x : Int32} (h : M.2.2.2.2.2 pc = (.iastore, a, b, z)) (hk : G.2.1 q = (100, n)) (hi : gv_in i n = true) (k : Ev X d M (pc + 1) lo st (G, (gu m q i.toNatClampNeg x, j), cc) r) : Ev X d M pc lo (.int x :: .int i :: .ref q :: st) (G, (m, j), cc) r := ev_go (ev_st h (show gv_gd (Nat.beq (G.2.1 q).1 100 && gv_in i (G.2.1 q).2) _ = _ by rw [hk]; show gv_gd (gv_in i n) _ = _; rw [hi]; rfl)) k
theorem ev_bast {q n : Nat} {i : Int32} {x : Int32} (h : M.2.2.2.2.2 pc = (.bastore, a, b, z)) (hk : G.2.1 q = (101, n)) (hi : gv_in i n = true) (k : Ev X d M (pc + 1) lo st (G, (gu m q i.toNatClampNeg (vp_nar .byte x), j), cc) r) : Ev X d M pc lo (.int x :: .int i :: .ref q :: st) (G, (m, j), cc) r := ev_go (ev_st h (show gv_gd (Nat.beq (G.2.1 q).1 101 && gv_in i (G.2.1 q).2) _ = _ by rw [hk]; show gv_gd (gv_in i n) _ = _; rw [hi]; rfl)) k
theorem ev_last {q n : Nat} {i : Int32} {x : Int64} (h : M.2.2.2.2.2 pc = (.lastore, a, b, z)) (hk : G.2.1 q = (102, n)) (hi : gv_in i n = true) (k : Ev X d M (pc + 1) lo st (G, (m, gu j q i.toNatClampNeg x), cc) r) : Ev X d M pc lo (.long x :: .int i :: .ref q :: st) (G, (m, j), cc) r := ev_go (ev_st h (show gv_gd (Nat.beq (G.2.1 q).1 102 && gv_in i (G.2.1 q).2) _ = _ by rw [hk]; show gv_gd (gv_in i n) _ = _; rw [hi]; rfl)) k
theorem ev_alen {q n : Nat} (h : M.2.2.2.2.2 pc = (.arraylength, a, b, z)) (hk : G.2.1 q = (100, n)) (k : Ev X d M (pc + 1) lo (.int (nI n) :: st) (G, (m, j), cc) r) : Ev X d M pc lo (.ref q :: st) (G, (m, j), cc) r := ev_go (ev_st h (show gv_gd (Nat.ble 100 (G.2.1 q).1 && Nat.ble (G.2.1 q).1 103) (gv_go _ _ (.int (Int32.ofNat (G.2.1 q).2) :: _) _) = _ by rw [hk]; rfl)) k
theorem ev_throw {i : Nat} (h : M.2.2.2.2.2 pc = (.new i, a, b, z)) (ha : Nat.ble 300 a = true) (hc : Nat.ble (gv_cat st) 8 = true) (hr : r = (.inr (a - 300), gv_ex S)) : Ev X d M pc lo st S r := ev_th (ev_st h (show (match Nat.ble 300 a with | true => gv_gd (Nat.ble (gv_cat st) 8) _ | false => _) = _ by rw [ha]; show gv_gd (Nat.ble (gv_cat st) 8) _ = _; rw [hc]; rfl)) hr
theorem ev_slen {i q : Nat} (h : M.2.2.2.2.2 pc = (.invokevirtual i, 990001, b, z)) (hq : (Nat.ble 1 q && Nat.blt (q - 1) gv_txT.length && Nat.ble (gv_cat st) 8) = true) (k : Ev X d M (pc + 3) lo (.int (Int32.ofNat (gv_str gv_txT q).length) :: st) S r) : Ev X d M pc lo (.retAddr q :: st) S r := ev_go (ev_st h (show gv_gd (Nat.ble 1 q && Nat.blt (q - 1) gv_txT.length && Nat.ble (gv_cat st) 8) _ = _ by rw [hq]; rfl)) k
theorem ev_schar {i q : Nat} {x : Int32} (h : M.2.2.2.2.2 pc = (.invokevirtual i, 990002, b, z)) (hq : (Nat.ble 1 q && Nat.blt (q - 1) gv_txT.length && gv_in x (gv_str gv_txT q).length && Nat.ble (gv_cat st) 8) = true) (k : Ev X d M (pc + 3) lo (.int ((gv_str gv_txT q).getD x.toNatClampNeg 0) :: st) S r) : Ev X d M pc lo (.int x :: .retAddr q :: st) S r := ev_go (ev_st h (show gv_gd (Nat.ble 1 q && Nat.blt (q - 1) gv_txT.length && gv_in x (gv_str gv_txT q).length && Nat.ble (gv_cat st) 8) _ = _ by rw [hq]; rfl)) k
theorem gv_virt {i q : Nat} {as rest : List Value} (h : M.2.2.2.2.2 pc = (.invokevirtual i, a, b, z)) (ha : Nat.ble 990000 a = false) (h1 : Nat.ble (b / 100) st.length = true) (h2 : (st.take (b / 100)).reverse = as) (h3 : st.drop (b / 100) = .ref q :: rest) (hk : (G.2.1 q).1 = b % 100) (hc : Nat.ble (gv_cat rest) 8 = true) : gv_step gv_fkT gv_txT X M pc lo st (G, (m, j), cc) = some (.inr (.inr (.inl (a, true, .ref q :: as, rest)))) := by
  refine ev_st h ?_
  show (match Nat.ble 990000 a with | true => _ | false => gv_args (b / 100) st _) = _
  rw [ha]
  show gv_gd _ (_) = _
  rw [h1, h2, h3]
  show gv_gd (Nat.beq (G.2.1 q).1 (b % 100) && Nat.ble (gv_cat rest) 8) _ = _
  rw [hk, hc, Nat.beq_refl]
  rfl
theorem gv_stat {i : Nat} {as rest : List Value} (h : M.2.2.2.2.2 pc = (.invokestatic i, a, b, z)) (ha : Nat.ble 990000 a = false) (h1 : Nat.ble b st.length = true) (h2 : (st.take b).reverse = as) (h3 : st.drop b = rest) (hc : Nat.ble (gv_cat rest) 8 = true) : gv_step gv_fkT gv_txT X M pc lo st S = some (.inr (.inr (.inl (a, false, as, rest)))) := by
  refine ev_st h ?_
  show (match Nat.ble 990000 a with | true => _ | false => gv_args b st _) = _
  rw [ha]
  show gv_gd _ (_) = _
  rw [h1, h2, h3]
  show gv_gd (Nat.ble (gv_cat rest) 8) _ = _
  rw [hc]
  rfl
theorem ev_virt {i q : Nat} {as rest : List Value} {v : Option Value} {S' : gv_S} {N : gv_Mt} (h : M.2.2.2.2.2 pc = (.invokevirtual i, a, b, z)) (ha : Nat.ble 990000 a = false) (h1 : Nat.ble (b / 100) st.length = true) (h2 : (st.take (b / 100)).reverse = as) (h3 : st.drop (b / 100) = .ref q :: rest) (hk : (G.2.1 q).1 = b % 100) (hc : Nat.ble (gv_cat rest) 8 = true) (hN : gv_meth a = N) (hl : Nat.ble (gv_ent (.ref q :: as)).length N.2.2.1 = true) (k1 : Ev X d N 0 (gv_enter (.ref q :: as) N.2.2.1) [] (G, (m, j), cc) (.inl v, S')) (k2 : Ev X (d + 1) M (pc + 3) lo (v.toList ++ rest) S' r) : Ev X (d + 1) M pc lo st (G, (m, j), cc) r := ev_cal (gv_virt h ha h1 h2 h3 hk hc) hN hl k1 k2
theorem ev_virtT {i q : Nat} {as rest : List Value} {x : Nat} {S' : gv_S} {N : gv_Mt} (h : M.2.2.2.2.2 pc = (.invokevirtual i, a, b, z)) (ha : Nat.ble 990000 a = false) (h1 : Nat.ble (b / 100) st.length = true) (h2 : (st.take (b / 100)).reverse = as) (h3 : st.drop (b / 100) = .ref q :: rest) (hk : (G.2.1 q).1 = b % 100) (hc : Nat.ble (gv_cat rest) 8 = true) (hN : gv_meth a = N) (hl : Nat.ble (gv_ent (.ref q :: as)).length N.2.2.1 = true) (hh : M.2.2.2.2.1 = []) (k1 : Ev X d N 0 (gv_enter (.ref q :: as) N.2.2.1) [] (G, (m, j), cc) (.inr x, S')) (hr : r = (.inr x, S')) : Ev X (d + 1) M pc lo st (G, (m, j), cc) r := ev_calT (gv_virt h ha h1 h2 h3 hk hc) hN hl hh k1 hr
theorem ev_virtC {i q : Nat} {as rest : List Value} {x y pc' : Nat} {lo' : gv_L} {S' : gv_S} {N : gv_Mt} (h : M.2.2.2.2.2 pc = (.invokevirtual i, a, b, z)) (ha : Nat.ble 990000 a = false) (h1 : Nat.ble (b / 100) st.length = true) (h2 : (st.take (b / 100)).reverse = as) (h3 : st.drop (b / 100) = .ref q :: rest) (hk : (G.2.1 q).1 = b % 100) (hc : Nat.ble (gv_cat rest) 8 = true) (hN : gv_meth a = N) (hl : Nat.ble (gv_ent (.ref q :: as)).length N.2.2.1 = true) (hh : gv_hand M.2.2.2.2.1 pc x = some y) (hg : gv_caught M y lo = some (pc', lo')) (k1 : Ev X d N 0 (gv_enter (.ref q :: as) N.2.2.1) [] (G, (m, j), cc) (.inr x, S')) (k2 : Ev X (d + 1) M pc' lo' [] S' r) : Ev X (d + 1) M pc lo st (G, (m, j), cc) r := ev_calC (gv_virt h ha h1 h2 h3 hk hc) hN hl hh hg k1 k2
theorem ev_stat {i : Nat} {as rest : List Value} {v : Option Value} {S' : gv_S} {N : gv_Mt} (h : M.2.2.2.2.2 pc = (.invokestatic i, a, b, z)) (ha : Nat.ble 990000 a = false) (h1 : Nat.ble b st.length = true) (h2 : (st.take b).reverse = as) (h3 : st.drop b = rest) (hc : Nat.ble (gv_cat rest) 8 = true) (hN : gv_meth a = N) (hl : Nat.ble (gv_ent as).length N.2.2.1 = true) (k1 : Ev X d N 0 (gv_enter as N.2.2.1) [] S (.inl v, S')) (k2 : Ev X (d + 1) M (pc + 3) lo (v.toList ++ rest) S' r) : Ev X (d + 1) M pc lo st S r := ev_cal (gv_stat h ha h1 h2 h3 hc) hN hl k1 k2
theorem ev_copy {i q0 q1 n0 n1 : Nat} {sp dp n : Int32} (h : M.2.2.2.2.2 pc = (.invokestatic i, a, b, z)) (ha : Nat.ble 990000 a = true) (hk0 : G.2.1 q0 = (100, n0)) (hk1 : G.2.1 q1 = (100, n1)) (hn : (!(decide (sp < 0)) && !(decide (dp < 0)) && !(decide (n < 0)) && Nat.ble (sp.toNatClampNeg + n.toNatClampNeg) n0 && Nat.ble (dp.toNatClampNeg + n.toNatClampNeg) n1 && Nat.ble (gv_cat st) 8) = true) (k : Ev X d M (pc + 3) lo st (G, (gw m q1 (va_cpy (m q0) (m q1) sp.toNatClampNeg dp.toNatClampNeg n.toNatClampNeg), j), cc) r) : Ev X d M pc lo (.int n :: .int dp :: .ref q1 :: .int sp :: .ref q0 :: st) (G, (m, j), cc) r := by
  refine ev_go (ev_st h ?_) k
  show (match Nat.ble 990000 a with | true => gv_gd (Nat.beq (G.2.1 q0).1 100 && Nat.beq (G.2.1 q1).1 100 && !(decide (sp < 0)) && !(decide (dp < 0)) && !(decide (n < 0)) && Nat.ble (sp.toNatClampNeg + n.toNatClampNeg) (G.2.1 q0).2 && Nat.ble (dp.toNatClampNeg + n.toNatClampNeg) (G.2.1 q1).2 && Nat.ble (gv_cat st) 8) _ | false => _) = _
  rw [ha, hk0, hk1]
  show gv_gd (!(decide (sp < 0)) && !(decide (dp < 0)) && !(decide (n < 0)) && Nat.ble (sp.toNatClampNeg + n.toNatClampNeg) n0 && Nat.ble (dp.toNatClampNeg + n.toNatClampNeg) n1 && Nat.ble (gv_cat st) 8) _ = _
  rw [hn]
  rfl
theorem ev_ireti {x : Int32} (h : M.2.2.2.2.2 pc = (.ireturn, a, b, z)) (ht : M.2.2.2.1 = some .int) (hr : r = (.inl (some (.int x)), S)) : Ev X d M pc lo [.int x] S r := ev_rt (ev_st h (show gv_iret M.2.2.2.1 [.int x] = _ by rw [ht]; rfl)) hr
theorem ev_iretz {x : Int32} (h : M.2.2.2.2.2 pc = (.ireturn, a, b, z)) (ht : M.2.2.2.1 = some .boolean) (hx : x = 0 ∨ x = 1) (hr : r = (.inl (some (.int x)), S)) : Ev X d M pc lo [.int x] S r := ev_rt (ev_st h (show gv_iret M.2.2.2.1 [.int x] = _ by rw [ht]; rcases hx with rfl | rfl <;> rfl)) hr
theorem ev_lret {x : Int64} (h : M.2.2.2.2.2 pc = (.lreturn, a, b, z)) (hr : r = (.inl (some (.long x)), S)) : Ev X d M pc lo [.long x] S r := ev_rt (ev_st h rfl) hr
theorem ev_vret (h : M.2.2.2.2.2 pc = (.return_, a, b, z)) (hr : r = (.inl none, S)) : Ev X d M pc lo [] S r := ev_rt (ev_st h rfl) hr
end EV
