/-! the law from its first step -/
theorem k_in {S S1 : gv_S} {X : gv_X} {k a : Nat} {r : gv_O} (h : gv_run gv_fkT gv_txT gv_meth (fun _ => 0, 0) 8000 1389 (gv_meth k) 0 (gv_enter [.ref a] 1) [] S = some (r, S1)) (ha : a ≠ 279) (hg : clG (cl9 279) S) (hn : S1.1.1 ≤ 279) : Ev X 1389 (gv_meth k) 0 (gv_enter [.ref a] 1) [] S (r, S1) ∧ clG (cl9 279) S1 := by
  obtain ⟨q1, q2⟩ := cl_run (C := cl9 279) (X' := X) (cl9_K 279) (fun e => absurd rfl e.2) (Or.inr (fun n d M pc lo st S r h => cl_mono n d M pc lo st S r h)) 8000 1389 (gv_meth k) 0 _ [] S (r, S1) h (cl_enter (clT_c ⟨fun e => ha (Value.ref.inj e), fun e => (by cases e)⟩ clT_nil)) clT_nil hg (fun m _ b => ⟨fun e => (by have e2 : m = 279 := Value.ref.inj e; have b : m < S1.1.1 := b; omega), fun e => (by cases e)⟩)
  exact ⟨⟨8000, q1⟩, q2.1⟩
theorem ks_G : clG (cl9 279) (gv_new ks0 11 0 15) := clG_new (fun q k t e => by cases e)
theorem k_md (m : Nat → Nat → Int32) : mI (fun q k => (m q k).toBitVec.toNat) = m := by
  funext q k
  exact nI_tn _
theorem kStart (X : gv_X) : ∃ S T : gv_S, Ev X 1389 gvm_104 0 (gv_enter [.ref 0] 1) [] (gv_new ks0 11 0 15) (.inl none, S) ∧ S.1.1 = 263 ∧ S.2.2.1 = 0 ∧ Ev X 1389 gvm_195 0 (gv_enter [.ref 263] 1) [] (gv_new S 12 0 32) (.inl none, T) ∧ clG (cl9 279) T ∧ T.1.1 = 279 ∧ T.2.2.1 = 0 ∧ T.2.2.2.1 ≤ 300 ∧ T.2.2.2.2 ≤ 20000 ∧ (∀ q, q < 279 → T.1.2.1 q = gK q ∧ ∀ k, k < 32 → T.1.2.2 q k = gR q k) ∧ stF (kA T) T.2.1.2 := by
  obtain ⟨S, T, a, b, c, d, e, f, g, h, i⟩ := kC_all
  obtain ⟨e1, e⟩ := bool_2 e
  obtain ⟨e2, e⟩ := bool_2 e
  obtain ⟨e3, e4⟩ := bool_2 e
  have t1 : T.1.1 = 279 := Nat.eq_of_beq_eq_true e1
  obtain ⟨x1, x2⟩ := k_in (X := X) (k := 104) a (by decide) ks_G (by omega)
  obtain ⟨y1, y2⟩ := k_in (X := X) (k := 195) d (by decide) (clG_new x2) (by omega)
  exact ⟨S, T, x1, b, c, y1, y2, t1, Nat.eq_of_beq_eq_true e2, Nat.le_of_ble_eq_true e3, Nat.le_of_ble_eq_true e4, kSh_q i, stF_T f g h⟩
theorem kG {T : gv_S} (h : ∀ q, q < 279 → T.1.2.1 q = gK q ∧ ∀ k, k < 32 → T.1.2.2 q k = gR q k) (n : T.1.1 = 279) (g : clG (cl9 279) T) : ivG (gv_new T 102 1 1).1 := by
  have e1 : ∀ q, (gv_new T 102 1 1).1.2.1 q = if q = 279 then (102, 1) else T.1.2.1 q := fun q => by
    show gw T.1.2.1 T.1.1 (102, 1) q = _
    rw [n]; rfl
  have e2 : ∀ q, (gv_new T 102 1 1).1.2.2 q = if q = 279 then (fun _ => none) else T.1.2.2 q := fun q => by
    show gw T.1.2.2 T.1.1 (fun _ => none) q = _
    rw [n]; rfl
  have og : oG (gv_new T 102 1 1).1 := fun q hq => by
    rw [e1, e2]
    by_cases c : q = 279
    · rw [if_pos c, if_pos c, c]
      exact ⟨rfl, fun k _ => rfl⟩
    · rw [if_neg c, if_neg c]
      exact h q (by omega)
  refine ⟨okX11_ok og, okX12_ok og, by rw [e1]; rfl, fun q k e => ?_, by show 279 < T.1.1 + 1; omega⟩
  rw [e2] at e
  by_cases c : q = 279
  · rw [if_pos c] at e; cases e
  · rw [if_neg c] at e
    exact (g q k 279 e).1 rfl
theorem kMain (X : gv_X) (hX : X.2 ≤ 3072) : ∃ (n : Nat) (S' : gv_S), gv_run gv_fkT gv_txT gv_meth X n 1390 gvm_385 0 (gv_enter [.retAddr 0] 7) [] ks0 = some (.inl (some (.int 1)), S') ∧ S'.2.2.2.1 ≤ 601024 ∧ S'.2.2.2.2 ≤ 7293034 := by
  obtain ⟨S, T, x1, s1, s2, y1, cg, t1, t2, t3, t4, sh, fa⟩ := kStart X
  have hg := kG sh t1 cg
  obtain ⟨G, hG⟩ : ∃ G, G = (gv_new T 102 1 1).1 := ⟨_, rfl⟩
  obtain ⟨A, hA⟩ : ∃ A : Nat → Nat → Nat, A = fun q k => ((gv_new T 102 1 1).2.1.1 q k).toBitVec.toNat := ⟨_, rfl⟩
  have em : mI A = (gv_new T 102 1 1).2.1.1 := by rw [hA]; exact k_md _
  have aA : ∀ q k, q ≠ 279 → A q k = kA T q k := fun q k hq => by
    rw [hA]
    show (gw T.2.1.1 T.1.1 (fun _ => 0) q k).toBitVec.toNat = (T.2.1.1 q k).toBitVec.toNat
    unfold gw
    rw [if_neg (by omega)]
  have jj : ∀ q, q ≠ 279 → (gv_new T 102 1 1).2.1.2 q = T.2.1.2 q := fun q hq => by
    show gw T.2.1.2 T.1.1 (fun _ => 0) q = _
    unfold gw
    rw [if_neg (by omega)]
  have st : stF A (gv_new T 102 1 1).2.1.2 := by
    obtain ⟨h1, h2, h3, h4, h5, h6⟩ := fa
    refine ⟨fun i hi => (aA _ _ (by decide)).trans (h1 i hi), fun i hi => (aA _ _ (by decide)).trans (h2 i hi), fun i hi => (aA _ _ (by decide)).trans (h3 i hi), fun i hi => ⟨(aA _ _ (by decide)).trans (h4 i hi).1, (aA _ _ (by decide)).trans (h4 i hi).2⟩, fun i hi => ⟨(aA _ _ (by decide)).trans (h5 i hi).1, (aA _ _ (by decide)).trans (h5 i hi).2.1, (aA _ _ (by decide)).trans (h5 i hi).2.2.1, (aA _ _ (by decide)).trans (h5 i hi).2.2.2.1, by rw [jj 274 (by decide)]; exact (h5 i hi).2.2.2.2⟩, fun x hx => (aA _ _ ?_).trans (h6 x hx)⟩
    have := List.all_eq_true.mp (show kL.all (fun x => decide (x.1 ≠ 279)) = true by decide) x hx
    exact of_decide_eq_true this
  have I : ivI A (gv_new T 102 1 1).2.1.2 := ivI_0s st (fun i => by rw [hA]; exact BitVec.isLt _)
  have L := lw_loop (X := X) (d := 1350) (P := fun r => r.1 = .inl (some (.int 1)) ∧ r.2.2.2.2.1 ≤ 601024 ∧ r.2.2.2.2.2 ≤ 7293034) hg hX (fun S a b => ⟨rfl, a, b⟩) 600 0 A (gv_new T 102 1 1).2.1.2 (gv_new T 102 1 1).2.2 none none (by omega) (by decide) (by show T.2.2.2.1 + 1 + 600 ≤ _; omega) (by show T.2.2.2.2 + 1 + 6 * 600 ≤ _; omega) I
  rw [em] at L
  have W : EvP X 1390 gvm_385 0 (gv_enter [.retAddr 0] 7) [] ks0 (fun r => r.1 = .inl (some (.int 1)) ∧ r.2.2.2.2.1 ≤ 601024 ∧ r.2.2.2.2.2 ≤ 7293034) := by
    refine pv_go (pc' := 3) (lo' := gv_enter [.retAddr 0] 7) (st' := [.ref 0]) (S' := gv_new ks0 11 0 15) (ev_st rfl rfl) ?_
    refine pv_dup rfl rfl (pv_cal (k := 104) (vf := false) (as := [.ref 0]) (rest := [.ref 0]) (v := none) (S' := S) (N := gvm_104) (ev_st rfl rfl) rfl rfl x1 ?_)
    refine pv_astore_n rfl rfl ?_
    refine pv_go (pc' := 11) (lo' := [some (.retAddr 0), some (.ref 0), none, none, none, none, none]) (st' := [.ref 263]) (S' := gv_new S 12 0 32) (ev_st rfl (by
      show gv_gd (Nat.beq S.2.2.1 0) (gv_go 11 _ (.ref S.1.1 :: []) (gv_new S 12 0 32)) = _
      rw [s1, s2]; rfl)) ?_
    refine pv_dup rfl rfl (pv_cal (k := 195) (vf := false) (as := [.ref 263]) (rest := [.ref 263]) (v := none) (S' := T) (N := gvm_195) (ev_st rfl rfl) rfl rfl y1 ?_)
    refine pv_astore_n rfl rfl (pv_iconst rfl ?_)
    refine pv_go (pc' := 19) (lo' := [some (.retAddr 0), some (.ref 0), some (.ref 263), none, none, none, none]) (st' := [.ref 279]) (S' := gv_new T 102 1 1) (ev_st rfl (by
      show gv_gd (Nat.beq T.2.2.1 0 && !(decide ((1 : Int32) < 0)) && Nat.ble (1 : Int32).toNatClampNeg 1000000) (gv_go 19 _ (.ref T.1.1 :: []) (gv_new T 102 (1 : Int32).toNatClampNeg (1 : Int32).toNatClampNeg)) = _
      rw [t1, t2, show (1 : Int32).toNatClampNeg = 1 by decide]; rfl)) ?_
    refine pv_astore_n rfl rfl (pn_iconst (u := 0) rfl rfl (pv_istore rfl rfl ?_))
    exact L
  obtain ⟨r, ⟨n, hr⟩, h1, h2, h3⟩ := W
  refine ⟨n, r.2, ?_, h2, h3⟩
  rw [hr]
  show some r = some (.inl (some (.int 1)), r.2)
  rw [← h1]
