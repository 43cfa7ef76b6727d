theorem gv_args_some {b : Nat} {st : List Value} {k : List Value → List Value → Option gv_A} {x : gv_A} (h : gv_args b st k = some x) : ∃ as r, st = as.reverse ++ r ∧ as.length = b ∧ k as r = some x := by
  obtain ⟨h1, h2⟩ := gv_gd_some h
  have h1 := Nat.le_of_ble_eq_true h1
  refine ⟨(st.take b).reverse, st.drop b, ?_, ?_, h2⟩
  · rw [List.reverse_reverse, List.take_append_drop]
  · rw [List.length_reverse, List.length_take]; omega
theorem gv_sig {y : MethodName} {n : Nat} (h : (parseMethodDescriptor y.desc).map (fun d => d.parameters.length) = some n) : ∀ sig, parseMethodDescriptor y.desc = some sig → n = sig.parameters.length := by
  intro sig hs
  rw [hs] at h
  exact (Option.some.inj h).symm
theorem gv_stk {base : Nat} {ex : Nat → Nat} {as r : List Value} : (as.reverse ++ r).map (gv_cv base ex) = (as.map (gv_cv base ex)).reverse ++ r.map (gv_cv base ex) := by
  rw [List.map_append, List.map_reverse]
section Step
variable {p : Program} {l : Launch} {e : Env} {R : Room} {s : State} {m : MethodId} {args : Array Value} {below : List Frame} {meth : Method} {c : Code}
variable {fk : List (List Nat)} {cl : List vw_C} {D : va_G} {ta : Nat → ClassId} {base : Nat} {ex : Nat → Nat} {P : Nat → gv_Mt} {Ts : List Cond} {M : gv_Mt} {tf : Nat → Nat → FieldType} {tx : List (List Int32)} {X : gv_X}
set_option maxHeartbeats 4000000 in
set_option maxRecDepth 100000 in
/-- calls -/
theorem gv_step_calls (C : gv_Cx p s m args meth c M Ts) {pc : Nat} (ok : gv_okE cl fk tf P Ts M pc) {H : Heap} {locs : List Loc} {c0 s0 : Nat} {ls : Array Slot} {lo : gv_L} {st : List Value} {S : gv_S} (hW : gv_Wd fk cl D ta base S s H) (hS : va_S (fun q : Nat => base ≤ q) s.heap H locs) (hL : gv_Lo base ex ls M.2.2.1 lo) {act : gv_A} (h : gv_step fk tx X M pc lo st S = some act) (hR8 : 8 ≤ R.frames) (hR2 : 200 ≤ R.locals)
    (hspec : ∀ i a b k, M.2.2.2.2.2 pc = (.invokespecial i, a, b, k) → a < 990000 → (Cond.methodLink (gv_own M) i (P a).1).before args s = true ∨ ∃ host, (Cond.methodLinkNest (gv_own M) i (P a).1 host).before args s = true)
    (hSL : ∀ i b k q r, M.2.2.2.2.2 pc = (.invokevirtual i, 990001, b, k) → 1 ≤ q → q - 1 < tx.length → (r.map fun v => v.category).sum ≤ 8 → ∀ (Q : State → Prop) (k0 n0 : Nat), k0 ≤ R.cells → n0 ≤ R.slots → W p l e R s m args below meth c H locs k0 n0 Q (F0 m (pc + 3) ls (.int (Int32.ofNat (gv_str tx q).length) :: r)) → W p l e R s m args below meth c H locs k0 n0 Q (F0 m pc ls (.ref (ex q) :: r)))
    (hSC : ∀ i a b k q j r, M.2.2.2.2.2 pc = (.invokevirtual i, a, b, k) → 990000 ≤ a → (a = 990001 → False) → 1 ≤ q → q - 1 < tx.length → vp_in j (gv_str tx q).length → (r.map fun v => v.category).sum ≤ 8 → ∀ (Q : State → Prop) (k0 n0 : Nat), k0 ≤ R.cells → n0 ≤ R.slots → W p l e R s m args below meth c H locs k0 n0 Q (F0 m (pc + 3) ls (.int ((gv_str tx q).getD j.toNatClampNeg 0) :: r)) → W p l e R s m args below meth c H locs k0 n0 Q (F0 m pc ls (.int j :: .ref (ex q) :: r)))
    (hi : ∀ i a b k, M.2.2.2.2.2 pc = (i, a, b, k) → match i with
      | .invokevirtual _ | .invokespecial _ | .invokestatic _ => True
      | _ => False) :
    gv_rule p l e R s m args below meth c fk cl D ta base ex P H locs c0 s0 ls M.2.2.1 lo S (F0 m pc ls (st.map (gv_cv base ex))) act := by
  obtain ⟨hx, hb, hml, hown, hts, hr, hlocks, hnm⟩ := C
  unfold gv_step at h
  unfold gv_okE at ok
  rcases hE : M.2.2.2.2.2 pc with ⟨i, a, b, k⟩
  have hi := hi i a b k hE
  rw [hE] at h ok
  cases i with
  | invokevirtual n =>
    dsimp only at h
    split at h
    · rename_i h99
      split at h
      · obtain ⟨q, r, rfl, g⟩ := gv_px_some h
        obtain ⟨g1, g2⟩ := gv_gd_some g
        obtain rfl := gv_go_some g2
        simp only [Bool.and_eq_true] at g1
        exact fun Q g8 g9 K => hSL n b k q (r.map (gv_cv base ex)) hE (Nat.le_of_ble_eq_true g1.1.1) (Nat.le_of_ble_eq_true g1.1.2) (by rw [gv_cat_map]; exact Nat.le_of_ble_eq_true g1.2) Q _ _ g8 g9 (K H locs ls hW hS hL)
      · rename_i hne
        obtain ⟨i, r1, rfl, g⟩ := gv_pi_some h
        obtain ⟨q, r, rfl, g0⟩ := gv_px_some g
        obtain ⟨g1, g2⟩ := gv_gd_some g0
        obtain rfl := gv_go_some g2
        simp only [Bool.and_eq_true] at g1
        exact fun Q g8 g9 K => hSC n a b k q i (r.map (gv_cv base ex)) hE (Nat.le_of_ble_eq_true h99) hne (Nat.le_of_ble_eq_true g1.1.1.1) (Nat.le_of_ble_eq_true g1.1.1.2) (gv_in_some g1.1.2) (by rw [gv_cat_map]; exact Nat.le_of_ble_eq_true g1.2) Q _ _ g8 g9 (K H locs ls hW hS hL)
    · rename_i h99
      obtain ⟨as, r1, rfl, hlen, g⟩ := gv_args_some h
      obtain ⟨q, r, rfl, g0⟩ := gv_pr_some g
      obtain ⟨g1, g2⟩ := gv_gd_some g0
      obtain rfl := (Option.some.inj g2).symm
      simp only [Bool.and_eq_true] at g1
      have ha : a < 990000 := Nat.lt_of_not_le fun z => absurd (Nat.ble_eq_true_of_le z) (by rw [h99]; decide)
      obtain ⟨hd, ok2⟩ := ok
      obtain ⟨hb50, ⟨⟨Cn, T, N⟩, hc, hCn⟩, ⟨hini, hy, hsig⟩, hlink, hinst, hsel, hh0⟩ := ok2 ha
      dsimp only at hCn
      subst hCn
      have hk : (S.1.2.1 q).1 = b % 100 := Nat.eq_of_beq_eq_true g1.1
      have hq : q < S.1.1 := hW.lt hk (by omega)
      have he : (gv_pic fk ta base S)[q]? = some (base + q, .inr (b % 100, gv_fs fk base S q (b % 100))) := by rw [gv_pic_at hq, gv_cell_obj hk hb50]
      have hrv := va_recv hW.1 hW.2.1 hc he
      have hcat := Nat.le_of_ble_eq_true g1.2
      have hroom : 2 * (F0 m pc ls ((as.reverse ++ Value.ref q :: r).map (gv_cv base ex))).monitorRoom + ((r.map (gv_cv base ex)).map fun v => v.category).sum ≤ 8 := lv_room (by rw [gv_cat_map]; exact hcat)
      refine ⟨fun ws' rm mc ms k0 n0 Pc Qc free _ hM hrc hrs hfr hlo hws hbl hPc hf => ?_, fun _ ws' rm mc ms k0 n0 Pc Qc XC free _ hM hrc hrs hfr hlo hws hbl hPc hf => ?_, fun ws' rm mc ms k0 n0 Pc Qc free hne => absurd hh0 hne⟩
      · exact va_runV (As := as.map (gv_cv base ex)) ⟨hx, hb, hml, hown, hts⟩ hM ⟨⟨hrc, hrs, hfr, hlo, hws, List.mem_cons_self, hws _ List.mem_cons_self args s (State.WarmedH.refl s), hts _ hini, hy, gv_sig hsig, hts _ hlink⟩, hts _ hinst, hts _ hsel⟩ ⟨hbl, hrv, hPc⟩ rfl (by rw [List.length_map]; exact hlen) hL.2.1 gv_stk hroom hd hf
      · exact vx_runV (As := as.map (gv_cv base ex)) ⟨hx, hb, hml, hown, hts⟩ hM ⟨⟨hrc, hrs, hfr, hlo, hws, List.mem_cons_self, hws _ List.mem_cons_self args s (State.WarmedH.refl s), hts _ hini, hy, gv_sig hsig, hts _ hlink⟩, hts _ hinst, hts _ hsel⟩ ⟨hbl, hrv, hPc⟩ rfl (by rw [List.length_map]; exact hlen) hL.2.1 gv_stk hroom hd hf
  | invokespecial n =>
    dsimp only at h
    split at h
    · rename_i h99
      obtain ⟨q, r, rfl, g⟩ := gv_pr_some h
      obtain ⟨g1, g2⟩ := gv_gd_some g
      obtain rfl := gv_go_some g2
      obtain ⟨hd, ok1, -⟩ := ok
      obtain ⟨o1, o2, o3⟩ := ok1 (Nat.le_of_ble_eq_true h99)
      have hcat := Nat.le_of_ble_eq_true g1
      exact fun Q _ _ K => W.objInit hx hb hown (hts _ o1) (hts _ o2) (hts _ o3) rfl (hL.2.1.trans hml.symm) rfl hd (by omega) (by
        have := lv_room (m := m) (pc := pc) (ls := ls) (rest := ((Value.ref q :: r).map (gv_cv base ex))) (st := r.map (gv_cv base ex)) (by rw [gv_cat_map]; exact hcat)
        omega) (K H locs ls hW hS hL)
    · rename_i h99
      obtain ⟨as, r1, rfl, hlen, g⟩ := gv_args_some h
      obtain ⟨q, r, rfl, g0⟩ := gv_pr_some g
      obtain ⟨g1, g2⟩ := gv_gd_some g0
      obtain rfl := (Option.some.inj g2).symm
      have ha : a < 990000 := Nat.lt_of_not_le fun z => absurd (Nat.ble_eq_true_of_le z) (by rw [h99]; decide)
      obtain ⟨hd, -, ok2⟩ := ok
      obtain ⟨⟨hini, hy, hsig⟩, hinst, hin2, hrt, hh0⟩ := ok2 ha
      have hcat := Nat.le_of_ble_eq_true g1
      have hroom : 2 * (F0 m pc ls ((as.reverse ++ Value.ref q :: r).map (gv_cv base ex))).monitorRoom + ((r.map (gv_cv base ex)).map fun v => v.category).sum ≤ 8 := lv_room (by rw [gv_cat_map]; exact hcat)
      refine ⟨fun ws' rm mc ms k0 n0 Pc Qc free _ hM hrc hrs hfr hlo hws hbl hPc hf => ?_, fun z => absurd z (by decide), fun ws' rm mc ms k0 n0 Pc Qc free hne => absurd hh0 hne⟩
      rw [hrt] at hM hws
      rcases hspec n a b k hE ha with hlink | ⟨host, hlink⟩
      · exact va_runI (As := as.map (gv_cv base ex)) ⟨hx, hb, hml, hown, hts⟩ hM ⟨⟨hrc, hrs, hfr, hlo, hws, List.mem_cons_self, hws _ List.mem_cons_self args s (State.WarmedH.refl s), hts _ hini, hy, gv_sig hsig, hlink⟩, hin2, hts _ hinst⟩ ⟨hbl, hPc⟩ rfl (by rw [List.length_map]; exact hlen) hL.2.1 gv_stk hroom hd hf
      · exact va_runIN (As := as.map (gv_cv base ex)) ⟨hx, hb, hml, hown, hts⟩ hM ⟨⟨⟨hrc, hrs, hfr, hlo, hws, List.mem_cons_self⟩, hws _ List.mem_cons_self args s (State.WarmedH.refl s), hts _ hini, hy, gv_sig hsig, hlink⟩, hin2, hts _ hinst⟩ ⟨hbl, hPc⟩ rfl (by rw [List.length_map]; exact hlen) hL.2.1 gv_stk hroom hd hf
  | invokestatic n =>
    dsimp only at h
    split at h
    · rename_i h99
      obtain ⟨z, r1, rfl, g⟩ := gv_pi_some h
      obtain ⟨dp, r2, rfl, g0⟩ := gv_pi_some g
      obtain ⟨q1, r3, rfl, g1⟩ := gv_pr_some g0
      obtain ⟨sp, r4, rfl, g2⟩ := gv_pi_some g1
      obtain ⟨q0, r, rfl, g3⟩ := gv_pr_some g2
      obtain ⟨g4, g5⟩ := gv_gd_some g3
      obtain rfl := gv_go_some g5
      obtain ⟨hd, ok1, -⟩ := ok
      obtain ⟨o1, o2, o3, o4⟩ := ok1 (Nat.le_of_ble_eq_true h99)
      simp only [Bool.and_eq_true, Bool.not_eq_true', decide_eq_false_iff_not] at g4
      obtain ⟨⟨⟨⟨⟨⟨⟨e0, e1⟩, e2⟩, e3⟩, e4⟩, e5⟩, e6⟩, e7⟩ := g4
      have hk0 : (S.1.2.1 q0).1 = 100 := Nat.eq_of_beq_eq_true e0
      have hk1 : (S.1.2.1 q1).1 = 100 := Nat.eq_of_beq_eq_true e1
      have hq0 : q0 < S.1.1 := hW.lt hk0 (by omega)
      have hq1 : q1 < S.1.1 := hW.lt hk1 (by omega)
      have he0 := gv_pic_at (fk := fk) (ta := ta) (base := base) hq0
      have he1 := gv_pic_at (fk := fk) (ta := ta) (base := base) hq1
      rw [gv_cell_num hk0 (Or.inl rfl)] at he0
      rw [gv_cell_num hk1 (Or.inl rfl)] at he1
      exact fun Q _ _ K => va_copyi hx hb (hml.trans hL.2.1.symm) hown (hts _ o1) (hts _ o2) (hts _ o3) (hts _ o4) hW.1 hW.2.1 gv_pic_D hS q0 q1 0 0 he0 he1 (ty := .int) rfl rfl rfl e2 e3 e4 (Nat.le_of_ble_eq_true e5) (Nat.le_of_ble_eq_true e6) (fun _ _ => rfl) (by omega)
        (by
          rw [gv_cat_map]
          have := Nat.le_of_ble_eq_true e7
          have h2 : nativeFrameWords "java/lang/System" "arraycopy" 5 + 11 ≤ 100 := by decide
          omega) hd (fun H1 locs1 hP1 _ hS1 => K H1 locs1 ls (hW.set hP1 (by rw [gv_cell_num (S := gv_row S q1 _) hk1 (Or.inl rfl)]; simp only [gv_row, gw_eq]) gv_row_o rfl rfl) hS1 hL)
    · rename_i h99
      obtain ⟨as, r, rfl, hlen, g⟩ := gv_args_some h
      obtain ⟨g1, g2⟩ := gv_gd_some g
      obtain rfl := (Option.some.inj g2).symm
      have ha : a < 990000 := Nat.lt_of_not_le fun z => absurd (Nat.ble_eq_true_of_le z) (by rw [h99]; decide)
      obtain ⟨hd, -, ok2⟩ := ok
      obtain ⟨⟨hini, hy, hsig⟩, hlink, hstt⟩ := ok2 ha
      have hcat := Nat.le_of_ble_eq_true g1
      have hroom : 2 * (F0 m pc ls ((as.reverse ++ r).map (gv_cv base ex))).monitorRoom + ((r.map (gv_cv base ex)).map fun v => v.category).sum ≤ 8 := lv_room (by rw [gv_cat_map]; exact hcat)
      refine ⟨fun ws' rm mc ms k0 n0 Pc Qc free _ hM hrc hrs hfr hlo hws hbl hPc hf => ?_, fun z => absurd z (by decide), fun ws' rm mc ms k0 n0 Pc Qc free _ hM hrc hrs hfr hlo hws hbl hPc hf => ?_⟩
      · exact va_runS (As := as.map (gv_cv base ex)) ⟨hx, hb, hml, hown, hts⟩ hM ⟨⟨hrc, hrs, hfr, hlo, hws, List.mem_cons_self, hws _ List.mem_cons_self args s (State.WarmedH.refl s), hts _ hini, hy, gv_sig hsig, hts _ hlink⟩, hts _ hstt⟩ ⟨hbl, hPc⟩ rfl (by rw [List.length_map]; exact hlen) hL.2.1 gv_stk hroom hd hf
      · exact vx_runSW (As := as.map (gv_cv base ex)) ⟨hx, hb, hml, hown, hts⟩ hM ⟨⟨hrc, hrs, hfr, hlo, hws, List.mem_cons_self⟩, hws _ List.mem_cons_self args s (State.WarmedH.refl s), hts _ hini, hy, gv_sig hsig, hts _ hlink, hts _ hstt⟩ ⟨hbl, hPc⟩ rfl (by rw [List.length_map]; exact hlen) hL.2.1 gv_stk hroom hd hf
  | _ => exact hi.elim
end Step
