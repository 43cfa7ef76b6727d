/-- a new place -/
theorem gv_pic_new {fk : List (List Nat)} {ta : Nat → ClassId} {base : Nat} {S : gv_S} {kk len sl : Nat} : gv_pic fk ta base (gv_new S kk len sl) = gv_pic fk ta base S ++ [(base + S.1.1, gv_cell fk ta base (gv_new S kk len sl) S.1.1)] := by
  refine List.ext_getElem? fun k => ?_
  by_cases hk : k < S.1.1
  · rw [List.getElem?_append_left (by rw [gv_pic_len]; exact hk), gv_pic_at hk, gv_pic_at (S := gv_new S kk len sl) (Nat.lt_succ_of_lt hk)]
    have hne : k ≠ S.1.1 := Nat.ne_of_lt hk
    rw [gv_cell_congr (S := S) (S' := gv_new S kk len sl) (gw_ne hne) (gw_ne hne) (gw_ne hne) (gw_ne hne)]
  · by_cases hk2 : k = S.1.1
    · subst hk2
      rw [List.getElem?_append_right (by rw [gv_pic_len]; exact Nat.le_refl _), gv_pic_len, Nat.sub_self, gv_pic_at (S := gv_new S kk len sl) (Nat.lt_succ_self _)]
      rfl
    · rw [List.getElem?_eq_none (by rw [gv_pic_len]; show S.1.1 + 1 ≤ k; omega), List.getElem?_eq_none (by rw [List.length_append, gv_pic_len]; show S.1.1 + 1 ≤ k; omega)]
theorem gv_new_kd {S : gv_S} {kk len sl : Nat} : (gv_new S kk len sl).1.2.1 S.1.1 = (kk, len) := gw_eq
theorem gv_Wd.new {fk : List (List Nat)} {cl : List vw_C} {D : va_G} {ta : Nat → ClassId} {base : Nat} {S : gv_S} {U : State} {H H1 : Heap} {kk len sl : Nat} (h : gv_Wd fk cl D ta base S U H) (hkk : kk < 50 ∨ (100 ≤ kk ∧ kk ≤ 103)) (hz : H.size = base + S.1.1) (o1 : ∀ q, q < H.size → H1[q]? = H[q]?) (hc : va_at D cl (base + S.1.1, gv_cell fk ta base (gv_new S kk len sl) S.1.1) H1) : gv_Wd fk cl D ta base (gv_new S kk len sl) U H1 := by
  obtain ⟨a1, a2, a5, a6⟩ := h
  refine ⟨a1, ?_, fun q hq => ?_, fun q => ?_⟩
  · rw [gv_pic_new]
    refine va_P.app (a2.kept fun k x hx => o1 x.1 (a2 k x hx).lt) fun k x hx => ?_
    have hz : k < 1 := (List.getElem?_eq_some_iff.mp hx).1
    rw [show k = 0 by omega] at hx
    cases hx
    exact hc
  · have hq2 : S.1.1 + 1 ≤ q := hq
    show ((gw S.1.2.1 S.1.1 (kk, len)) q).1 = 999
    rw [gw_ne (by omega)]
    exact a5 q (by omega)
  · show ((gw S.1.2.1 S.1.1 (kk, len)) q).1 < 50 ∨ (100 ≤ ((gw S.1.2.1 S.1.1 (kk, len)) q).1 ∧ ((gw S.1.2.1 S.1.1 (kk, len)) q).1 ≤ 103) ∨ ((gw S.1.2.1 S.1.1 (kk, len)) q).1 = 999
    by_cases hq : q = S.1.1
    · subst hq
      rw [gw_eq]
      exact hkk.elim Or.inl (fun z => Or.inr (Or.inl z))
    · rw [gw_ne hq]
      exact a6 q
theorem gv_S_new {A : Nat → Prop} {H0 H H1 : Heap} {locs : List Loc} (hS : va_S A H0 H locs) (z1 : H1.size = H.size + 1) (o1 : ∀ q, q < H.size → H1[q]? = H[q]?) : va_S A H0 H1 locs :=
  ⟨Nat.le_trans hS.1 (by omega), fun x h1 h2 => (o1 x (Nat.lt_of_lt_of_le h1 hS.1)).trans (hS.2.1 x h1 h2), hS.2.2⟩
section Step
variable {p : Program} {l : Launch} {e : Env} {R : Room} {s : State} {m : MethodId} {args : Array Value} {below : List Frame} {meth : Method} {c : Code}
variable {fk : List (List Nat)} {cl : List vw_C} {D : va_G} {ta : Nat → ClassId} {base : Nat} {ex : Nat → Nat} {P : Nat → gv_Mt} {Ts : List Cond} {M : gv_Mt} {tf : Nat → Nat → FieldType} {tx : List (List Int32)} {X : gv_X}
set_option maxHeartbeats 4000000 in
set_option maxRecDepth 100000 in
/-- what is made -/
theorem gv_step_new (C : gv_Cx p s m args meth c M Ts) {pc : Nat} (ok : gv_okE cl fk tf P Ts M pc) {H : Heap} {locs : List Loc} {c0 s0 : Nat} {ls : Array Slot} {lo : gv_L} {st : List Value} {S : gv_S} (hW : gv_Wd fk cl D ta base S s H) (hS : va_S (fun q : Nat => base ≤ q) s.heap H locs) (hL : gv_Lo base ex ls M.2.2.1 lo) {act : gv_A} (h : gv_step fk tx X M pc lo st S = some act) (hc0 : c0 ≤ S.2.2.2.1) (hs0 : s0 ≤ S.2.2.2.2) (hsz : S.2.2.1 = 0 → H.size = base + S.1.1) (hAO : va_AO "GuestView$World" s) (hnew : ∀ i a b k, M.2.2.2.2.2 pc = (.new i, a, b, k) → a < 300 → a < 50)
    (hi : ∀ i a b k, M.2.2.2.2.2 pc = (i, a, b, k) → match i with
      | .newarray _ | .anewarray _ | .new _ => True
      | _ => False) :
    gv_rule p l e R s m args below meth c fk cl D ta base ex P H locs c0 s0 ls M.2.2.1 lo S (F0 m pc ls (st.map (gv_cv base ex))) act := by
  obtain ⟨hx, hb, hml, hown, hts, hr, hlocks, hnm⟩ := C
  unfold gv_step at h
  unfold gv_okE at ok
  rcases hE : M.2.2.2.2.2 pc with ⟨i, a, b, k⟩
  have hi := hi i a b k hE
  rw [hE] at h ok
  cases i with
  | newarray t =>
    obtain ⟨n, r, rfl, g⟩ := gv_pi_some h
    obtain ⟨g1, g2⟩ := gv_gd_some g
    obtain rfl := gv_go_some g2
    simp only [Bool.and_eq_true, Bool.not_eq_true', decide_eq_false_iff_not] at g1
    have hfl := Nat.eq_of_beq_eq_true g1.1.1
    have hn := g1.1.2
    have hle := Nat.le_of_ble_eq_true g1.2
    obtain ⟨hd, hac, hta⟩ := ok
    have hz := hsz hfl
    intro Q hR1 hR2 K
    have hcc : S.2.2.2.1 - c0 + 1 = (gv_new S a n.toNatClampNeg n.toNatClampNeg).2.2.2.1 - c0 := by show _ = S.2.2.2.1 + 1 - c0; omega
    have hss : S.2.2.2.2 - s0 + n.toNatClampNeg = (gv_new S a n.toNatClampNeg n.toNatClampNeg).2.2.2.2 - s0 := by show _ = S.2.2.2.2 + n.toNatClampNeg - s0; omega
    rw [← hcc] at hR1
    rw [← hss] at hR2
    have hby : n.toNatClampNeg * componentBytes (newarray.typeOf t) ≤ 536870912 := by
      have : componentBytes (newarray.typeOf t) ≤ 8 := by cases t <;> decide
      calc n.toNatClampNeg * componentBytes (newarray.typeOf t) ≤ 1000000 * 8 := Nat.mul_le_mul hle this
        _ ≤ 536870912 := by decide
    refine va_newaK hx hb (hts _ hac) rfl hd rfl hn rfl hby hR1 hR2 hz fun H1 cA e1 z1 o1 hAr hNm => ?_
    rw [hcc, hss]
    rw [← hz] at z1 o1
    refine K H1 locs ls (hW.new (by omega) hz o1 ?_) (gv_S_new hS z1 o1) hL
    rcases hta with ⟨rfl, rfl⟩ | ⟨rfl, rfl⟩ | ⟨rfl, rfl⟩
    · have hcA : ta 100 = cA := Option.some.inj (((hW.1.2 0 _ rfl).2 : s.vm.findClass _ = some (ta 100)).symm.trans hNm)
      rw [gv_cell_num (a := 100) (by rw [gv_new_kd]) (Or.inl rfl), hcA, gv_new_kd]
      show H1[base + S.1.1]? = some (arrV cA n.toNatClampNeg fun j => .int (gw S.2.1.1 S.1.1 (fun _ => 0) S.1.1 j))
      rw [gw_eq]
      exact e1
    · have hcA : ta 101 = cA := Option.some.inj (((hW.1.2 1 _ rfl).2 : s.vm.findClass _ = some (ta 101)).symm.trans hNm)
      rw [gv_cell_num (a := 101) (by rw [gv_new_kd]) (Or.inr rfl), hcA, gv_new_kd]
      show H1[base + S.1.1]? = some (arrV cA n.toNatClampNeg fun j => .int (gw S.2.1.1 S.1.1 (fun _ => 0) S.1.1 j))
      rw [gw_eq]
      exact e1
    · have hcA : ta 102 = cA := Option.some.inj (((hW.1.2 2 _ rfl).2 : s.vm.findClass _ = some (ta 102)).symm.trans hNm)
      rw [gv_cell_long (by rw [gv_new_kd]), hcA, gv_new_kd]
      show H1[base + S.1.1]? = some (arrV cA n.toNatClampNeg fun j => .long (gw S.2.1.2 S.1.1 (fun _ => 0) S.1.1 j))
      rw [gw_eq]
      exact e1
  | anewarray t =>
    obtain ⟨n, r, rfl, g⟩ := gv_pi_some h
    obtain ⟨g1, g2⟩ := gv_gd_some g
    obtain rfl := gv_go_some g2
    simp only [Bool.and_eq_true, Bool.not_eq_true', decide_eq_false_iff_not] at g1
    have hfl := Nat.eq_of_beq_eq_true g1.1.1
    have hn := g1.1.2
    have hle := Nat.le_of_ble_eq_true g1.2
    obtain ⟨hd, rfl, hcl⟩ := ok
    have hz := hsz hfl
    intro Q hR1 hR2 K
    have hcc : S.2.2.2.1 - c0 + 1 = (gv_new S 103 n.toNatClampNeg n.toNatClampNeg).2.2.2.1 - c0 := by show _ = S.2.2.2.1 + 1 - c0; omega
    have hss : S.2.2.2.2 - s0 + n.toNatClampNeg = (gv_new S 103 n.toNatClampNeg n.toNatClampNeg).2.2.2.2 - s0 := by show _ = S.2.2.2.2 + n.toNatClampNeg - s0; omega
    rw [← hcc] at hR1
    rw [← hss] at hR2
    refine W.anew hx hb hown (hts _ hcl) (va_AO.use hAO) rfl hd rfl hn (by omega) hR1 hR2 fun cA kA comp f1 f2 f3 f4 => ?_
    generalize hH1 : H.push ({ cls := cA, slots := Array.replicate n.toNatClampNeg .null, vm := .none } : Cell) = H1
    have z1 : H1.size = H.size + 1 := by rw [← hH1, Array.size_push]
    have e1 : H1[H.size]? = some (arrV cA n.toNatClampNeg (fun _ => .null)) := by rw [← hH1, Array.getElem?_push_size, ← arrV_new]
    have o1 : ∀ q : Nat, q < H.size → H1[q]? = H[q]? := fun q hq => by rw [← hH1, Array.getElem?_push, if_neg (Nat.ne_of_lt hq)]
    rw [hcc, hss]
    have KK := K H1 locs ls (hW.new (sl := n.toNatClampNeg) (len := n.toNatClampNeg) (kk := 103) (by omega) hz o1 ?_) (gv_S_new hS z1 o1) hL
    · rw [hz]
      exact KK
    · obtain ⟨-, kA', comp', -, -, -, hf⟩ := hW.1.2 3 _ rfl
      have hcA : ta 103 = cA := Option.some.inj (hf.symm.trans f1)
      rw [gv_cell_refs (by rw [gv_new_kd]), hcA, gv_new_kd]
      show H1[base + S.1.1]? = some (arrV cA n.toNatClampNeg fun j => va_rf ((gw S.1.2.2 S.1.1 (fun _ => none) S.1.1 j).map fun t => base + t))
      rw [gw_eq, ← hz]
      exact e1
  | new t =>
    dsimp only at h
    split at h
    · obtain ⟨g1, g2⟩ := gv_gd_some h
      obtain rfl := (Option.some.inj g2).symm
      exact trivial
    · rename_i h300
      obtain ⟨g1, g2⟩ := gv_gd_some h
      obtain rfl := gv_go_some g2
      have hfl := Nat.eq_of_beq_eq_true g1
      have hz := hsz hfl
      have ha : a < 50 := hnew t a b k hE (by
        have := Nat.lt_of_not_le (fun z => absurd (Nat.ble_eq_true_of_le z) (by rw [h300]; decide) : ¬ 300 ≤ a)
        omega)
      obtain ⟨hd, ⟨Cn, T, N⟩, hc, hbN, hlen, hin, hty, hcl, hins, hini, hdv⟩ := ok ha
      dsimp only at hbN hlen hin hty hcl hins hini hdv
      subst hbN
      intro Q hR1 hR2 K
      have hcc : S.2.2.2.1 - c0 + 1 = (gv_new S a 0 b).2.2.2.1 - c0 := by show _ = S.2.2.2.1 + 1 - c0; omega
      have hss : S.2.2.2.2 - s0 + b = (gv_new S a 0 b).2.2.2.2 - s0 := by show _ = S.2.2.2.2 + b - s0; omega
      rw [← hcc] at hR1
      rw [← hss] at hR2
      have hKn := hW.1.1 a _ hc
      refine W.newcK hx hb hown (hts _ hcl) (hts _ hins) (hts _ hini) rfl hd hR1 hR2 hKn.2.1 hz fun H1 kC hkC e1 z1 o1 => ?_
      rw [hcc, hss]
      rw [← hz] at z1 o1
      refine K H1 locs ls (hW.new (Or.inl ha) hz o1 ?_) (gv_S_new hS z1 o1) hL
      rw [gv_cell_obj (a := a) (by rw [gv_new_kd]) ha]
      refine ⟨_, hc, (u_born (tf a) hts hin hKn hkC e1 hty).to fun j hj => ?_⟩
      rw [hdv j hj]
      unfold vp_V
      rw [List.getD_eq_getElem?_getD, gv_fs_at (by rw [hlen]; exact hj), Option.getD_some]
      unfold gv_fv
      show _ = if gv_fk fk a j = 2 then va_rf ((gw S.1.2.2 S.1.1 (fun _ => none) S.1.1 j).map fun t => base + t) else .int (gw S.2.1.1 S.1.1 (fun _ => 0) S.1.1 j)
      rw [gw_eq, gw_eq]
      rfl
  | _ => exact hi.elim
end Step
