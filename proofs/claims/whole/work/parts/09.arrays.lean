section Step
variable {p : Program} {l : Launch} {e : Env} {R : Room} {s : State} {m : MethodId} {args : Array Value} {below : List Frame} {meth : Method} {c : Code}
variable {fk : List (List Nat)} {cl : List vw_C} {D : va_G} {ta : Nat → ClassId} {base : Nat} {ex : Nat → Nat} {P : Nat → gv_Mt} {Ts : List Cond} {M : gv_Mt} {tf : Nat → Nat → FieldType} {tx : List (List Int32)} {X : gv_X}
theorem gv_ldcSW {cc : ByteArray} {pc : Nat} {ls : Array Slot} {rest : List Value} {H : Heap} {locs : List Loc} {cells slots : Nat} {Q : State → Prop} (hexec : p.tables.exec = Jvm.exec) (hb : c.code = cc) {own tx : String} {index q : Nat} (hown : s.vm.findClass own = some m.cls) (hZ : vk_R own index tx q s) (hdg : decode cc pc = .ok (.ldc_w index, 3))
    (k : W p l e R s m args below meth c H locs cells slots Q (F0 m (pc + 3) ls (.ref q :: rest))) : W p l e R s m args below meth c H locs cells slots Q (F0 m pc ls rest) := by
  intro T hT X
  obtain ⟨t, a1, b1⟩ := k T hT X
  exact ⟨t, X.ldcStringW hexec hown (text := tx) (a := q) hZ.1 hZ.2 (g := F0 m pc ls rest) rfl (by rw [hb]; exact hdg) t a1, b1⟩
set_option maxHeartbeats 4000000 in
set_option maxRecDepth 100000 in
/-- arrays -/
theorem gv_step_arrays (C : gv_Cx p s m args meth c M Ts) {pc : Nat} (ok : gv_okE cl fk tf P Ts M pc) {H : Heap} {locs : List Loc} {c0 s0 : Nat} {ls : Array Slot} {lo : gv_L} {st : List Value} {S : gv_S} (hW : gv_Wd fk cl D ta base S s H) (hS : va_S (fun q : Nat => base ≤ q) s.heap H locs) (hL : gv_Lo base ex ls M.2.2.1 lo) {act : gv_A} (h : gv_step fk tx X M pc lo st S = some act) (hX : va_X (ex 0) X.2 X.1 s s.heap) (hbl : ex 0 < s.heap.size) (hbA : ¬ (fun q : Nat => base ≤ q) (ex 0))
    (hi : ∀ i a b k, M.2.2.2.2.2 pc = (i, a, b, k) → match i with
      | .iaload | .baload | .laload | .aaload | .iastore | .bastore | .lastore | .aastore | .arraylength => True
      | _ => False) :
    gv_rule p l e R s m args below meth c fk cl D ta base ex P H locs c0 s0 ls M.2.2.1 lo S (F0 m pc ls (st.map (gv_cv base ex))) act := by
  obtain ⟨hx, hb, hml, hown, hts, hr, hlocks, hnm⟩ := C
  unfold gv_step at h
  unfold gv_okE at ok
  rcases hE : M.2.2.2.2.2 pc with ⟨i, a, b, k⟩
  have hi := hi i a b k hE
  rw [hE] at h ok
  cases i with
  | iaload =>
    obtain ⟨i, r1, rfl, g⟩ := gv_pi_some h
    match r1, g with
    | .retAddr 0 :: r, g =>
      obtain ⟨g1, g2⟩ := gv_gd_some g
      obtain rfl := gv_go_some g2
      exact fun Q _ _ K => va_sld hx hb hX hbl hbA hS (gv_in_some g1) ok (K H locs ls hW hS hL)
    | .ref q :: r, g =>
      obtain ⟨g1, g2⟩ := gv_gd_some g
      obtain rfl := gv_go_some g2
      simp only [Bool.and_eq_true] at g1
      have hk : (S.1.2.1 q).1 = 100 := Nat.eq_of_beq_eq_true g1.1
      have hq : q < S.1.1 := hW.lt hk (by omega)
      have he : (gv_pic fk ta base S)[q]? = some (base + q, .inl (ta 100, (S.1.2.1 q).2, .inl (S.2.1.1 q))) := by rw [gv_pic_at hq, gv_cell_num hk (Or.inl rfl)]
      exact fun Q _ _ K => va_iald hx hb hW.1 hW.2.1 q 0 he rfl (gv_in_some g1.2) ok (K H locs ls hW hS hL)
  | baload =>
    obtain ⟨i, r1, rfl, g⟩ := gv_pi_some h
    obtain ⟨q, r, rfl, g1⟩ := gv_pr_some g
    obtain ⟨g2, g3⟩ := gv_gd_some g1
    obtain rfl := gv_go_some g3
    simp only [Bool.and_eq_true] at g2
    have hk : (S.1.2.1 q).1 = 101 := Nat.eq_of_beq_eq_true g2.1
    have hq : q < S.1.1 := hW.lt hk (by omega)
    have he : (gv_pic fk ta base S)[q]? = some (base + q, .inl (ta 101, (S.1.2.1 q).2, .inl (S.2.1.1 q))) := by rw [gv_pic_at hq, gv_cell_num hk (Or.inr rfl)]
    exact fun Q _ _ K => va_bald hx hb hW.1 hW.2.1 q 1 he rfl (gv_in_some g2.2) ok (K H locs ls hW hS hL)
  | laload =>
    obtain ⟨i, r1, rfl, g⟩ := gv_pi_some h
    obtain ⟨q, r, rfl, g1⟩ := gv_pr_some g
    obtain ⟨g2, g3⟩ := gv_gd_some g1
    obtain rfl := gv_go_some g3
    simp only [Bool.and_eq_true] at g2
    have hk : (S.1.2.1 q).1 = 102 := Nat.eq_of_beq_eq_true g2.1
    have hq : q < S.1.1 := hW.lt hk (by omega)
    have he : (gv_pic fk ta base S)[q]? = some (base + q, .inl (ta 102, (S.1.2.1 q).2, .inr (.inl (S.2.1.2 q)))) := by rw [gv_pic_at hq, gv_cell_long hk]
    exact fun Q _ _ K => va_lald hx hb hW.1 hW.2.1 q 2 he rfl (gv_in_some g2.2) ok (K H locs ls hW hS hL)
  | aaload =>
    obtain ⟨i, r1, rfl, g⟩ := gv_pi_some h
    obtain ⟨q, r, rfl, g1⟩ := gv_pr_some g
    obtain ⟨g2, g3⟩ := gv_gd_some g1
    simp only [Bool.and_eq_true] at g2
    have hk : (S.1.2.1 q).1 = 103 := Nat.eq_of_beq_eq_true g2.1
    have hq : q < S.1.1 := hW.lt hk (by omega)
    have he : (gv_pic fk ta base S)[q]? = some (base + q, .inl (ta 103, (S.1.2.1 q).2, .inr (.inr (.inr (.inr (fun i => (S.1.2.2 q i).map fun t => base + t)))))) := by rw [gv_pic_at hq, gv_cell_refs hk]
    split at g3
    · rename_i t ht
      obtain rfl := gv_go_some g3
      exact fun Q _ _ K => va_aldq hx hb hW.1 hW.2.1 q 3 he rfl (gv_in_some g2.2) ok (by rw [ht]; exact (K H locs ls hW hS hL))
    · cases g3
  | iastore =>
    obtain ⟨x, r0, rfl, g0⟩ := gv_pi_some h
    obtain ⟨i, r1, rfl, g⟩ := gv_pi_some g0
    obtain ⟨q, r, rfl, g1⟩ := gv_pr_some g
    obtain ⟨g2, g3⟩ := gv_gd_some g1
    obtain rfl := gv_go_some g3
    simp only [Bool.and_eq_true] at g2
    have hk : (S.1.2.1 q).1 = 100 := Nat.eq_of_beq_eq_true g2.1
    have hq : q < S.1.1 := hW.lt hk (by omega)
    have he : (gv_pic fk ta base S)[q]? = some (base + q, .inl (ta 100, (S.1.2.1 q).2, .inl (S.2.1.1 q))) := by rw [gv_pic_at hq, gv_cell_num hk (Or.inl rfl)]
    exact fun Q _ _ K => va_iast hx hb hW.1 hW.2.1 gv_pic_D hS q 0 he rfl (gv_in_some g2.2) ok (fun H1 locs1 hP1 _ hS1 => K H1 locs1 ls (hW.set hP1 (by rw [gv_cell_num (S := gv_setI S q i.toNatClampNeg x) hk (Or.inl rfl)]; simp only [gv_setI, gu_eq]; rfl) gv_setI_o rfl rfl) hS1 hL)
  | bastore =>
    obtain ⟨x, r0, rfl, g0⟩ := gv_pi_some h
    obtain ⟨i, r1, rfl, g⟩ := gv_pi_some g0
    obtain ⟨q, r, rfl, g1⟩ := gv_pr_some g
    obtain ⟨g2, g3⟩ := gv_gd_some g1
    obtain rfl := gv_go_some g3
    simp only [Bool.and_eq_true] at g2
    have hk : (S.1.2.1 q).1 = 101 := Nat.eq_of_beq_eq_true g2.1
    have hq : q < S.1.1 := hW.lt hk (by omega)
    have he : (gv_pic fk ta base S)[q]? = some (base + q, .inl (ta 101, (S.1.2.1 q).2, .inl (S.2.1.1 q))) := by rw [gv_pic_at hq, gv_cell_num hk (Or.inr rfl)]
    exact fun Q _ _ K => va_bast hx hb hW.1 hW.2.1 gv_pic_D hS q 1 he rfl (gv_in_some g2.2) ok (fun H1 locs1 hP1 _ hS1 => K H1 locs1 ls (hW.set hP1 (by rw [gv_cell_num (S := gv_setI S q i.toNatClampNeg (vp_nar .byte x)) hk (Or.inr rfl)]; simp only [gv_setI, gu_eq]; rfl) gv_setI_o rfl rfl) hS1 hL)
  | lastore =>
    obtain ⟨x, r0, rfl, g0⟩ := gv_pl_some h
    obtain ⟨i, r1, rfl, g⟩ := gv_pi_some g0
    obtain ⟨q, r, rfl, g1⟩ := gv_pr_some g
    obtain ⟨g2, g3⟩ := gv_gd_some g1
    obtain rfl := gv_go_some g3
    simp only [Bool.and_eq_true] at g2
    have hk : (S.1.2.1 q).1 = 102 := Nat.eq_of_beq_eq_true g2.1
    have hq : q < S.1.1 := hW.lt hk (by omega)
    have he : (gv_pic fk ta base S)[q]? = some (base + q, .inl (ta 102, (S.1.2.1 q).2, .inr (.inl (S.2.1.2 q)))) := by rw [gv_pic_at hq, gv_cell_long hk]
    exact fun Q _ _ K => va_last hx hb hW.1 hW.2.1 gv_pic_D hS q 2 he rfl (gv_in_some g2.2) ok (fun H1 locs1 hP1 _ hS1 => K H1 locs1 ls (hW.set hP1 (by rw [gv_cell_long (S := gv_setJ S q i.toNatClampNeg x) hk]; simp only [gv_setJ, gu_eq]; rfl) gv_setJ_o rfl rfl) hS1 hL)
  | aastore =>
    obtain ⟨x, r0, rfl, g0⟩ := gv_pr_some h
    obtain ⟨i, r1, rfl, g⟩ := gv_pi_some g0
    obtain ⟨q, r, rfl, g1⟩ := gv_pr_some g
    obtain ⟨g2, g3⟩ := gv_gd_some g1
    obtain rfl := gv_go_some g3
    simp only [Bool.and_eq_true] at g2
    obtain ⟨hd, ha, ⟨Cn, T, N⟩, hc, hCn⟩ := ok
    dsimp only at hCn
    subst hCn
    have hkx : (S.1.2.1 x).1 = a := Nat.eq_of_beq_eq_true g2.2
    have hxq : x < S.1.1 := hW.lt hkx (by omega)
    have hex : (gv_pic fk ta base S)[x]? = some (base + x, .inr (a, gv_fs fk base S x a)) := by rw [gv_pic_at hxq, gv_cell_obj hkx ha]
    have hk : (S.1.2.1 q).1 = 103 := Nat.eq_of_beq_eq_true g2.1.1
    have hq : q < S.1.1 := hW.lt hk (by omega)
    have he : (gv_pic fk ta base S)[q]? = some (base + q, .inl (ta 103, (S.1.2.1 q).2, .inr (.inr (.inr (.inr (fun i => (S.1.2.2 q i).map fun t => base + t)))))) := by rw [gv_pic_at hq, gv_cell_refs hk]
    exact fun Q _ _ K => va_astq (r := ("GuestView$World", T, N)) hx hb hW.1 hW.2.1 gv_pic_D hS q 3 x a he rfl hex hc (gv_in_some g2.1.2) hd (fun H1 locs1 hP1 _ hS1 => K H1 locs1 ls (hW.set hP1 (by rw [gv_cell_refs (S := gv_setP S q i.toNatClampNeg (some x)) hk]; simp only [gv_setP, gu_eq]; congr 7; funext j; unfold va_up; by_cases hj : j = i.toNatClampNeg <;> simp [hj]) gv_setP_o rfl rfl) hS1 hL)
  | arraylength =>
    match st, h with
    | .retAddr 0 :: r, h =>
      obtain rfl := gv_go_some h
      exact fun Q _ _ K => va_slen hx hb hX hbl hbA hS ok (K H locs ls hW hS hL)
    | .ref q :: r, h =>
      obtain ⟨g1, g2⟩ := gv_gd_some h
      obtain rfl := gv_go_some g2
      simp only [Bool.and_eq_true] at g1
      have h1 := Nat.le_of_ble_eq_true g1.1
      have h2 := Nat.le_of_ble_eq_true g1.2
      have hq : q < S.1.1 := hW.lt (k := (S.1.2.1 q).1) rfl (by omega)
      have hat := gv_pic_at (fk := fk) (ta := ta) (base := base) hq
      rcases (show (S.1.2.1 q).1 = 100 ∨ (S.1.2.1 q).1 = 101 ∨ (S.1.2.1 q).1 = 102 ∨ (S.1.2.1 q).1 = 103 by omega) with hk | hk | hk | hk
      · rw [gv_cell_num hk (Or.inl rfl)] at hat
        exact fun Q _ _ K => va_alen hx hb hW.1 hW.2.1 q 0 hat (ty := .int) rfl rfl ok (K H locs ls hW hS hL)
      · rw [gv_cell_num hk (Or.inr rfl)] at hat
        exact fun Q _ _ K => va_alen hx hb hW.1 hW.2.1 q 1 hat (ty := .byte) rfl rfl ok (K H locs ls hW hS hL)
      · rw [gv_cell_long hk] at hat
        exact fun Q _ _ K => va_alen hx hb hW.1 hW.2.1 q 2 hat (ty := .long) rfl rfl ok (K H locs ls hW hS hL)
      · rw [gv_cell_refs hk] at hat
        exact fun Q _ _ K => va_alen hx hb hW.1 hW.2.1 q 3 hat (ty := .object "GuestView$World") rfl rfl ok (K H locs ls hW hS hL)
  | _ => exact hi.elim
set_option maxHeartbeats 4000000 in
set_option maxRecDepth 100000 in
/-- constants -/
theorem gv_step_ldc (C : gv_Cx p s m args meth c M Ts) {pc : Nat} (ok : gv_okE cl fk tf P Ts M pc) {H : Heap} {locs : List Loc} {c0 s0 : Nat} {ls : Array Slot} {lo : gv_L} {st : List Value} {S : gv_S} (hW : gv_Wd fk cl D ta base S s H) (hS : va_S (fun q : Nat => base ≤ q) s.heap H locs) (hL : gv_Lo base ex ls M.2.2.1 lo) {act : gv_A} (h : gv_step fk tx X M pc lo st S = some act) (hstr : ∀ i a b k, M.2.2.2.2.2 pc = (.ldc i, a, b, k) → ¬ b = 0 → ∃ text, vk_R (gv_own M) i text (ex (a + 1)) s) (hstrW : ∀ i a b k, M.2.2.2.2.2 pc = (.ldc_w i, a, b, k) → ¬ b = 0 → ∃ text, vk_R (gv_own M) i text (ex (a + 1)) s)
    (hi : ∀ i a b k, M.2.2.2.2.2 pc = (i, a, b, k) → match i with
      | .ldc _ | .ldc_w _ | .ldc2_w _ => True
      | _ => False) :
    gv_rule p l e R s m args below meth c fk cl D ta base ex P H locs c0 s0 ls M.2.2.1 lo S (F0 m pc ls (st.map (gv_cv base ex))) act := by
  obtain ⟨hx, hb, hml, hown, hts, hr, hlocks, hnm⟩ := C
  unfold gv_step at h
  unfold gv_okE at ok
  rcases hE : M.2.2.2.2.2 pc with ⟨i, a, b, k⟩
  have hi := hi i a b k hE
  rw [hE] at h ok
  cases i with
  | ldc n =>
    dsimp only at h ok
    split at h
    · obtain rfl := gv_go_some h
      exact fun Q _ _ K => lv_ldc hx hb hown (hts _ (ok.2 rfl)) ok.1 (K H locs ls hW hS hL)
    · rename_i hb0
      obtain rfl := gv_go_some h
      obtain ⟨txt, hR⟩ := hstr n a b k hE hb0
      exact fun Q _ _ K => va_ldcS hx hb hown hR ok.1 (K H locs ls hW hS hL)
  | ldc_w n =>
    dsimp only at h ok
    split at h
    · obtain rfl := gv_go_some h
      exact fun Q _ _ K => lv_ldcw hx hb hown (hts _ (ok.2 rfl)) ok.1 (K H locs ls hW hS hL)
    · rename_i hb0
      obtain rfl := gv_go_some h
      obtain ⟨txt, hR⟩ := hstrW n a b k hE hb0
      exact fun Q _ _ K => gv_ldcSW hx hb hown hR ok.1 (K H locs ls hW hS hL)
  | ldc2_w n =>
    obtain rfl := gv_go_some h
    exact fun Q _ _ K => lv_ldc2 hx hb hown (hts _ ok.2) ok.1 (K H locs ls hW hS hL)
  | _ => exact hi.elim
end Step
