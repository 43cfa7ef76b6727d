/-! a program that looks whether a method may be walked -/
theorem gv_inT1 : ∀ w ∈ gv_T1, w ∈ gv_Ts := fun w h => List.mem_append_left _ h
theorem gv_inT2 : ∀ w ∈ gv_T2, w ∈ gv_Ts := fun w h => List.mem_append_right _ (List.mem_append_left _ h)
theorem gv_inT3 : ∀ w ∈ gv_T3, w ∈ gv_Ts := fun w h => List.mem_append_right _ (List.mem_append_right _ (List.mem_append_left _ h))
theorem gv_inT4 : ∀ w ∈ gv_T4, w ∈ gv_Ts := fun w h => List.mem_append_right _ (List.mem_append_right _ (List.mem_append_right _ (List.mem_append_left _ h)))
theorem gv_inT5 : ∀ w ∈ gv_T5, w ∈ gv_Ts := fun w h => List.mem_append_right _ (List.mem_append_right _ (List.mem_append_right _ (List.mem_append_right _ (List.mem_append_left _ h))))
theorem gv_inT6 : ∀ w ∈ gv_T6, w ∈ gv_Ts := fun w h => List.mem_append_right _ (List.mem_append_right _ (List.mem_append_right _ (List.mem_append_right _ (List.mem_append_right _ (List.mem_append_left _ h)))))
theorem gv_inT7 : ∀ w ∈ gv_T7, w ∈ gv_Ts := fun w h => List.mem_append_right _ (List.mem_append_right _ (List.mem_append_right _ (List.mem_append_right _ (List.mem_append_right _ (List.mem_append_right _ (List.mem_append_left _ h))))))
theorem gv_inT8 : ∀ w ∈ gv_T8, w ∈ gv_Ts := fun w h => List.mem_append_right _ (List.mem_append_right _ (List.mem_append_right _ (List.mem_append_right _ (List.mem_append_right _ (List.mem_append_right _ (List.mem_append_right _ (List.mem_append_left _ h)))))))
theorem gv_inT9 : ∀ w ∈ gv_T9, w ∈ gv_Ts := fun w h => List.mem_append_right _ (List.mem_append_right _ (List.mem_append_right _ (List.mem_append_right _ (List.mem_append_right _ (List.mem_append_right _ (List.mem_append_right _ (List.mem_append_right _ (List.mem_append_left _ h))))))))
theorem gv_inT10 : ∀ w ∈ gv_T10, w ∈ gv_Ts := fun w h => List.mem_append_right _ (List.mem_append_right _ (List.mem_append_right _ (List.mem_append_right _ (List.mem_append_right _ (List.mem_append_right _ (List.mem_append_right _ (List.mem_append_right _ (List.mem_append_right _ (List.mem_append_left _ h)))))))))
theorem gv_inT11 : ∀ w ∈ gv_T11, w ∈ gv_Ts := fun w h => List.mem_append_right _ (List.mem_append_right _ (List.mem_append_right _ (List.mem_append_right _ (List.mem_append_right _ (List.mem_append_right _ (List.mem_append_right _ (List.mem_append_right _ (List.mem_append_right _ (List.mem_append_right _ (List.mem_append_left _ h))))))))))
theorem gv_inT12 : ∀ w ∈ gv_T12, w ∈ gv_Ts := fun w h => List.mem_append_right _ (List.mem_append_right _ (List.mem_append_right _ (List.mem_append_right _ (List.mem_append_right _ (List.mem_append_right _ (List.mem_append_right _ (List.mem_append_right _ (List.mem_append_right _ (List.mem_append_right _ (List.mem_append_right _ (List.mem_append_left _ h)))))))))))
theorem gv_inT13 : ∀ w ∈ gv_T13, w ∈ gv_Ts := fun w h => List.mem_append_right _ (List.mem_append_right _ (List.mem_append_right _ (List.mem_append_right _ (List.mem_append_right _ (List.mem_append_right _ (List.mem_append_right _ (List.mem_append_right _ (List.mem_append_right _ (List.mem_append_right _ (List.mem_append_right _ (List.mem_append_right _ (List.mem_append_left _ h))))))))))))
theorem gv_inT14 : ∀ w ∈ gv_T14, w ∈ gv_Ts := fun w h => List.mem_append_right _ (List.mem_append_right _ (List.mem_append_right _ (List.mem_append_right _ (List.mem_append_right _ (List.mem_append_right _ (List.mem_append_right _ (List.mem_append_right _ (List.mem_append_right _ (List.mem_append_right _ (List.mem_append_right _ (List.mem_append_right _ (List.mem_append_right _ (List.mem_append_left _ h)))))))))))))
theorem gv_inT15 : ∀ w ∈ gv_T15, w ∈ gv_Ts := fun w h => List.mem_append_right _ (List.mem_append_right _ (List.mem_append_right _ (List.mem_append_right _ (List.mem_append_right _ (List.mem_append_right _ (List.mem_append_right _ (List.mem_append_right _ (List.mem_append_right _ (List.mem_append_right _ (List.mem_append_right _ (List.mem_append_right _ (List.mem_append_right _ (List.mem_append_right _ (List.mem_append_left _ h))))))))))))))
theorem gv_inT16 : ∀ w ∈ gv_T16, w ∈ gv_Ts := fun w h => List.mem_append_right _ (List.mem_append_right _ (List.mem_append_right _ (List.mem_append_right _ (List.mem_append_right _ (List.mem_append_right _ (List.mem_append_right _ (List.mem_append_right _ (List.mem_append_right _ (List.mem_append_right _ (List.mem_append_right _ (List.mem_append_right _ (List.mem_append_right _ (List.mem_append_right _ (List.mem_append_right _ (h)))))))))))))))
theorem gv_cl_at : ∀ a, a < 13 → gv_cl[a]? = some (gv_cr a)
  | 0, _ => rfl
  | 1, _ => rfl
  | 2, _ => rfl
  | 3, _ => rfl
  | 4, _ => rfl
  | 5, _ => rfl
  | 6, _ => rfl
  | 7, _ => rfl
  | 8, _ => rfl
  | 9, _ => rfl
  | 10, _ => rfl
  | 11, _ => rfl
  | 12, _ => rfl
  | a + 13, h => absurd h (by omega)
theorem gv_cl_ty : ∀ a, a < 13 → ∀ k, k < (gv_cr a).2.2 → parseFieldDescriptor ((gv_cr a).2.1 k).2.2.1 = some (gv_tfT a k)
  | 0, _ => tyX0_ok
  | 1, _ => tyX1_ok
  | 2, _ => tyX2_ok
  | 3, _ => tyX3_ok
  | 4, _ => tyX4_ok
  | 5, _ => tyX5_ok
  | 6, _ => tyX6_ok
  | 7, _ => tyX7_ok
  | 8, _ => tyX8_ok
  | 9, _ => tyX9_ok
  | 10, _ => tyX10_ok
  | 11, _ => tyX11_ok
  | 12, _ => tyX12_ok
  | a + 13, h => absurd h (by omega)
theorem gv_cl_nm : ∀ a, a < 13 → ∀ x, x < (gv_cr a).2.2 → ∀ y, y < (gv_cr a).2.2 → x ≠ y → ((gv_cr a).2.1 x).2.1 ≠ ((gv_cr a).2.1 y).2.1
  | 0, _ => nmX0
  | 1, _ => nmX1
  | 2, _ => nmX2
  | 3, _ => nmX3
  | 4, _ => nmX4
  | 5, _ => nmX5
  | 6, _ => nmX6
  | 7, _ => nmX7
  | 8, _ => nmX8
  | 9, _ => nmX9
  | 10, _ => nmX10
  | 11, _ => nmX11
  | 12, _ => nmX12
  | a + 13, h => absurd h (by omega)
theorem gv_fk_len : ∀ a, a < 13 → (gv_fkT.getD a []).length = (gv_cr a).2.2 := by decide +kernel
theorem gv_fk_ty : ∀ a, a < 13 → ∀ k, k < (gv_cr a).2.2 → (gv_fk gv_fkT a k = 0 → gv_tfT a k = .int) ∧ (gv_fk gv_fkT a k = 1 → gv_tfT a k = .boolean) ∧ (gv_fk gv_fkT a k = 2 → refKind (gv_tfT a k) = true) ∧ defaultValue (gv_tfT a k) = if gv_fk gv_fkT a k = 2 then .null else .int 0 := by decide +kernel
theorem gv_cl_ws {a : Nat} (h : a < 13) : ∀ w ∈ u_ws (gv_cr a).1 (gv_cr a).2.1 (gv_cr a).2.2, w ∈ gv_Ts := fun w hw => gv_inT2 w (List.mem_flatMap.mpr ⟨gv_cr a, List.mem_of_getElem? (gv_cl_at a h), hw⟩)
theorem gv_ft_all : gv_ftT.all (fun x => Nat.blt x.2.2.1 13 && Nat.blt x.2.2.2 (gv_cr x.2.2.1).2.2) = true := by decide +kernel
theorem gv_ct_all : gv_ctT.all (fun x => Nat.blt x.2.2 13 && gv_iniT.contains (gv_cr x.2.2).1) = true := by decide +kernel
theorem gv_ref_ty {t : FieldType} (h : refKind t = true) : (∃ C, t = .object C) ∨ ∃ z, t = .array z := by
  cases t <;> first | exact Or.inl ⟨_, rfl⟩ | exact Or.inr ⟨_, rfl⟩ | cases h
/-- what a call's table says -/
def gv_cok (k n : Nat) : Bool := gv_iniT.contains (gv_meth k).1.cls && decide ((gv_meth k).1.cls ≠ "java/lang/invoke/MethodHandle") && decide ((gv_meth k).1.cls ≠ "java/lang/invoke/VarHandle") && decide ((parseMethodDescriptor (gv_meth k).1.desc).map (fun d => d.parameters.length) = some n)
theorem gv_cok_ok {k n : Nat} (h : gv_cok k n = true) : gv_okC gv_Ts (gv_meth k).1 n := by
  simp only [gv_cok, Bool.and_eq_true, decide_eq_true_eq] at h
  exact ⟨gv_inT9 _ (List.mem_map.mpr ⟨_, List.contains_iff_mem.mp h.1.1.1, rfl⟩), ⟨h.1.1.2, h.1.2⟩, h.2⟩
def gv_chk (o : Nat) (M : gv_Mt) (pc : Nat) : Bool :=
  match M.2.2.2.2.2 pc with
  | (.nop, _, _, _) => true
  | (.iconst n, _, _, c) => decide (decode M.2.1 pc = .ok (.iconst n, 1)) && decide (Int32.ofInt n = c)
  | (.bipush n, _, _, c) => decide (decode M.2.1 pc = .ok (.bipush n, 2)) && decide ((Int8.ofInt n).toInt32 = c)
  | (.sipush n, _, _, c) => decide (decode M.2.1 pc = .ok (.sipush n, 3)) && decide ((Int16.ofInt n).toInt32 = c)
  | (.lconst n, _, _, _) => decide (decode M.2.1 pc = .ok (.lconst n, 1))
  | (.ldc i, a, b, c) => decide (decode M.2.1 pc = .ok (.ldc i, 2)) && (match b with
    | 0 => gv_coT.contains (o, i, c)
    | _ => gv_stT.contains (o, i, a))
  | (.ldc_w i, a, b, c) => decide (decode M.2.1 pc = .ok (.ldc_w i, 3)) && (match b with
    | 0 => gv_coT.contains (o, i, c)
    | _ => gv_stT.contains (o, i, a))
  | (.ldc2_w i, a, _, _) => decide (decode M.2.1 pc = .ok (.ldc2_w i, 3)) && gv_loT.contains (o, i, a)
  | (.iload_n k, _, _, _) => decide (decode M.2.1 pc = .ok (.iload_n k, 1))
  | (.lload_n k, _, _, _) => decide (decode M.2.1 pc = .ok (.lload_n k, 1))
  | (.aload_n k, _, _, _) => decide (decode M.2.1 pc = .ok (.aload_n k, 1))
  | (.istore_n k, _, _, _) => decide (decode M.2.1 pc = .ok (.istore_n k, 1))
  | (.lstore_n k, _, _, _) => decide (decode M.2.1 pc = .ok (.lstore_n k, 1))
  | (.astore_n k, _, _, _) => decide (decode M.2.1 pc = .ok (.astore_n k, 1))
  | (.iload k, _, _, _) => decide (decode M.2.1 pc = .ok (.iload k, 2))
  | (.lload k, _, _, _) => decide (decode M.2.1 pc = .ok (.lload k, 2))
  | (.aload k, _, _, _) => decide (decode M.2.1 pc = .ok (.aload k, 2))
  | (.istore k, _, _, _) => decide (decode M.2.1 pc = .ok (.istore k, 2))
  | (.lstore k, _, _, _) => decide (decode M.2.1 pc = .ok (.lstore k, 2))
  | (.astore k, _, _, _) => decide (decode M.2.1 pc = .ok (.astore k, 2))
  | (.iinc k n, _, _, c) => decide (decode M.2.1 pc = .ok (.iinc k n, 3)) && decide (Int32.ofInt n = c)
  | (.goto x, a, _, _) => decide (decode M.2.1 pc = .ok (.goto x, 3)) && decide ((pc : Int) + x = (a : Int))
  | (.ifCond k x, a, _, _) => decide (decode M.2.1 pc = .ok (.ifCond k x, 3)) && decide ((pc : Int) + x = (a : Int))
  | (.if_icmp k x, a, _, _) => decide (decode M.2.1 pc = .ok (.if_icmp k x, 3)) && decide ((pc : Int) + x = (a : Int))
  | (.tableswitch d l h os, a, _, _) => decide (decode M.2.1 pc = .ok (.tableswitch d l h os, a))
  | (.lookupswitch d ps, a, _, _) => decide (decode M.2.1 pc = .ok (.lookupswitch d ps, a)) && (ps.toList.zip (ps.toList.drop 1)).all (fun (x, y) => x.1 < y.1)
  | (.getfield i, a, b, _) => decide (decode M.2.1 pc = .ok (.getfield i, 3)) && gv_ftT.contains (o, i, a, b)
  | (.putfield i, a, b, _) => decide (decode M.2.1 pc = .ok (.putfield i, 3)) && gv_ftT.contains (o, i, a, b) && (!((gv_cr a).2.1 b).2.2.2 || (decide (M.1.name = "<init>") && decide (((gv_cr a).2.1 b).1 = M.1.cls)))
  | (.new i, a, b, _) => (match Nat.blt a 50 with
    | true => decide (decode M.2.1 pc = .ok (.new i, 3)) && gv_ctT.contains (o, i, a) && Nat.beq b (gv_cr a).2.2
    | false => Nat.ble 300 a && M.2.2.2.2.1.isEmpty && decide (decode M.2.1 pc = .ok (.new i, 3)) && decide (decode M.2.1 (pc + 3) = .ok (.dup, 1)) && gv_thT.any (fun x => Nat.beq x.1 o && Nat.beq x.2.1 i && Nat.beq x.2.2.2.2.1 (a - 300) && ((decide (decode M.2.1 (pc + 4) = .ok (.ldc x.2.2.1, 2)) && decide (decode M.2.1 (pc + 6) = .ok (.invokespecial x.2.2.2.1, 3)) && decide (decode M.2.1 (pc + 9) = .ok (.athrow, 1))) || (decide (decode M.2.1 (pc + 4) = .ok (.ldc_w x.2.2.1, 3)) && decide (decode M.2.1 (pc + 7) = .ok (.invokespecial x.2.2.2.1, 3)) && decide (decode M.2.1 (pc + 10) = .ok (.athrow, 1))))))
  | (.newarray t, a, _, _) => decide (decode M.2.1 pc = .ok (.newarray t, 2)) && ((decide (t = .int) && Nat.beq a 100) || ((decide (t = .byte) && Nat.beq a 101) || (decide (t = .long) && Nat.beq a 102)))
  | (.anewarray i, a, _, _) => decide (decode M.2.1 pc = .ok (.anewarray i, 3)) && Nat.beq a 103 && gv_acT.contains (o, i)
  | (.aastore, a, _, _) => decide (decode M.2.1 pc = .ok (.aastore, 1)) && Nat.beq a 10
  | (.invokevirtual i, a, b, _) => decide (decode M.2.1 pc = .ok (.invokevirtual i, 3)) && (match Nat.blt a 990000 with
    | true => Nat.blt (b % 100) 13 && decide ((gv_cr (b % 100)).1 = (gv_meth a).1.cls) && gv_cok a (b / 100) && gv_mtT.contains (o, i, a) && gv_imT.contains a && gv_vsT.contains a && (gv_meth a).2.2.2.2.1.isEmpty
    | false => gv_slT.contains (o, i, a))
  | (.invokespecial i, a, b, _) => decide (decode M.2.1 pc = .ok (.invokespecial i, 3)) && (match Nat.blt a 990000 with
    | true => gv_cok a b && gv_imT.contains a && decide ((gv_meth a).1.name = "<init>") && decide ((gv_meth a).2.2.2.1 = none) && (gv_meth a).2.2.2.2.1.isEmpty && (gv_mtT.contains (o, i, a) || gv_ntT.any (fun x => Nat.beq x.1 o && Nat.beq x.2.1 i && Nat.beq x.2.2.1 a))
    | false => gv_oiT.contains (o, i))
  | (.invokestatic i, a, b, _) => decide (decode M.2.1 pc = .ok (.invokestatic i, 3)) && (match Nat.blt a 990000 with
    | true => gv_cok a b && gv_mtT.contains (o, i, a) && gv_smT.contains a
    | false => gv_naT.contains (o, i))
  | (.lreturn, _, _, _) => decide (decode M.2.1 pc = .ok (.lreturn, 1)) && decide (M.2.2.2.1 = some .long)
  | (.return_, _, _, _) => decide (decode M.2.1 pc = .ok (.return_, 1)) && decide (M.2.2.2.1 = none)
  | (i, _, _, _) => decide (decode M.2.1 pc = .ok (i, 1))
def gv_chkM (o n : Nat) (M : gv_Mt) : Bool := decide (gv_on o = M.1.cls) && plainFor M.1 && Nat.ble M.2.2.1 41 && M.2.2.2.2.1.all (fun r => gv_hnT.contains (o, r.2.2.2.1, r.2.2.2.2)) && (List.range n).all (gv_chk o M)
set_option maxHeartbeats 4000000 in
set_option maxRecDepth 100000 in
theorem gv_chk_okE {o : Nat} {M : gv_Mt} {pc : Nat} (hown : gv_on o = gv_own M) (h : gv_chk o M pc = true) : gv_okE gv_cl gv_fkT gv_tfT gv_meth gv_Ts M pc := by
  unfold gv_chk at h
  unfold gv_okE
  rcases hE : M.2.2.2.2.2 pc with ⟨i, a, b, k⟩
  rw [hE] at h
  cases i with
  | nop =>
    exact trivial
  | iconst n =>
    simp only [Bool.and_eq_true, decide_eq_true_eq] at h
    exact h
  | bipush n =>
    simp only [Bool.and_eq_true, decide_eq_true_eq] at h
    exact h
  | sipush n =>
    simp only [Bool.and_eq_true, decide_eq_true_eq] at h
    exact h
  | iinc j n =>
    simp only [Bool.and_eq_true, decide_eq_true_eq] at h
    exact h
  | goto x =>
    simp only [Bool.and_eq_true, decide_eq_true_eq] at h
    exact h
  | ifCond c x =>
    simp only [Bool.and_eq_true, decide_eq_true_eq] at h
    exact h
  | if_icmp c x =>
    simp only [Bool.and_eq_true, decide_eq_true_eq] at h
    exact h
  | lconst j =>
    exact of_decide_eq_true h
  | iload_n j =>
    exact of_decide_eq_true h
  | lload_n j =>
    exact of_decide_eq_true h
  | aload_n j =>
    exact of_decide_eq_true h
  | istore_n j =>
    exact of_decide_eq_true h
  | lstore_n j =>
    exact of_decide_eq_true h
  | astore_n j =>
    exact of_decide_eq_true h
  | iload j =>
    exact of_decide_eq_true h
  | lload j =>
    exact of_decide_eq_true h
  | aload j =>
    exact of_decide_eq_true h
  | istore j =>
    exact of_decide_eq_true h
  | lstore j =>
    exact of_decide_eq_true h
  | astore j =>
    exact of_decide_eq_true h
  | tableswitch d l2 h2 os =>
    exact of_decide_eq_true h
  | lookupswitch d ps =>
    simp only [Bool.and_eq_true, decide_eq_true_eq] at h
    exact h
  | ldc j =>
    dsimp only at h ⊢
    simp only [Bool.and_eq_true, decide_eq_true_eq] at h
    refine ⟨h.1, fun hb => ?_⟩
    subst hb
    rw [← hown]
    exact gv_inT12 _ (List.mem_map.mpr ⟨_, List.contains_iff_mem.mp h.2, rfl⟩)
  | ldc_w j =>
    dsimp only at h ⊢
    simp only [Bool.and_eq_true, decide_eq_true_eq] at h
    refine ⟨h.1, fun hb => ?_⟩
    subst hb
    rw [← hown]
    exact gv_inT12 _ (List.mem_map.mpr ⟨_, List.contains_iff_mem.mp h.2, rfl⟩)
  | ldc2_w j =>
    dsimp only at h ⊢
    simp only [Bool.and_eq_true, decide_eq_true_eq] at h
    rw [← hown]
    exact ⟨h.1, gv_inT13 _ (List.mem_map.mpr ⟨_, List.contains_iff_mem.mp h.2, rfl⟩)⟩
  | getfield j =>
    dsimp only at h ⊢
    simp only [Bool.and_eq_true, decide_eq_true_eq] at h
    have hm := List.contains_iff_mem.mp h.2
    have hf := List.all_eq_true.mp gv_ft_all _ hm
    simp only [Bool.and_eq_true] at hf
    have ha : a < 13 := Nat.le_of_ble_eq_true hf.1
    have hb2 := Nat.le_of_ble_eq_true hf.2
    rw [← hown]
    exact ⟨h.1, by omega, gv_cr a, gv_cl_at a ha, hb2, gv_fk_len a ha, gv_inT1 _ (List.mem_map.mpr ⟨_, hm, rfl⟩), gv_cl_ws ha⟩
  | putfield j =>
    dsimp only at h ⊢
    simp only [Bool.and_eq_true, decide_eq_true_eq, Bool.or_eq_true, Bool.not_eq_true'] at h
    have hm := List.contains_iff_mem.mp h.1.2
    have hf := List.all_eq_true.mp gv_ft_all _ hm
    simp only [Bool.and_eq_true] at hf
    have ha : a < 13 := Nat.le_of_ble_eq_true hf.1
    have hb2 : b < (gv_cr a).2.2 := Nat.le_of_ble_eq_true hf.2
    obtain ⟨t0, t1, t2, -⟩ := gv_fk_ty a ha b hb2
    refine ⟨h.1.1, by omega, gv_cr a, gv_cl_at a ha, hb2, gv_fk_len a ha, by rw [← hown]; exact gv_inT1 _ (List.mem_map.mpr ⟨_, hm, rfl⟩), gv_cl_ws ha, gv_cl_ty a ha, gv_cl_nm a ha, fun hfin => ?_, t0, t1, fun z => gv_ref_ty (t2 z)⟩
    rcases h.2 with h2 | h2
    · rw [h2] at hfin; cases hfin
    · exact h2
  | new j =>
    dsimp only at h ⊢
    intro ha50
    rw [show Nat.blt a 50 = true from Nat.ble_eq_true_of_le ha50] at h
    simp only [Bool.and_eq_true, decide_eq_true_eq] at h
    have hm := List.contains_iff_mem.mp h.1.2
    have hf := List.all_eq_true.mp gv_ct_all _ hm
    simp only [Bool.and_eq_true] at hf
    have ha : a < 13 := Nat.le_of_ble_eq_true hf.1
    refine ⟨h.1.1, gv_cr a, gv_cl_at a ha, Nat.eq_of_beq_eq_true h.2, gv_fk_len a ha, gv_cl_ws ha, gv_cl_ty a ha, ?_, ?_, gv_inT9 _ (List.mem_map.mpr ⟨_, List.contains_iff_mem.mp hf.2, rfl⟩), fun k hk => (gv_fk_ty a ha k hk).2.2.2⟩
    · rw [← hown]
      exact gv_inT10 _ (List.mem_flatMap.mpr ⟨_, hm, List.mem_cons_self⟩)
    · exact gv_inT10 _ (List.mem_flatMap.mpr ⟨_, hm, List.mem_cons_of_mem _ List.mem_cons_self⟩)
  | newarray t =>
    dsimp only at h ⊢
    simp only [Bool.and_eq_true, decide_eq_true_eq, Bool.or_eq_true] at h
    obtain ⟨h1, h2⟩ := h
    rcases h2 with ⟨rfl, h2⟩ | ⟨rfl, h2⟩ | ⟨rfl, h2⟩
    · exact ⟨h1, gv_inT16 (.arrayClass .int) (by decide +kernel), Or.inl ⟨rfl, Nat.eq_of_beq_eq_true h2⟩⟩
    · exact ⟨h1, gv_inT16 (.arrayClass .byte) (by decide +kernel), Or.inr (Or.inl ⟨rfl, Nat.eq_of_beq_eq_true h2⟩)⟩
    · exact ⟨h1, gv_inT16 (.arrayClass .long) (by decide +kernel), Or.inr (Or.inr ⟨rfl, Nat.eq_of_beq_eq_true h2⟩)⟩
  | anewarray j =>
    dsimp only at h ⊢
    simp only [Bool.and_eq_true, decide_eq_true_eq] at h
    rw [← hown]
    exact ⟨h.1.1, Nat.eq_of_beq_eq_true h.1.2, gv_inT11 _ (List.mem_map.mpr ⟨_, List.contains_iff_mem.mp h.2, rfl⟩)⟩
  | aastore =>
    dsimp only at h ⊢
    simp only [Bool.and_eq_true, decide_eq_true_eq] at h
    have ha : a = 10 := Nat.eq_of_beq_eq_true h.2
    subst ha
    exact ⟨h.1, by omega, gv_cr 10, rfl, rfl⟩
  | invokevirtual j =>
    dsimp only at h ⊢
    simp only [Bool.and_eq_true, decide_eq_true_eq] at h
    refine ⟨h.1, fun ha => ?_⟩
    have h2 := h.2
    rw [show Nat.blt a 990000 = true from Nat.ble_eq_true_of_le ha] at h2
    simp only [Bool.and_eq_true, decide_eq_true_eq] at h2
    obtain ⟨⟨⟨⟨⟨⟨e1, e2⟩, e3⟩, e4⟩, e5⟩, e6⟩, e7⟩ := h2
    have hc : b % 100 < 13 := Nat.le_of_ble_eq_true e1
    refine ⟨by omega, ⟨gv_cr (b % 100), gv_cl_at _ hc, e2⟩, gv_cok_ok e3, ?_, gv_inT5 _ (List.mem_map.mpr ⟨_, List.contains_iff_mem.mp e5, rfl⟩), gv_inT4 _ (List.mem_map.mpr ⟨_, List.contains_iff_mem.mp e6, rfl⟩), List.isEmpty_iff.mp e7⟩
    rw [← hown]
    exact gv_inT3 _ (List.mem_map.mpr ⟨_, List.contains_iff_mem.mp e4, rfl⟩)
  | invokespecial j =>
    dsimp only at h ⊢
    simp only [Bool.and_eq_true, decide_eq_true_eq] at h
    refine ⟨h.1, fun ha => ?_, fun ha => ?_⟩
    · have h2 := h.2
      rw [show Nat.blt a 990000 = false from by cases hq : Nat.blt a 990000; rfl; exact absurd (Nat.le_of_ble_eq_true hq) (by omega)] at h2
      dsimp only at h2
      rw [← hown]
      exact ⟨gv_inT14 _ (List.mem_map.mpr ⟨_, List.contains_iff_mem.mp h2, rfl⟩), gv_inT16 _ (List.mem_append_left _ (List.mem_append_left _ List.mem_cons_self)), gv_inT16 _ (List.mem_append_left _ (List.mem_append_left _ (List.mem_cons_of_mem _ List.mem_cons_self)))⟩
    · have h2 := h.2
      rw [show Nat.blt a 990000 = true from Nat.ble_eq_true_of_le ha] at h2
      simp only [Bool.and_eq_true, decide_eq_true_eq] at h2
      obtain ⟨⟨⟨⟨⟨e1, e2⟩, e3⟩, e4⟩, e5⟩, e6⟩ := h2
      exact ⟨gv_cok_ok e1, gv_inT5 _ (List.mem_map.mpr ⟨_, List.contains_iff_mem.mp e2, rfl⟩), e3, e4, List.isEmpty_iff.mp e5⟩
  | invokestatic j =>
    dsimp only at h ⊢
    simp only [Bool.and_eq_true, decide_eq_true_eq] at h
    refine ⟨h.1, fun ha => ?_, fun ha => ?_⟩
    · have h2 := h.2
      rw [show Nat.blt a 990000 = false from by cases hq : Nat.blt a 990000; rfl; exact absurd (Nat.le_of_ble_eq_true hq) (by omega)] at h2
      dsimp only at h2
      rw [← hown]
      exact ⟨gv_inT15 _ (List.mem_map.mpr ⟨_, List.contains_iff_mem.mp h2, rfl⟩), gv_inT16 (.native arraycopyName) (by simp [gv_T16]), gv_inT16 (.static arraycopyName) (by simp [gv_T16]), gv_inT9 _ (List.mem_map.mpr ⟨_, (by decide +kernel : "java/lang/System" ∈ gv_iniT), rfl⟩)⟩
    · have h2 := h.2
      rw [show Nat.blt a 990000 = true from Nat.ble_eq_true_of_le ha] at h2
      simp only [Bool.and_eq_true] at h2
      rw [← hown]
      exact ⟨gv_cok_ok h2.1.1, gv_inT3 _ (List.mem_map.mpr ⟨_, List.contains_iff_mem.mp h2.1.2, rfl⟩), gv_inT6 _ (List.mem_map.mpr ⟨_, List.contains_iff_mem.mp h2.2, rfl⟩)⟩
  | lreturn =>
    simp only [Bool.and_eq_true, decide_eq_true_eq] at h
    exact h.1
  | return_ =>
    simp only [Bool.and_eq_true, decide_eq_true_eq] at h
    exact h.1
  | _ => exact of_decide_eq_true h
/-- a method that the program has looked through -/
theorem gv_chkM_ok {o n : Nat} {M : gv_Mt} {f : Nat → gv_RI} (hM : M.2.2.2.2.2 = gv_tab n f) (h : gv_chkM o n M = true) : gv_okL gv_cl gv_fkT gv_tfT gv_meth gv_Ts gv_nests gv_strs gv_thrs gv_hnds M := by
  simp only [gv_chkM, Bool.and_eq_true, decide_eq_true_eq] at h
  obtain ⟨⟨⟨⟨hown, hpl⟩, hml⟩, hhn⟩, hall⟩ := h
  have all : ∀ pc, M.2.2.2.2.2 pc = gv_nop ∨ gv_chk o M pc = true := by
    intro pc
    by_cases hp : pc < n
    · exact Or.inr (List.all_eq_true.mp hall pc (List.mem_range.mpr hp))
    · refine Or.inl ?_
      rw [hM]
      unfold gv_tab
      rw [show Nat.blt pc n = false from by cases hq : Nat.blt pc n; rfl; exact absurd (Nat.le_of_ble_eq_true hq) hp]
      rfl
  refine ⟨fun pc => ?_, fun pc a b k hz => ?_, fun pc a b k hz => ?_, fun pc i a b k hz ha => ?_, fun pc i a b k hz ha => ?_, fun pc i a b k hz hb => ?_, hpl, Nat.le_of_ble_eq_true hml, fun pc i a b k hz ha => ?_, fun r hr => ?_, fun pc i a b k hz ha => ?_⟩
  · rcases all pc with hn | hc
    · unfold gv_okE
      rw [hn]
      exact trivial
    · exact gv_chk_okE hown hc
  · rcases all pc with hn | hc
    · rw [hz] at hn; cases hn
    · unfold gv_chk at hc
      rw [hz] at hc
      simp only [Bool.and_eq_true, decide_eq_true_eq] at hc
      exact hc.2
  · rcases all pc with hn | hc
    · rw [hz] at hn; cases hn
    · unfold gv_chk at hc
      rw [hz] at hc
      simp only [Bool.and_eq_true, decide_eq_true_eq] at hc
      exact hc.2
  · rcases all pc with hn | hc
    · rw [hz] at hn; cases hn
    · unfold gv_chk at hc
      rw [hz] at hc
      dsimp only at hc
      cases hq : Nat.blt a 50 with
      | true => exact Nat.le_of_ble_eq_true hq
      | false =>
        rw [hq] at hc
        simp only [Bool.and_eq_true] at hc
        have := Nat.le_of_ble_eq_true hc.1.1.1.1
        omega
  · rcases all pc with hn | hc
    · rw [hz] at hn; cases hn
    · unfold gv_chk at hc
      rw [hz] at hc
      dsimp only at hc
      simp only [Bool.and_eq_true, decide_eq_true_eq] at hc
      have h2 := hc.2
      rw [show Nat.blt a 990000 = true from Nat.ble_eq_true_of_le ha] at h2
      simp only [Bool.and_eq_true, Bool.or_eq_true] at h2
      rcases h2.2 with h3 | h3
      · refine Or.inl ?_
        show Cond.methodLink M.1.cls i (gv_meth a).1 ∈ gv_Ts
        rw [← hown]
        exact gv_inT3 _ (List.mem_map.mpr ⟨_, List.contains_iff_mem.mp h3, rfl⟩)
      · obtain ⟨x, hx, hx2⟩ := List.any_eq_true.mp h3
        simp only [Bool.and_eq_true] at hx2
        refine Or.inr ⟨x.2.2.2, List.mem_map.mpr ⟨x, hx, ?_⟩⟩
        show (gv_on x.1, x.2.1, (gv_meth x.2.2.1).1, x.2.2.2) = (M.1.cls, i, (gv_meth a).1, x.2.2.2)
        rw [Nat.eq_of_beq_eq_true hx2.1.1, Nat.eq_of_beq_eq_true hx2.1.2, Nat.eq_of_beq_eq_true hx2.2, hown]
  · have key : gv_stT.contains (o, i, a) = true := by
      rcases all pc with hn | hc
      · rcases hz with hz | hz <;> (rw [hz] at hn; cases hn)
      · unfold gv_chk at hc
        rcases hz with hz | hz
        · rw [hz] at hc
          simp only [Bool.and_eq_true, decide_eq_true_eq] at hc
          exact hc.2
        · rw [hz] at hc
          simp only [Bool.and_eq_true, decide_eq_true_eq] at hc
          exact hc.2
    refine ⟨gv_tsT.getD a "", List.mem_map.mpr ⟨_, List.contains_iff_mem.mp key, ?_⟩⟩
    show (gv_on o, i, gv_tsT.getD a "", a) = (M.1.cls, i, gv_tsT.getD a "", a)
    rw [hown]
  · rcases all pc with hn | hc
    · rw [hz] at hn; cases hn
    · unfold gv_chk at hc
      rw [hz] at hc
      dsimp only at hc
      rw [show Nat.blt a 50 = false from by cases hq : Nat.blt a 50; rfl; exact absurd (Nat.le_of_ble_eq_true hq) (by omega)] at hc
      simp only [Bool.and_eq_true, decide_eq_true_eq] at hc
      obtain ⟨⟨⟨⟨-, e1⟩, e2⟩, e3⟩, e4⟩ := hc
      obtain ⟨x, hx, hx2⟩ := List.any_eq_true.mp e4
      simp only [Bool.and_eq_true, Bool.or_eq_true, decide_eq_true_eq] at hx2
      obtain ⟨⟨⟨f1, f2⟩, f3⟩, f4⟩ := hx2
      refine ⟨List.isEmpty_iff.mp e1, x.2.2.1, x.2.2.2.1, x.2.2.2.2.2, List.mem_map.mpr ⟨x, hx, ?_⟩, e2, e3, ?_⟩
      · show (gv_on x.1, x.2.1, x.2.2.1, x.2.2.2.1, x.2.2.2.2.1, x.2.2.2.2.2) = (M.1.cls, i, x.2.2.1, x.2.2.2.1, a - 300, x.2.2.2.2.2)
        rw [Nat.eq_of_beq_eq_true f1, Nat.eq_of_beq_eq_true f2, Nat.eq_of_beq_eq_true f3, hown]
      · rcases f4 with f4 | f4
        · exact Or.inl ⟨f4.1.1, f4.1.2, f4.2⟩
        · exact Or.inr ⟨f4.1.1, f4.1.2, f4.2⟩
  · refine List.mem_map.mpr ⟨_, List.contains_iff_mem.mp (List.all_eq_true.mp hhn r hr), ?_⟩
    show (gv_on o, r.2.2.2.1, r.2.2.2.2) = (M.1.cls, r.2.2.2.1, r.2.2.2.2)
    rw [hown]
  · rcases all pc with hn | hc
    · rw [hz] at hn; cases hn
    · unfold gv_chk at hc
      rw [hz] at hc
      dsimp only at hc
      rw [show Nat.blt a 990000 = false from by cases hq : Nat.blt a 990000; rfl; exact absurd (Nat.le_of_ble_eq_true hq) (by omega)] at hc
      simp only [Bool.and_eq_true] at hc
      show Cond.methodLink M.1.cls i (gv_sm a) ∈ gv_Ts
      rw [← hown]
      exact gv_inT16 _ (List.mem_append_left _ (List.mem_append_right _ (List.mem_map.mpr ⟨_, List.contains_iff_mem.mp hc.2, rfl⟩)))
theorem gv_bif {α : Type} {Q : α → Prop} {b : Bool} {x y : α} (h1 : Q x) (h2 : Q y) : Q (bif b then x else y) := by
  cases b
  · exact h2
  · exact h1
