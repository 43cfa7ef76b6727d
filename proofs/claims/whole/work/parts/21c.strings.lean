/-! String.length(), String.charAt(int) of the constants -/
theorem gd_len_0 : decode prog_24_method_54_code 0 = .ok (.aload_n 0, 1) := by decide +kernel
theorem gd_len_1 : decode prog_24_method_54_code 1 = .ok (.getfield 9, 3) := by decide +kernel
theorem gd_len_4 : decode prog_24_method_54_code 4 = .ok (.arraylength, 1) := by decide +kernel
theorem gd_len_5 : decode prog_24_method_54_code 5 = .ok (.aload_n 0, 1) := by decide +kernel
theorem gd_len_6 : decode prog_24_method_54_code 6 = .ok (.invokevirtual 335, 3) := by decide +kernel
theorem gd_len_9 : decode prog_24_method_54_code 9 = .ok (.ishr, 1) := by decide +kernel
theorem gd_len_10 : decode prog_24_method_54_code 10 = .ok (.ireturn, 1) := by decide +kernel
theorem gd_chr_0 : decode prog_24_method_56_code 0 = .ok (.aload_n 0, 1) := by decide +kernel
theorem gd_chr_1 : decode prog_24_method_56_code 1 = .ok (.invokevirtual 492, 3) := by decide +kernel
theorem gd_chr_4 : decode prog_24_method_56_code 4 = .ok (.ifCond .eq 12, 3) := by decide +kernel
theorem gd_chr_7 : decode prog_24_method_56_code 7 = .ok (.aload_n 0, 1) := by decide +kernel
theorem gd_chr_8 : decode prog_24_method_56_code 8 = .ok (.getfield 9, 3) := by decide +kernel
theorem gd_chr_11 : decode prog_24_method_56_code 11 = .ok (.iload_n 1, 1) := by decide +kernel
theorem gd_chr_12 : decode prog_24_method_56_code 12 = .ok (.invokestatic 495, 3) := by decide +kernel
theorem gd_chr_15 : decode prog_24_method_56_code 15 = .ok (.ireturn, 1) := by decide +kernel
theorem gd_chr_16 : decode prog_24_method_56_code 16 = .ok (.aload_n 0, 1) := by decide +kernel
theorem gd_chr_17 : decode prog_24_method_56_code 17 = .ok (.getfield 9, 3) := by decide +kernel
theorem gd_chr_20 : decode prog_24_method_56_code 20 = .ok (.iload_n 1, 1) := by decide +kernel
theorem gd_chr_21 : decode prog_24_method_56_code 21 = .ok (.invokestatic 498, 3) := by decide +kernel
theorem gd_chr_24 : decode prog_24_method_56_code 24 = .ok (.ireturn, 1) := by decide +kernel
theorem gd_cod_0 : decode prog_24_method_152_code 0 = .ok (.getstatic 38, 3) := by decide +kernel
theorem gd_cod_3 : decode prog_24_method_152_code 3 = .ok (.ifCond .eq 10, 3) := by decide +kernel
theorem gd_cod_6 : decode prog_24_method_152_code 6 = .ok (.aload_n 0, 1) := by decide +kernel
theorem gd_cod_7 : decode prog_24_method_152_code 7 = .ok (.getfield 15, 3) := by decide +kernel
theorem gd_cod_10 : decode prog_24_method_152_code 10 = .ok (.goto 4, 3) := by decide +kernel
theorem gd_cod_13 : decode prog_24_method_152_code 13 = .ok (.iconst 1, 1) := by decide +kernel
theorem gd_cod_14 : decode prog_24_method_152_code 14 = .ok (.ireturn, 1) := by decide +kernel
theorem gd_lat_0 : decode prog_24_method_154_code 0 = .ok (.getstatic 38, 3) := by decide +kernel
theorem gd_lat_3 : decode prog_24_method_154_code 3 = .ok (.ifCond .eq 14, 3) := by decide +kernel
theorem gd_lat_6 : decode prog_24_method_154_code 6 = .ok (.aload_n 0, 1) := by decide +kernel
theorem gd_lat_7 : decode prog_24_method_154_code 7 = .ok (.getfield 15, 3) := by decide +kernel
theorem gd_lat_10 : decode prog_24_method_154_code 10 = .ok (.ifCond .ne 7, 3) := by decide +kernel
theorem gd_lat_13 : decode prog_24_method_154_code 13 = .ok (.iconst 1, 1) := by decide +kernel
theorem gd_lat_14 : decode prog_24_method_154_code 14 = .ok (.goto 4, 3) := by decide +kernel
theorem gd_lat_17 : decode prog_24_method_154_code 17 = .ok (.iconst 0, 1) := by decide +kernel
theorem gd_lat_18 : decode prog_24_method_154_code 18 = .ok (.ireturn, 1) := by decide +kernel
theorem gd_chl_0 : decode prog_25_method_2_code 0 = .ok (.iload_n 1, 1) := by decide +kernel
theorem gd_chl_1 : decode prog_25_method_2_code 1 = .ok (.aload_n 0, 1) := by decide +kernel
theorem gd_chl_2 : decode prog_25_method_2_code 2 = .ok (.arraylength, 1) := by decide +kernel
theorem gd_chl_3 : decode prog_25_method_2_code 3 = .ok (.invokestatic 9, 3) := by decide +kernel
theorem gd_chl_6 : decode prog_25_method_2_code 6 = .ok (.aload_n 0, 1) := by decide +kernel
theorem gd_chl_7 : decode prog_25_method_2_code 7 = .ok (.iload_n 1, 1) := by decide +kernel
theorem gd_chl_8 : decode prog_25_method_2_code 8 = .ok (.baload, 1) := by decide +kernel
theorem gd_chl_9 : decode prog_25_method_2_code 9 = .ok (.sipush 255, 3) := by decide +kernel
theorem gd_chl_12 : decode prog_25_method_2_code 12 = .ok (.iand, 1) := by decide +kernel
theorem gd_chl_13 : decode prog_25_method_2_code 13 = .ok (.i2c, 1) := by decide +kernel
theorem gd_chl_14 : decode prog_25_method_2_code 14 = .ok (.ireturn, 1) := by decide +kernel
theorem gd_cki_0 : decode prog_24_method_155_code 0 = .ok (.iload_n 0, 1) := by decide +kernel
theorem gd_cki_1 : decode prog_24_method_155_code 1 = .ok (.iload_n 1, 1) := by decide +kernel
theorem gd_cki_2 : decode prog_24_method_155_code 2 = .ok (.getstatic 1053, 3) := by decide +kernel
theorem gd_cki_5 : decode prog_24_method_155_code 5 = .ok (.invokestatic 1059, 3) := by decide +kernel
theorem gd_cki_8 : decode prog_24_method_155_code 8 = .ok (.pop, 1) := by decide +kernel
theorem gd_cki_9 : decode prog_24_method_155_code 9 = .ok (.return_, 1) := by decide +kernel
theorem gd_pci_0 : decode prog_34_method_11_code 0 = .ok (.iload_n 0, 1) := by decide +kernel
theorem gd_pci_1 : decode prog_34_method_11_code 1 = .ok (.ifCond .lt 8, 3) := by decide +kernel
theorem gd_pci_4 : decode prog_34_method_11_code 4 = .ok (.iload_n 0, 1) := by decide +kernel
theorem gd_pci_5 : decode prog_34_method_11_code 5 = .ok (.iload_n 1, 1) := by decide +kernel
theorem gd_pci_6 : decode prog_34_method_11_code 6 = .ok (.if_icmp .lt 10, 3) := by decide +kernel
theorem gd_pci_9 : decode prog_34_method_11_code 9 = .ok (.aload_n 2, 1) := by decide +kernel
theorem gd_pci_10 : decode prog_34_method_11_code 10 = .ok (.iload_n 0, 1) := by decide +kernel
theorem gd_pci_11 : decode prog_34_method_11_code 11 = .ok (.iload_n 1, 1) := by decide +kernel
theorem gd_pci_12 : decode prog_34_method_11_code 12 = .ok (.invokestatic 95, 3) := by decide +kernel
theorem gd_pci_15 : decode prog_34_method_11_code 15 = .ok (.athrow, 1) := by decide +kernel
theorem gd_pci_16 : decode prog_34_method_11_code 16 = .ok (.iload_n 0, 1) := by decide +kernel
theorem gd_pci_17 : decode prog_34_method_11_code 17 = .ok (.ireturn, 1) := by decide +kernel
def gs_rm (j : Nat) : Room := { frames := j, cells := 0, slots := 0, locals := 40 * j }
def gs_Q (v : Option Value) : Array Value → State → Outcome → State → Prop := fun _ st oc t => oc = .returned v ∧ t.heap = st.heap
theorem gs_in {w : Cond} (i : Nat) (h : gv_jw[i]? = some w) : w ∈ gv_Ts := gv_inT16 w (List.mem_append_right _ (List.mem_of_getElem? h))
theorem gs_blind {X : gv_X} {base : Nat} {ex adV : Nat → Nat} {av : List Value} : FrameBlind (va_Pc av (gv_Ext X base ex adV)) := by
  intro a U g mk h
  exact ⟨h.1, gv_Ext_move U _ h.2 (Nat.le_refl _) (fun _ _ _ => rfl) (State.WarmedH.refl U)⟩
theorem gs_cb {R : Room} {s : State} {args : Array Value} {own : String} {i : Nat} {y : MethodName} {bytes : ByteArray} {maxL : Nat} {ret : Option FieldType} {n j : Nat} (hts : ∀ w ∈ gv_Ts, w.before args s = true) (hlink : Cond.methodLink own i y ∈ gv_Ts) (hini : Cond.initialized y.cls ∈ gv_Ts) (hcode : Cond.code y bytes maxL ret ∈ gv_Ts) (hy : y.cls ≠ "java/lang/invoke/MethodHandle" ∧ y.cls ≠ "java/lang/invoke/VarHandle") (hsig : (parseMethodDescriptor y.desc).map (fun d => d.parameters.length) = some n) (hfr : j + 1 ≤ R.frames) (hlo : 8 + (maxL + 11) + 40 * j ≤ R.locals) : CallB R s args own i y bytes maxL ret (Cond.code y bytes maxL ret :: gv_Ts) (gs_rm j) 0 0 n := by
  have hin : ∀ w ∈ Cond.code y bytes maxL ret :: gv_Ts, w ∈ gv_Ts := fun w hw => (List.mem_cons.mp hw).elim (fun e => by rw [e]; exact hcode) id
  exact ⟨rfl, rfl, hfr, hlo, fun w hw a' U hWm => word_at hWm (gv_Ts_good w (hin w hw)) (hts w (hin w hw)), List.mem_cons_self, hts _ hcode, hts _ hini, hy, gv_sig hsig, hts _ hlink⟩
section
variable {p : Program} {l : Launch} {e : Env} {R : Room} {s : State} {m : MethodId} {args : Array Value} {below : List Frame} {meth : Method} {c : Code} {H : Heap} {locs : List Loc} {cells slots : Nat} {Q : State → Prop}
/-- behind a call that leaves the heap as it was -/
theorem gs_back {pc : Nat} {ls : Array Slot} {st0 rest : List Value} {v : Option Value} {a : Array Value} {free : Addr → Prop} (hr : va_Run p l e R s m args below meth c H locs cells slots 0 0 (F0 m pc ls st0) rest (gs_Q v a) free) (hf : ∀ q, ¬ free q)
    (kk : W p l e R s m args below meth c H locs cells slots Q (F0 m (pc + 3) ls (v.toList ++ rest))) : W p l e R s m args below meth c H locs cells slots Q (F0 m pc ls st0) := by
  intro T hT X
  obtain ⟨v2, st₀, t, T', L, h0, X', hL, e1, e2, ⟨hv, hh⟩, st⟩ := hr T hT X
  cases hv
  have hL0 : L = [] := by
    cases L with
    | nil => rfl
    | cons z r => exact (hf _ (hL z List.mem_cons_self)).elim
  subst hL0
  rw [List.append_nil] at X'
  obtain ⟨t2, a1, b1⟩ := kk T' (by rw [e1, hh, h0]) X'
  exact ⟨t2, st t2 a1, b1⟩
end
set_option maxHeartbeats 4000000 in
set_option maxRecDepth 100000 in
theorem gs_cod (l : Launch) (X : gv_X) (base : Nat) (ex adV : Nat → Nat) (k : Nat) (hk : k < gv_txT.length) : Met l gj_cod (Cond.code gj_cod prog_24_method_152_code 1 (some .byte) :: gv_Ts) (gs_rm 0) (va_Pc [.ref (ex (k + 1))] (gv_Ext X base ex adV)) (gs_Q (some (.int 0))) 0 0 (fun _ => False) := by
  refine Met.ofW (cc := prog_24_method_152_code) (maxL := 1) (ret := (some .byte)) (by decide +kernel) rfl ?_
  intro p e s m args below meth c s₁ B hml hv
  obtain ⟨rfl, hE⟩ := hv
  have hx := B.exec
  have hb := B.bytes
  have hr := B.returns
  have hts0 := atoms_spec (ws := Cond.code gj_cod prog_24_method_152_code 1 (some .byte) :: gv_Ts) B.pre
  have hts : ∀ w ∈ gv_Ts, w.before _ s = true := fun w h => hts0 w (List.mem_cons_of_mem _ h)
  have hown : s.vm.findClass gj_cod.cls = some m.cls := findClass_of_methodNamed B.named
  have hlocks := B.notSynchronized
  have hS : va_S (fun q : Nat => base ≤ q) s.heap s.heap [] := va_S.rf
  have hl := lv_entry [.ref (ex (k + 1))] (n := 1) (Nat.le_of_ble_eq_true rfl)
  rw [lg_entry_eq]
  generalize (lg_sl [.ref (ex (k + 1))] ++ List.replicate (1 - (lg_sl [.ref (ex (k + 1))]).length) Slot.unset).toArray = ls at hl ⊢
  have hl : lv_has ls 1 [(0, .ref (ex (k + 1)))] := hl
  obtain ⟨t1, t2, t3, t4⟩ := hE.2.2.2.2.2.2.1 k hk
  refine va_gets (v := .int 1) hx hb hE.2.2.2.2.2.2.2.1 hS hown (hts _ (gs_in 26 rfl)) (fun _ z => z) gd_cod_0 ?_
  refine lv_if_eq (tgt := 13) hx hb gd_cod_3 (by decide) (fun z => absurd z (by decide)) (fun _ => ?_)
  refine lv_aload_n hx hb gd_cod_6 rfl (lv_at hl 0 rfl) ?_
  refine vk_getf hx hb t2 hS hown (hts _ (gs_in 29 rfl)) (fun _ z => z) gd_cod_7 ?_
  refine lv_goto (tgt := 14) hx hb gd_cod_10 (by decide) ?_
  exact W.zret hx hb hr rfl (fun t ht _ => ⟨rfl, ht⟩) (fun q h => nomatch h) gd_cod_14 hlocks
set_option maxHeartbeats 4000000 in
set_option maxRecDepth 100000 in
theorem gs_lat (l : Launch) (X : gv_X) (base : Nat) (ex adV : Nat → Nat) (k : Nat) (hk : k < gv_txT.length) : Met l gj_lat (Cond.code gj_lat prog_24_method_154_code 1 (some .boolean) :: gv_Ts) (gs_rm 0) (va_Pc [.ref (ex (k + 1))] (gv_Ext X base ex adV)) (gs_Q (some (.int 1))) 0 0 (fun _ => False) := by
  refine Met.ofW (cc := prog_24_method_154_code) (maxL := 1) (ret := (some .boolean)) (by decide +kernel) rfl ?_
  intro p e s m args below meth c s₁ B hml hv
  obtain ⟨rfl, hE⟩ := hv
  have hx := B.exec
  have hb := B.bytes
  have hr := B.returns
  have hts0 := atoms_spec (ws := Cond.code gj_lat prog_24_method_154_code 1 (some .boolean) :: gv_Ts) B.pre
  have hts : ∀ w ∈ gv_Ts, w.before _ s = true := fun w h => hts0 w (List.mem_cons_of_mem _ h)
  have hown : s.vm.findClass gj_lat.cls = some m.cls := findClass_of_methodNamed B.named
  have hlocks := B.notSynchronized
  have hS : va_S (fun q : Nat => base ≤ q) s.heap s.heap [] := va_S.rf
  have hl := lv_entry [.ref (ex (k + 1))] (n := 1) (Nat.le_of_ble_eq_true rfl)
  rw [lg_entry_eq]
  generalize (lg_sl [.ref (ex (k + 1))] ++ List.replicate (1 - (lg_sl [.ref (ex (k + 1))]).length) Slot.unset).toArray = ls at hl ⊢
  have hl : lv_has ls 1 [(0, .ref (ex (k + 1)))] := hl
  obtain ⟨t1, t2, t3, t4⟩ := hE.2.2.2.2.2.2.1 k hk
  refine va_gets (v := .int 1) hx hb hE.2.2.2.2.2.2.2.1 hS hown (hts _ (gs_in 26 rfl)) (fun _ z => z) gd_lat_0 ?_
  refine lv_if_eq (tgt := 17) hx hb gd_lat_3 (by decide) (fun z => absurd z (by decide)) (fun _ => ?_)
  refine lv_aload_n hx hb gd_lat_6 rfl (lv_at hl 0 rfl) ?_
  refine vk_getf hx hb t2 hS hown (hts _ (gs_in 29 rfl)) (fun _ z => z) gd_lat_7 ?_
  refine lv_if_ne (tgt := 17) hx hb gd_lat_10 (by decide) (fun z => absurd rfl z) (fun _ => ?_)
  refine lv_iconst (v := 1) hx hb gd_lat_13 (by decide) ?_
  refine lv_goto (tgt := 18) hx hb gd_lat_14 (by decide) ?_
  exact W.zret hx hb hr rfl (fun t ht _ => ⟨rfl, ht⟩) (fun q h => nomatch h) gd_lat_18 hlocks
set_option maxHeartbeats 4000000 in
set_option maxRecDepth 100000 in
theorem gs_pci (l : Launch) (X : gv_X) (base : Nat) (ex adV : Nat → Nat) (i n : Int32) (z : Option Nat) (h0 : ¬ i < 0) (h1 : i < n) : Met l gj_pci (Cond.code gj_pci prog_34_method_11_code 3 (some .int) :: gv_Ts) (gs_rm 0) (va_Pc [.int i, .int n, va_rf z] (gv_Ext X base ex adV)) (gs_Q (some (.int i))) 0 0 (fun _ => False) := by
  refine Met.ofW (cc := prog_34_method_11_code) (maxL := 3) (ret := (some .int)) (by decide +kernel) rfl ?_
  intro p e s m args below meth c s₁ B hml hv
  obtain ⟨rfl, hE⟩ := hv
  have hx := B.exec
  have hb := B.bytes
  have hr := B.returns
  have hts0 := atoms_spec (ws := Cond.code gj_pci prog_34_method_11_code 3 (some .int) :: gv_Ts) B.pre
  have hts : ∀ w ∈ gv_Ts, w.before _ s = true := fun w h => hts0 w (List.mem_cons_of_mem _ h)
  have hown : s.vm.findClass gj_pci.cls = some m.cls := findClass_of_methodNamed B.named
  have hlocks := B.notSynchronized
  have hS : va_S (fun q : Nat => base ≤ q) s.heap s.heap [] := va_S.rf
  have hl := lv_entry [.int i, .int n, va_rf z] (n := 3) (by cases z <;> exact Nat.le_of_ble_eq_true rfl)
  rw [lg_entry_eq]
  generalize (lg_sl [.int i, .int n, va_rf z] ++ List.replicate (3 - (lg_sl [.int i, .int n, va_rf z]).length) Slot.unset).toArray = ls at hl ⊢
  have hl : lv_has ls 3 [(0, .int i), (1, .int n), (2, va_rf z)] := by
    cases z <;> exact hl
  refine lv_iload_n hx hb gd_pci_0 rfl (lv_at hl 0 rfl) ?_
  refine lv_if_lt (tgt := 9) hx hb gd_pci_1 (by decide) (fun z => absurd z h0) (fun _ => ?_)
  refine lv_iload_n hx hb gd_pci_4 rfl (lv_at hl 0 rfl) ?_
  refine lv_iload_n hx hb gd_pci_5 rfl (lv_at hl 1 rfl) ?_
  refine lv_icmp_lt (tgt := 16) hx hb gd_pci_6 (by decide) (fun _ => ?_) (fun z => absurd h1 z)
  refine lv_iload_n hx hb gd_pci_16 rfl (lv_at hl 0 rfl) ?_
  exact W.iret hx hb hr (fun t ht _ => ⟨rfl, ht⟩) (fun q h => nomatch h) gd_pci_17 hlocks
set_option maxHeartbeats 4000000 in
set_option maxRecDepth 100000 in
theorem gs_cki (l : Launch) (X : gv_X) (base : Nat) (ex adV : Nat → Nat) (i n : Int32) (h0 : ¬ i < 0) (h1 : i < n) : Met l gj_cki (Cond.code gj_cki prog_24_method_155_code 2 none :: gv_Ts) (gs_rm 1) (va_Pc [.int i, .int n] (gv_Ext X base ex adV)) (gs_Q none) 0 0 (fun _ => False) := by
  refine Met.ofW (cc := prog_24_method_155_code) (maxL := 2) (ret := none) (by decide +kernel) rfl ?_
  intro p e s m args below meth c s₁ B hml hv
  obtain ⟨rfl, hE⟩ := hv
  have hx := B.exec
  have hb := B.bytes
  have hr := B.returns
  have hts0 := atoms_spec (ws := Cond.code gj_cki prog_24_method_155_code 2 none :: gv_Ts) B.pre
  have hts : ∀ w ∈ gv_Ts, w.before _ s = true := fun w h => hts0 w (List.mem_cons_of_mem _ h)
  have hown : s.vm.findClass gj_cki.cls = some m.cls := findClass_of_methodNamed B.named
  have hlocks := B.notSynchronized
  have hS : va_S (fun q : Nat => base ≤ q) s.heap s.heap [] := va_S.rf
  have hl := lv_entry [.int i, .int n] (n := 2) (Nat.le_of_ble_eq_true rfl)
  rw [lg_entry_eq]
  generalize (lg_sl [.int i, .int n] ++ List.replicate (2 - (lg_sl [.int i, .int n]).length) Slot.unset).toArray = ls at hl ⊢
  have hl : lv_has ls 2 [(0, .int i), (1, .int n)] := hl
  refine lv_iload_n hx hb gd_cki_0 rfl (lv_at hl 0 rfl) ?_
  refine lv_iload_n hx hb gd_cki_1 rfl (lv_at hl 1 rfl) ?_
  have key : ∀ z : Option Nat, W p l e (headSpec (Cond.code gj_cki prog_24_method_155_code 2 none :: gv_Ts) (gs_rm 1)).room s m #[Value.int i, Value.int n] below meth c s.heap [] 0 0 (MQ below (gs_Q none) #[Value.int i, Value.int n] s 0 0 (fun _ => False)) (F0 m 5 ls [va_rf z, .int n, .int i]) := by
    intro z
    refine gs_back (va_runS (As := [.int i, .int n, va_rf z]) (rest := []) ⟨hx, hb, hml, hown, hts⟩ (gs_pci l X base ex adV i n z h0 h1) ⟨gs_cb (n := 3) (j := 0) hts (gs_in 25 rfl) (gs_in 20 rfl) (gs_in 6 rfl) (by decide) (by decide +kernel) (Nat.le_refl _) (by decide), hts _ (gs_in 13 rfl)⟩ ⟨gs_blind, fun U hU hWm => ⟨rfl, gv_Ext_move s U hE (by rw [hU]; exact Nat.le_refl _) (fun q _ _ => by rw [hU]) hWm⟩⟩ rfl rfl hl.1 rfl (lv_room (Nat.le_of_ble_eq_true rfl)) gd_cki_5 ⟨Nat.le_refl _, Nat.le_refl _⟩) (fun q => id) ?_
    refine lv_pop hx hb gd_cki_8 rfl ?_
    exact W.vret hx hb hr (fun t ht _ => ⟨rfl, ht⟩) (fun q h => nomatch h) gd_cki_9 hlocks
  rcases hE.2.2.2.2.2.2.2.2 with hz | ⟨t, hz⟩
  · exact va_gets (v := .null) hx hb hz hS hown (hts _ (gs_in 27 rfl)) (fun _ z => z) gd_cki_2 (key none)
  · exact va_gets (v := .ref t) hx hb hz hS hown (hts _ (gs_in 27 rfl)) (fun _ z => z) gd_cki_2 (key (some t))
theorem gs_small : ∀ k, k < gv_txT.length → (gv_txT.getD k []).length < 100 ∧ ∀ b ∈ gv_txT.getD k [], 0 ≤ b ∧ b < 128 := by decide +kernel
theorem gs_mem {l : List Int32} {i : Nat} (h : i < l.length) : l.getD i 0 ∈ l := by
  rw [List.getD_eq_getElem?_getD, List.getElem?_eq_getElem h]
  exact List.getElem_mem h
theorem gs_byte {b : Int32} (h0 : 0 ≤ b) (h1 : b < 128) : b &&& 255 = b ∧ (b.toUInt32 % 65536).toInt32 = b ∧ narrow .char (.int b) = .int b := by
  have key : ∀ n, n < 128 → (nI n &&& 255 = nI n ∧ ((nI n).toUInt32 % 65536).toInt32 = nI n ∧ narrow .char (.int (nI n)) = .int (nI n)) := by decide +kernel
  obtain ⟨j, hj, rfl⟩ := nI_of (x := b) (fun z => by rw [Int32.lt_iff_toInt_lt] at z; rw [Int32.le_iff_toInt_le] at h0; omega)
  refine key j ?_
  rw [Int32.lt_iff_toInt_lt, nI_toInt hj] at h1
  have e : (128 : Int32).toInt = 128 := by decide
  rw [e] at h1
  omega
set_option maxHeartbeats 4000000 in
set_option maxRecDepth 100000 in
theorem gs_chl (l : Launch) (X : gv_X) (base : Nat) (ex adV : Nat → Nat) (k : Nat) (hk : k < gv_txT.length) (i : Int32) (hi : vp_in i (gv_txT.getD k []).length) : Met l gj_chl (Cond.code gj_chl prog_25_method_2_code 2 (some .char) :: gv_Ts) (gs_rm 2) (va_Pc [.ref (adV k), .int i] (gv_Ext X base ex adV)) (gs_Q (some (.int ((gv_txT.getD k []).getD i.toNatClampNeg 0)))) 0 0 (fun _ => False) := by
  refine Met.ofW (cc := prog_25_method_2_code) (maxL := 2) (ret := (some .char)) (by decide +kernel) rfl ?_
  intro p e s m args below meth c s₁ B hml hv
  obtain ⟨rfl, hE⟩ := hv
  have hx := B.exec
  have hb := B.bytes
  have hr := B.returns
  have hts0 := atoms_spec (ws := Cond.code gj_chl prog_25_method_2_code 2 (some .char) :: gv_Ts) B.pre
  have hts : ∀ w ∈ gv_Ts, w.before _ s = true := fun w h => hts0 w (List.mem_cons_of_mem _ h)
  have hown : s.vm.findClass gj_chl.cls = some m.cls := findClass_of_methodNamed B.named
  have hlocks := B.notSynchronized
  have hS : va_S (fun q : Nat => base ≤ q) s.heap s.heap [] := va_S.rf
  have hl := lv_entry [.ref (adV k), .int i] (n := 2) (Nat.le_of_ble_eq_true rfl)
  rw [lg_entry_eq]
  generalize (lg_sl [.ref (adV k), .int i] ++ List.replicate (2 - (lg_sl [.ref (adV k), .int i]).length) Slot.unset).toArray = ls at hl ⊢
  have hl : lv_has ls 2 [(0, .ref (adV k)), (1, .int i)] := hl
  obtain ⟨t1, t2, t3, t4⟩ := hE.2.2.2.2.2.2.1 k hk
  obtain ⟨q1, q2⟩ := gs_small k hk
  have h0 : ¬ i < 0 := fun z => hi (Or.inl z)
  have hlt : i.toNatClampNeg < (gv_txT.getD k []).length := Nat.not_le.mp fun z => hi (Or.inr z)
  have h1 : i < Int32.ofNat (gv_txT.getD k []).length := by
    obtain ⟨j, hj, rfl⟩ := vp_in_of hi (by omega)
    exact nI_lt hj (by omega)
  refine lv_iload_n hx hb gd_chl_0 rfl (lv_at hl 1 rfl) ?_
  refine lv_aload_n hx hb gd_chl_1 rfl (lv_at hl 0 rfl) ?_
  refine va_tlen hx hb t4 hS rfl gd_chl_2 ?_
  refine gs_back (va_runS (As := [.int i, .int (Int32.ofNat (gv_txT.getD k []).length)]) (rest := []) ⟨hx, hb, hml, hown, hts⟩ (gs_cki l X base ex adV i _ h0 h1) ⟨gs_cb (n := 2) (j := 1) hts (gs_in 24 rfl) (gs_in 18 rfl) (gs_in 5 rfl) (by decide) (by decide +kernel) (Nat.le_refl _) (by decide), hts _ (gs_in 12 rfl)⟩ ⟨gs_blind, fun U hU hWm => ⟨rfl, gv_Ext_move s U hE (by rw [hU]; exact Nat.le_refl _) (fun q _ _ => by rw [hU]) hWm⟩⟩ rfl rfl hl.1 rfl (lv_room (Nat.le_of_ble_eq_true rfl)) gd_chl_3 ⟨Nat.le_refl _, Nat.le_refl _⟩) (fun q => id) ?_
  refine lv_aload_n hx hb gd_chl_6 rfl (lv_at hl 0 rfl) ?_
  refine lv_iload_n hx hb gd_chl_7 rfl (lv_at hl 1 rfl) ?_
  refine va_tb hx hb t4 hS hi rfl gd_chl_8 ?_
  have hb0 := q2 ((gv_txT.getD k []).getD i.toNatClampNeg 0) (gs_mem hlt)
  obtain ⟨w1, w2, w3⟩ := gs_byte hb0.1 hb0.2
  refine lv_sipush (v := 255) hx hb gd_chl_9 (by decide) ?_
  refine lv_iand hx hb gd_chl_12 ?_
  refine lv_i2c hx hb gd_chl_13 rfl ?_
  rw [w1, w2]
  exact W.zret hx hb hr w3 (fun t ht _ => ⟨rfl, ht⟩) (fun q h => nomatch h) gd_chl_14 hlocks
theorem gs_recv {X : gv_X} {base : Nat} {ex adV : Nat → Nat} {s : State} {H : Heap} {locs : List Loc} (hE : gv_Ext X base ex adV s) (hS : va_S (fun q : Nat => base ≤ q) s.heap H locs) {k : Nat} (hk : k < gv_txT.length) : ∃ cell : Cell, H[ex (k + 1)]? = some cell ∧ cell.vm.isStatics = false ∧ s.vm.findClass "java/lang/String" = some cell.cls := by
  obtain ⟨cell, h1, h2, h3, -⟩ := (hE.2.2.2.2.2.2.1 k hk).1.kept hS.2.1
  exact ⟨cell, h1, h2, h3⟩
set_option maxHeartbeats 4000000 in
set_option maxRecDepth 100000 in
theorem gs_len (l : Launch) (X : gv_X) (base : Nat) (ex adV : Nat → Nat) (k : Nat) (hk : k < gv_txT.length) : Met l gj_len (Cond.code gj_len prog_24_method_54_code 1 (some .int) :: gv_Ts) (gs_rm 1) (va_Pc [.ref (ex (k + 1))] (gv_Ext X base ex adV)) (gs_Q (some (.int (Int32.ofNat (gv_txT.getD k []).length)))) 0 0 (fun _ => False) := by
  refine Met.ofW (cc := prog_24_method_54_code) (maxL := 1) (ret := (some .int)) (by decide +kernel) rfl ?_
  intro p e s m args below meth c s₁ B hml hv
  obtain ⟨rfl, hE⟩ := hv
  have hx := B.exec
  have hb := B.bytes
  have hr := B.returns
  have hts0 := atoms_spec (ws := Cond.code gj_len prog_24_method_54_code 1 (some .int) :: gv_Ts) B.pre
  have hts : ∀ w ∈ gv_Ts, w.before _ s = true := fun w h => hts0 w (List.mem_cons_of_mem _ h)
  have hown : s.vm.findClass gj_len.cls = some m.cls := findClass_of_methodNamed B.named
  have hlocks := B.notSynchronized
  have hS : va_S (fun q : Nat => base ≤ q) s.heap s.heap [] := va_S.rf
  have hl := lv_entry [.ref (ex (k + 1))] (n := 1) (Nat.le_of_ble_eq_true rfl)
  rw [lg_entry_eq]
  generalize (lg_sl [.ref (ex (k + 1))] ++ List.replicate (1 - (lg_sl [.ref (ex (k + 1))]).length) Slot.unset).toArray = ls at hl ⊢
  have hl : lv_has ls 1 [(0, .ref (ex (k + 1)))] := hl
  obtain ⟨t1, t2, t3, t4⟩ := hE.2.2.2.2.2.2.1 k hk
  refine lv_aload_n hx hb gd_len_0 rfl (lv_at hl 0 rfl) ?_
  refine vk_getf hx hb t3 hS hown (hts _ (gs_in 28 rfl)) (fun _ z => z) gd_len_1 ?_
  refine va_tlen hx hb t4 hS rfl gd_len_4 ?_
  refine lv_aload_n hx hb gd_len_5 rfl (lv_at hl 0 rfl) ?_
  refine gs_back (va_runV (As := []) (rest := [.int (Int32.ofNat (gv_txT.getD k []).length)]) ⟨hx, hb, hml, hown, hts⟩ (gs_cod l X base ex adV k hk) ⟨gs_cb (n := 0) (j := 0) hts (gs_in 21 rfl) (gs_in 18 rfl) (gs_in 2 rfl) (by decide) (by decide +kernel) (Nat.le_refl _) (by decide), hts _ (gs_in 9 rfl), hts _ (gs_in 16 rfl)⟩ ⟨gs_blind, gs_recv hE hS hk, fun U hU hWm => ⟨rfl, gv_Ext_move s U hE (by rw [hU]; exact Nat.le_refl _) (fun q _ _ => by rw [hU]) hWm⟩⟩ rfl rfl hl.1 rfl (lv_room (Nat.le_of_ble_eq_true rfl)) gd_len_6 ⟨Nat.le_refl _, Nat.le_refl _⟩) (fun q => id) ?_
  refine lv_ishr hx hb gd_len_9 ?_
  rw [show Int32.ofNat (gv_txT.getD k []).length >>> ((0 : Int32) &&& 31) = Int32.ofNat (gv_txT.getD k []).length from sb_shr0 _]
  exact W.iret hx hb hr (fun t ht _ => ⟨rfl, ht⟩) (fun q h => nomatch h) gd_len_10 hlocks
set_option maxHeartbeats 4000000 in
set_option maxRecDepth 100000 in
theorem gs_chr (l : Launch) (X : gv_X) (base : Nat) (ex adV : Nat → Nat) (k : Nat) (hk : k < gv_txT.length) (i : Int32) (hi : vp_in i (gv_txT.getD k []).length) : Met l gj_chr (Cond.code gj_chr prog_24_method_56_code 2 (some .char) :: gv_Ts) (gs_rm 3) (va_Pc [.ref (ex (k + 1)), .int i] (gv_Ext X base ex adV)) (gs_Q (some (.int ((gv_txT.getD k []).getD i.toNatClampNeg 0)))) 0 0 (fun _ => False) := by
  refine Met.ofW (cc := prog_24_method_56_code) (maxL := 2) (ret := (some .char)) (by decide +kernel) rfl ?_
  intro p e s m args below meth c s₁ B hml hv
  obtain ⟨rfl, hE⟩ := hv
  have hx := B.exec
  have hb := B.bytes
  have hr := B.returns
  have hts0 := atoms_spec (ws := Cond.code gj_chr prog_24_method_56_code 2 (some .char) :: gv_Ts) B.pre
  have hts : ∀ w ∈ gv_Ts, w.before _ s = true := fun w h => hts0 w (List.mem_cons_of_mem _ h)
  have hown : s.vm.findClass gj_chr.cls = some m.cls := findClass_of_methodNamed B.named
  have hlocks := B.notSynchronized
  have hS : va_S (fun q : Nat => base ≤ q) s.heap s.heap [] := va_S.rf
  have hl := lv_entry [.ref (ex (k + 1)), .int i] (n := 2) (Nat.le_of_ble_eq_true rfl)
  rw [lg_entry_eq]
  generalize (lg_sl [.ref (ex (k + 1)), .int i] ++ List.replicate (2 - (lg_sl [.ref (ex (k + 1)), .int i]).length) Slot.unset).toArray = ls at hl ⊢
  have hl : lv_has ls 2 [(0, .ref (ex (k + 1))), (1, .int i)] := hl
  obtain ⟨t1, t2, t3, t4⟩ := hE.2.2.2.2.2.2.1 k hk
  have hlt : i.toNatClampNeg < (gv_txT.getD k []).length := Nat.not_le.mp fun z => hi (Or.inr z)
  have hb0 := (gs_small k hk).2 ((gv_txT.getD k []).getD i.toNatClampNeg 0) (gs_mem hlt)
  obtain ⟨w1, w2, w3⟩ := gs_byte hb0.1 hb0.2
  have hmv : ∀ U : State, U.heap = s.heap → s.WarmedH U.vm → gv_Ext X base ex adV U := fun U hU hWm => gv_Ext_move s U hE (by rw [hU]; exact Nat.le_refl _) (fun q _ _ => by rw [hU]) hWm
  refine lv_aload_n hx hb gd_chr_0 rfl (lv_at hl 0 rfl) ?_
  refine gs_back (va_runV (As := []) (rest := []) ⟨hx, hb, hml, hown, hts⟩ (gs_lat l X base ex adV k hk) ⟨gs_cb (n := 0) (j := 0) hts (gs_in 22 rfl) (gs_in 18 rfl) (gs_in 3 rfl) (by decide) (by decide +kernel) (by decide) (by decide), hts _ (gs_in 10 rfl), hts _ (gs_in 17 rfl)⟩ ⟨gs_blind, gs_recv hE hS hk, fun U hU hWm => ⟨rfl, hmv U hU hWm⟩⟩ rfl rfl hl.1 rfl (lv_room (Nat.le_of_ble_eq_true rfl)) gd_chr_1 ⟨Nat.le_refl _, Nat.le_refl _⟩) (fun q => id) ?_
  refine lv_if_eq (tgt := 16) hx hb gd_chr_4 (by decide) (fun z => absurd z (by decide)) (fun _ => ?_)
  refine lv_aload_n hx hb gd_chr_7 rfl (lv_at hl 0 rfl) ?_
  refine vk_getf hx hb t3 hS hown (hts _ (gs_in 28 rfl)) (fun _ z => z) gd_chr_8 ?_
  refine lv_iload_n hx hb gd_chr_11 rfl (lv_at hl 1 rfl) ?_
  refine gs_back (va_runS (As := [.ref (adV k), .int i]) (rest := []) ⟨hx, hb, hml, hown, hts⟩ (gs_chl l X base ex adV k hk i hi) ⟨gs_cb (n := 2) (j := 2) hts (gs_in 23 rfl) (gs_in 19 rfl) (gs_in 4 rfl) (by decide) (by decide +kernel) (by decide) (by decide), hts _ (gs_in 11 rfl)⟩ ⟨gs_blind, fun U hU hWm => ⟨rfl, hmv U hU hWm⟩⟩ rfl rfl hl.1 rfl (lv_room (Nat.le_of_ble_eq_true rfl)) gd_chr_12 ⟨Nat.le_refl _, Nat.le_refl _⟩) (fun q => id) ?_
  exact W.zret hx hb hr w3 (fun t ht _ => ⟨rfl, ht⟩) (fun q h => nomatch h) gd_chr_15 hlocks
set_option maxHeartbeats 4000000 in
theorem gv_lengths (l : Launch) (X : gv_X) (base : Nat) (ex adV : Nat → Nat) : gv_rSL l gv_Ts gv_txT base ex (gv_Ext X base ex adV) := by
  intro p e R s m args below meth c M H locs ls pc i q r C hE hS hsz hR8 hR2 hd hlink h1 hq hcat Q k0 n0 hk0 hn0 K
  obtain ⟨hx, hb, hml, hown, hts, hr, hlocks, hnm⟩ := C
  have e1 : q - 1 + 1 = q := by omega
  have hmv : ∀ U : State, U.heap = H → s.WarmedH U.vm → gv_Ext X base ex adV U := fun U hU hWm => gv_Ext_move s U hE (by rw [hU]; exact hS.1) (fun q a1 a2 => by rw [hU]; exact hS.2.1 q a1 a2) hWm
  have hrun := va_runV (R := R) (locs := locs) (cells := k0) (slots := n0) (e := e) (below := below) (meth := meth) (H := H) (g := F0 m pc ls (.ref (ex (q - 1 + 1)) :: r)) (As := []) (rest := r) ⟨hx, hb, hml, hown, hts⟩ (gs_len l X base ex adV (q - 1) hq) ⟨gs_cb (n := 0) (j := 1) hts hlink (gs_in 18 rfl) (gs_in 0 rfl) (by decide) (by decide +kernel) (by omega) (by omega), hts _ (gs_in 7 rfl), hts _ (gs_in 14 rfl)⟩ ⟨gs_blind, gs_recv hE hS hq, fun U hU hWm => ⟨rfl, hmv U hU hWm⟩⟩ rfl rfl hsz rfl (lv_room hcat) hd ⟨hk0, hn0⟩
  rw [e1] at hrun
  exact gs_back hrun (fun q => id) K
set_option maxHeartbeats 4000000 in
theorem gv_chars (l : Launch) (X : gv_X) (base : Nat) (ex adV : Nat → Nat) : gv_rSC l gv_Ts gv_txT base ex (gv_Ext X base ex adV) := by
  intro p e R s m args below meth c M H locs ls pc i q j r C hE hS hsz hR8 hR2 hd hlink h1 hq hj hcat Q k0 n0 hk0 hn0 K
  obtain ⟨hx, hb, hml, hown, hts, hr, hlocks, hnm⟩ := C
  have e1 : q - 1 + 1 = q := by omega
  have hmv : ∀ U : State, U.heap = H → s.WarmedH U.vm → gv_Ext X base ex adV U := fun U hU hWm => gv_Ext_move s U hE (by rw [hU]; exact hS.1) (fun q a1 a2 => by rw [hU]; exact hS.2.1 q a1 a2) hWm
  have hrun := va_runV (R := R) (locs := locs) (cells := k0) (slots := n0) (e := e) (below := below) (meth := meth) (H := H) (g := F0 m pc ls (.int j :: .ref (ex (q - 1 + 1)) :: r)) (As := [.int j]) (rest := r) ⟨hx, hb, hml, hown, hts⟩ (gs_chr l X base ex adV (q - 1) hq j hj) ⟨gs_cb (n := 1) (j := 3) hts hlink (gs_in 18 rfl) (gs_in 1 rfl) (by decide) (by decide +kernel) (by omega) (by omega), hts _ (gs_in 8 rfl), hts _ (gs_in 15 rfl)⟩ ⟨gs_blind, gs_recv hE hS hq, fun U hU hWm => ⟨rfl, hmv U hU hWm⟩⟩ rfl rfl hsz rfl (lv_room hcat) hd ⟨hk0, hn0⟩
  rw [e1] at hrun
  exact gs_back hrun (fun q => id) K
