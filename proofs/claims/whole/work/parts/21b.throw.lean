/-! what was there before: its words; throws and handlers -/
def gv_chain : List String := ["java/lang/Exception"]
/-- by which index the constructor passes on, its bytes -/
def gv_k1 (e : Nat) : Nat := if e = 3 then 13 else 7
def gv_b1 (e : Nat) : ByteArray := if e = 3 then prog_33_method_4_code else Bundle.six
abbrev gv_Y1 : String := "java/lang/RuntimeException"
theorem gv_z0 : ∀ e, e < 4 → decode (gv_b1 e) 0 = .ok (.aload_n 0, 1)
  | 0, _ => by decide +kernel
  | 1, _ => by decide +kernel
  | 2, _ => by decide +kernel
  | 3, _ => by decide +kernel
theorem gv_z1 : ∀ e, e < 4 → decode (gv_b1 e) 1 = .ok (.aload_n 1, 1)
  | 0, _ => by decide +kernel
  | 1, _ => by decide +kernel
  | 2, _ => by decide +kernel
  | 3, _ => by decide +kernel
theorem gv_z2 : ∀ e, e < 4 → decode (gv_b1 e) 2 = .ok (.invokespecial (gv_k1 e), 3)
  | 0, _ => by decide +kernel
  | 1, _ => by decide +kernel
  | 2, _ => by decide +kernel
  | 3, _ => by decide +kernel
theorem gv_z5 : ∀ e, e < 4 → decode (gv_b1 e) 5 = .ok (.return_, 1)
  | 0, _ => by decide +kernel
  | 1, _ => by decide +kernel
  | 2, _ => by decide +kernel
  | 3, _ => by decide +kernel
def gv_wS (own : String) (ic e : Nat) : List Cond := (gv_oat own ic (gv_exn e) gv_Y1 gv_chain (gv_k1 e) (gv_b1 e)).filter vx_no
def gv_Xw : List Cond := gv_thrs.flatMap (fun x => Cond.classLink x.1 x.2.1 (gv_exn x.2.2.2.2.1) :: Cond.initialized (gv_exn x.2.2.2.2.1) :: gv_wS x.1 x.2.2.2.1 x.2.2.2.2.1) ++ (gv_hnds.map (fun x => Cond.classLink x.1 x.2.1 (gv_exn x.2.2)) ++ [0, 1, 2, 3].map (fun k => Cond.castable (gv_exn k) (gv_exn k)))
def gv_ncs : List (Nat × Nat) := [(0, 1), (0, 2), (0, 3), (1, 0), (1, 2), (1, 3), (2, 0), (2, 1), (2, 3), (3, 0), (3, 1), (3, 2)]
def gv_mv (w : Cond) : Bool := w.onTables && vx_ot w && (goodWord w || (match w with
  | .castable _ _ => true
  | .declares _ => true
  | _ => false))
theorem gv_Xw_mv : gv_Xw.all gv_mv = true := by decide +kernel
theorem gv_thrs_fit : gv_thrs.all (fun x => Bundle.fit (gv_exn x.2.2.2.2.1) && Nat.blt x.2.2.2.2.1 4) = true := by decide +kernel
theorem gv_hnds_ok : gv_hnds.all (fun x => Nat.blt x.2.2 4 && !(Nat.beq x.2.1 0)) = true := by decide +kernel
theorem gv_ncs_all (a : Nat) (ha : a < 4) (b : Nat) (hb : b < 4) (h : a ≠ b) : (a, b) ∈ gv_ncs := by
  have key : (List.range 4).all (fun a => (List.range 4).all (fun b => Nat.beq a b || gv_ncs.contains (a, b))) = true := by decide +kernel
  have h1 := List.all_eq_true.mp (List.all_eq_true.mp key a (List.mem_range.mpr ha)) b (List.mem_range.mpr hb)
  simp only [Bool.or_eq_true] at h1
  rcases h1 with h1 | h1
  · exact absurd (Nat.eq_of_beq_eq_true h1) h
  · exact List.contains_iff_mem.mp h1
def gv_Ext (X : gv_X) (base : Nat) (ex adV : Nat → Nat) (U : State) : Prop :=
  gv_Ex1 X base ex gv_nests gv_strs U ∧ (∀ w ∈ gv_Xw, w.before #[] U = true) ∧ (∀ x ∈ gv_thrs, ∃ sa, vk_R x.1 x.2.2.1 x.2.2.2.2.2 sa U) ∧
  vx_Zq Bundle.tN "UNASSIGNED_STACK" Bundle.steD (fun q : Nat => base ≤ q) U U.heap ∧ vx_Zq Bundle.tN "SUPPRESSED_SENTINEL" Bundle.listD (fun q : Nat => base ≤ q) U U.heap ∧ (∀ x ∈ gv_ncs, va_Nc (gv_exn x.1) (gv_exn x.2) U) ∧
  (∀ k, k < gv_txT.length → va_O "java/lang/String" (ex (k + 1)) (fun q : Nat => base ≤ q) U U.heap ∧ va_OF "java/lang/String" "coder" "B" (.int 0) (ex (k + 1)) (fun q : Nat => base ≤ q) U U.heap ∧ va_OF "java/lang/String" "value" "[B" (.ref (adV k)) (ex (k + 1)) (fun q : Nat => base ≤ q) U U.heap ∧ va_T .byte (adV k) (gv_txT.getD k []).length (fun j => .int ((gv_txT.getD k []).getD j 0)) (fun q : Nat => base ≤ q) U U.heap) ∧
  va_Z "java/lang/String" "COMPACT_STRINGS" "Z" (.int 1) (fun q : Nat => base ≤ q) U U.heap ∧ va_Zq "jdk/internal/util/Preconditions" "SIOOBE_FORMATTER" "Ljava/util/function/BiFunction;" (fun q : Nat => base ≤ q) U U.heap
theorem gv_mv_at {w : Cond} {s U : State} (h : gv_mv w = true) (hW : s.WarmedH U.vm) (hb : w.before #[] s = true) : w.before #[] U = true := by
  simp only [gv_mv, Bool.and_eq_true, Bool.or_eq_true] at h
  rcases h.2 with h2 | h2
  · exact word_at hW (good_of_word h2) hb
  · cases w with
    | castable C T => exact va_Nw.warmC hW hb
    | declares x => exact va_Nw.warmD hW hb
    | _ => cases h2
theorem gv_Ext_move {X : gv_X} {base : Nat} {ex adV : Nat → Nat} (s U : State) (h : gv_Ext X base ex adV s) (hz : s.heap.size ≤ U.heap.size) (hk : ∀ q, q < s.heap.size → ¬ base ≤ q → U.heap[q]? = s.heap[q]?) (hW : s.WarmedH U.vm) : gv_Ext X base ex adV U := by
  obtain ⟨⟨a1, a2, a3, a4, a5, a6⟩, b, c, d1, d2, f, g, h1, h2⟩ := h
  have al := hW.alike
  refine ⟨⟨va_X.moved al (a1.kept (hk _ a2 (Nat.not_le.mpr a3))), Nat.lt_of_lt_of_le a2 hz, a3, va_AO.moved al a4, fun o i y hh hm => va_Nw.warmM hW (a5 o i y hh hm), fun o i t a hm => vk_R.warm hW (a6 o i t a hm)⟩, fun w hw => gv_mv_at (List.all_eq_true.mp gv_Xw_mv w hw) hW (b w hw), fun x hx => ?_, vx_Zq.moved al (d1.kept hk), vx_Zq.moved al (d2.kept hk), fun x hx => va_Nc.moved al (f x hx), fun k hkk => ?_, va_Z.moved al (h1.kept hk), va_Zq.moved al (h2.kept hk)⟩
  · obtain ⟨sa, hs⟩ := c x hx
    exact ⟨sa, vk_R.warm hW hs⟩
  · obtain ⟨g1, g2, g3, g4⟩ := g k hkk
    exact ⟨va_O.moved al (g1.kept hk), va_OF.moved al (g2.kept hk), va_OF.moved al (g3.kept hk), va_T.moved al (g4.kept hk)⟩
theorem gv_Xw_use {X : gv_X} {base : Nat} {ex adV : Nat → Nat} {s : State} {args : Array Value} (h : gv_Ext X base ex adV s) {w : Cond} (hw : w ∈ gv_Xw) : w.before args s = true := by
  have hm := List.all_eq_true.mp gv_Xw_mv w hw
  simp only [gv_mv, Bool.and_eq_true] at hm
  exact va_Nw.use hm.1.1 (h.2.1 w hw)
set_option maxHeartbeats 4000000 in
/-- throws -/
theorem gv_throws (l : Launch) (hl : l.stackTraces = false) (X : gv_X) (base : Nat) (ex adV : Nat → Nat) : gv_rTh l base gv_Ts (gv_Ext X base ex adV) gv_exn gv_thrs := by
  intro p e R s m args below meth c M H locs ls pc i a b z r Qc XC cells slots mc ms C hTb hE hS hsz hR8 hR2 hEq ha hT hcat hRc hRs hx hf hc hs
  obtain ⟨hx0, hb, hml, hown, hts, hr, hlocks, hnm⟩ := C
  obtain ⟨hh, is, ic, text, hmem, d0, d3, d4⟩ := hT
  have hfit := List.all_eq_true.mp gv_thrs_fit _ hmem
  simp only [Bool.and_eq_true] at hfit
  have hin : ∀ w ∈ Cond.classLink (gv_own M) i (gv_exn (a - 300)) :: Cond.initialized (gv_exn (a - 300)) :: gv_wS (gv_own M) ic (a - 300), w ∈ gv_Xw := fun w hw => List.mem_append_left _ (List.mem_flatMap.mpr ⟨_, hmem, hw⟩)
  have hgood : ∀ w ∈ Cond.classLink (gv_own M) i (gv_exn (a - 300)) :: Cond.initialized (gv_exn (a - 300)) :: gv_wS (gv_own M) ic (a - 300), vx_ot w = true := fun w hw => by
    have hm := List.all_eq_true.mp gv_Xw_mv w (hin w hw)
    simp only [gv_mv, Bool.and_eq_true] at hm
    exact hm.1.2
  obtain ⟨sa, hstr⟩ := hE.2.2.1 _ hmem
  have hout : ∀ pc2, ∀ x ∈ c.exceptionTable.toList, covers x pc2 = false := by
    intro pc2 x hx2
    rw [hTb] at hx2
    unfold gv_h4 at hx2
    rw [hh] at hx2
    cases hx2
  have hnf : ∀ n ∈ gv_chain, Bundle.fit n = true := by decide +kernel
  have hY1 : Bundle.fit gv_Y1 = true := by decide +kernel
  have h4 : a - 300 < 4 := Nat.le_of_ble_eq_true hfit.2
  rcases d4 with ⟨d4, d6, d9⟩ | ⟨d4, d7, d10⟩
  · exact gv_throwS (names := gv_chain) (Y1 := gv_Y1) hx0 hb hl (gv_z0 _ h4) (gv_z1 _ h4) (gv_z2 _ h4) (gv_z5 _ h4) hY1 hown hfit.1 hnf (gv_Xw_use hE (hin _ List.mem_cons_self)) (gv_Xw_use hE (hin _ (List.mem_cons_of_mem _ List.mem_cons_self))) hstr (fun w hw => gv_Xw_use hE (hin w (List.mem_cons_of_mem _ (List.mem_cons_of_mem _ hw)))) hgood hE.2.2.2.1 hE.2.2.2.2.1 hS (hsz.trans hml.symm) d0 d3 d4 d6 d9 (hout _) (by show 1 + 4 < _; omega) (by show _ + (13 * (1 + 2) + 43) ≤ _; omega) hRc hRs hlocks hx hf hc hs
  · exact gv_throwSW (names := gv_chain) (Y1 := gv_Y1) hx0 hb hl (gv_z0 _ h4) (gv_z1 _ h4) (gv_z2 _ h4) (gv_z5 _ h4) hY1 hown hfit.1 hnf (gv_Xw_use hE (hin _ List.mem_cons_self)) (gv_Xw_use hE (hin _ (List.mem_cons_of_mem _ List.mem_cons_self))) hstr (fun w hw => gv_Xw_use hE (hin w (List.mem_cons_of_mem _ (List.mem_cons_of_mem _ hw)))) hgood hE.2.2.2.1 hE.2.2.2.2.1 hS (hsz.trans hml.symm) d0 d3 d4 d7 d10 (hout _) (by show 1 + 4 < _; omega) (by show _ + (13 * (1 + 2) + 43) ≤ _; omega) hRc hRs hlocks hx hf hc hs
theorem gv_hand_some : ∀ (l : List (Nat × Nat × Nat × Nat × Nat)) (pc e h : Nat), gv_hand l pc e = some h → ∃ pre r suf, l = pre ++ r :: suf ∧ r.2.2.1 = h ∧ r.1 ≤ pc ∧ pc < r.2.1 ∧ r.2.2.2.2 = e ∧ ∀ z ∈ pre, ¬ (z.1 ≤ pc ∧ pc < z.2.1) ∨ z.2.2.2.2 ≠ e
  | [], pc, e, h, hh => nomatch hh
  | (a, b, hp, ci, x) :: r, pc, e, h, hh => by
    unfold gv_hand at hh
    cases hc : (Nat.ble a pc && Nat.blt pc b && Nat.beq x e) with
    | true =>
      rw [hc] at hh
      cases hh
      simp only [Bool.and_eq_true] at hc
      exact ⟨[], _, r, rfl, rfl, Nat.le_of_ble_eq_true hc.1.1, Nat.le_of_ble_eq_true hc.1.2, Nat.eq_of_beq_eq_true hc.2, fun z hz => nomatch hz⟩
    | false =>
      rw [hc] at hh
      obtain ⟨pre, y, suf, h1, h2, h3, h4, h5, h6⟩ := gv_hand_some r pc e h hh
      refine ⟨(a, b, hp, ci, x) :: pre, y, suf, by rw [h1]; rfl, h2, h3, h4, h5, fun z hz => ?_⟩
      rcases List.mem_cons.mp hz with rfl | hz
      · by_cases hcov : a ≤ pc ∧ pc < b
        · refine Or.inr fun hx => ?_
          have hx : x = e := hx
          subst hx
          rw [show Nat.ble a pc = true from Nat.ble_eq_true_of_le hcov.1, show Nat.blt pc b = true from Nat.ble_eq_true_of_le hcov.2, show Nat.beq x x = true from Nat.beq_refl x] at hc
          cases hc
        · exact Or.inl hcov
      · exact h6 z hz
set_option maxHeartbeats 4000000 in
/-- handlers -/
theorem gv_catches (l : Launch) (X : gv_X) (base : Nat) (ex adV : Nat → Nat) : gv_rCa l gv_Ts (gv_Ext X base ex adV) gv_exn gv_hnds := by
  intro p e R s m args below meth c M H locs ls pc x h r ce q Q cells slots C hTb hE hhn hh hce hcv hcl K
  obtain ⟨hx0, hb, hml, hown, hts, hr, hlocks, hnm⟩ := C
  obtain ⟨pre, y, suf, h1, h2, h3, h4, h5, h6⟩ := gv_hand_some _ _ _ _ hh
  have ent : ∀ z ∈ M.2.2.2.2.1, z.2.2.2.2 < 4 ∧ z.2.2.2.1 ≠ 0 ∧ (Cond.classLink (gv_own M) z.2.2.2.1 (gv_exn z.2.2.2.2)).before args s = true := by
    intro z hz
    have hm := hhn z hz
    have hk := List.all_eq_true.mp gv_hnds_ok _ hm
    simp only [Bool.and_eq_true, Bool.not_eq_true'] at hk
    refine ⟨Nat.le_of_ble_eq_true hk.1, fun z0 => ?_, gv_Xw_use hE (List.mem_append_right _ (List.mem_append_left _ (List.mem_map.mpr ⟨_, hm, rfl⟩)))⟩
    have hk2 := hk.2
    rw [z0] at hk2
    cases hk2
  have hy : y ∈ M.2.2.2.2.1 := by rw [h1]; exact List.mem_append_right _ List.mem_cons_self
  obtain ⟨y1, y2, y3⟩ := ent y hy
  subst h5
  have hcast : (Cond.castable (gv_exn y.2.2.2.2) (gv_exn y.2.2.2.2)).before args s = true := by
    refine gv_Xw_use hE (List.mem_append_right _ (List.mem_append_right _ (List.mem_map.mpr ⟨y.2.2.2.2, ?_, rfl⟩)))
    have : ∀ k, k < 4 → k ∈ [0, 1, 2, 3] := by decide
    exact this _ y1
  refine vx_catch (E := gv_exn y.2.2.2.2) (name := gv_exn y.2.2.2.2) hown (tableOf (pre.map fun x => (x.1, x.2.1, x.2.2.1, x.2.2.2.1))) ⟨y.1, y.2.1, y.2.2.1, y.2.2.2.1⟩ (tableOf (suf.map fun x => (x.1, x.2.1, x.2.2.1, x.2.2.2.1))) ?_ ?_ ?_ y2 y3 hcast hce hcv hcl ?_
  · rw [hTb]
    unfold gv_h4
    rw [h1]
    simp only [tableOf, List.map_append, List.map_cons]
  · intro z hz
    obtain ⟨z1, hz1, rfl⟩ := List.mem_map.mp hz
    obtain ⟨z2, hz2, rfl⟩ := List.mem_map.mp hz1
    have hz3 : z2 ∈ M.2.2.2.2.1 := by rw [h1]; exact List.mem_append_left _ hz2
    obtain ⟨w1, w2, w3⟩ := ent z2 hz3
    rcases h6 z2 hz2 with hn | hn
    · refine Or.inl ?_
      show (decide (z2.1 ≤ pc) && decide (pc < z2.2.1)) = false
      cases hd : (decide (z2.1 ≤ pc) && decide (pc < z2.2.1)) with
      | false => rfl
      | true =>
        simp only [Bool.and_eq_true, decide_eq_true_eq] at hd
        exact absurd hd hn
    · exact Or.inr ⟨w2, gv_exn z2.2.2.2.2, w3, hE.2.2.2.2.2.1 (y.2.2.2.2, z2.2.2.2.2) (gv_ncs_all _ y1 _ w1 (fun q => hn q.symm))⟩
  · show (decide (y.1 ≤ pc) && decide (pc < y.2.1)) = true
    rw [decide_eq_true h3, decide_eq_true h4]
    rfl
  · rw [← h2] at K
    exact K
