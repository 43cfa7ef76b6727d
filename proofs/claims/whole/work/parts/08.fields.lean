/-- the cell of a place, by its kind -/
theorem gv_cell_obj {fk : List (List Nat)} {ta : Nat → ClassId} {base : Nat} {S : gv_S} {q a : Nat} (h : (S.1.2.1 q).1 = a) (ha : a < 50) : gv_cell fk ta base S q = .inr (a, gv_fs fk base S q a) := by
  subst h
  unfold gv_cell
  rw [if_pos ha]
theorem gv_cell_num {fk : List (List Nat)} {ta : Nat → ClassId} {base : Nat} {S : gv_S} {q a : Nat} (h : (S.1.2.1 q).1 = a) (ha : a = 100 ∨ a = 101) : gv_cell fk ta base S q = .inl (ta a, (S.1.2.1 q).2, .inl (S.2.1.1 q)) := by
  subst h
  unfold gv_cell
  rw [if_neg (by omega), if_neg (by omega), if_neg (by omega)]
theorem gv_cell_long {fk : List (List Nat)} {ta : Nat → ClassId} {base : Nat} {S : gv_S} {q : Nat} (h : (S.1.2.1 q).1 = 102) : gv_cell fk ta base S q = .inl (ta 102, (S.1.2.1 q).2, .inr (.inl (S.2.1.2 q))) := by
  unfold gv_cell
  rw [h, if_neg (by omega), if_pos rfl]
theorem gv_cell_refs {fk : List (List Nat)} {ta : Nat → ClassId} {base : Nat} {S : gv_S} {q : Nat} (h : (S.1.2.1 q).1 = 103) : gv_cell fk ta base S q = .inl (ta 103, (S.1.2.1 q).2, .inr (.inr (.inr (.inr (fun i => (S.1.2.2 q i).map fun t => base + t))))) := by
  unfold gv_cell
  rw [h, if_neg (by omega), if_neg (by omega), if_pos rfl]
/-- a number of a place is set -/
theorem gv_setI_o {fk : List (List Nat)} {ta : Nat → ClassId} {base : Nat} {S : gv_S} {q k : Nat} {v : Int32} (a : Nat) (ha : a ≠ q) : gv_cell fk ta base (gv_setI S q k v) a = gv_cell fk ta base S a := gv_cell_congr rfl rfl (gu_ne ha) rfl
theorem gv_setJ_o {fk : List (List Nat)} {ta : Nat → ClassId} {base : Nat} {S : gv_S} {q k : Nat} {v : Int64} (a : Nat) (ha : a ≠ q) : gv_cell fk ta base (gv_setJ S q k v) a = gv_cell fk ta base S a := gv_cell_congr rfl rfl rfl (gu_ne ha)
theorem gv_setP_o {fk : List (List Nat)} {ta : Nat → ClassId} {base : Nat} {S : gv_S} {q k : Nat} {v : Option Nat} (a : Nat) (ha : a ≠ q) : gv_cell fk ta base (gv_setP S q k v) a = gv_cell fk ta base S a := gv_cell_congr rfl (gu_ne ha) rfl rfl
theorem gv_row_o {fk : List (List Nat)} {ta : Nat → ClassId} {base : Nat} {S : gv_S} {q : Nat} {f : Nat → Int32} (a : Nat) (ha : a ≠ q) : gv_cell fk ta base (gv_row S q f) a = gv_cell fk ta base S a := gv_cell_congr rfl rfl (gw_ne ha) rfl
section Step
variable {p : Program} {l : Launch} {e : Env} {R : Room} {s : State} {m : MethodId} {args : Array Value} {below : List Frame} {meth : Method} {c : Code}
variable {fk : List (List Nat)} {cl : List vw_C} {D : va_G} {ta : Nat → ClassId} {base : Nat} {ex : Nat → Nat} {P : Nat → gv_Mt} {Ts : List Cond} {M : gv_Mt} {tf : Nat → Nat → FieldType} {tx : List (List Int32)} {X : gv_X}
set_option maxHeartbeats 4000000 in
set_option maxRecDepth 100000 in
/-- fields -/
theorem gv_step_fields (C : gv_Cx p s m args meth c M Ts) {pc : Nat} (ok : gv_okE cl fk tf P Ts M pc) {H : Heap} {locs : List Loc} {c0 s0 : Nat} {ls : Array Slot} {lo : gv_L} {st : List Value} {S : gv_S} (hW : gv_Wd fk cl D ta base S s H) (hS : va_S (fun q : Nat => base ≤ q) s.heap H locs) (hL : gv_Lo base ex ls M.2.2.1 lo) {act : gv_A} (h : gv_step fk tx X M pc lo st S = some act)
    (hi : ∀ i a b k, M.2.2.2.2.2 pc = (i, a, b, k) → match i with
      | .getfield _ | .putfield _ => True
      | _ => False) :
    gv_rule p l e R s m args below meth c fk cl D ta base ex P H locs c0 s0 ls M.2.2.1 lo S (F0 m pc ls (st.map (gv_cv base ex))) act := by
  obtain ⟨hx, hb, hml, hown, hts, hr, hlocks, hnm⟩ := C
  unfold gv_step at h
  unfold gv_okE at ok
  rcases hE : M.2.2.2.2.2 pc with ⟨i, a, b, k⟩
  have hi := hi i a b k hE
  rw [hE] at h ok
  cases i with
  | getfield n =>
    obtain ⟨q, r, rfl, g⟩ := gv_pr_some h
    obtain ⟨g1, g2⟩ := gv_gd_some g
    have hk : (S.1.2.1 q).1 = a := Nat.eq_of_beq_eq_true g1
    obtain ⟨hd, ha, ⟨Cn, T, N⟩, hc, hbN, hlen, hlink, hin⟩ := ok
    dsimp only at hbN hlen hlink hin
    have hq : q < S.1.1 := hW.lt hk (by omega)
    have he : (gv_pic fk ta base S)[q]? = some (base + q, .inr (a, gv_fs fk base S q a)) := by rw [gv_pic_at hq, gv_cell_obj hk ha]
    have hv : (gv_fs fk base S q a)[b]? = some (gv_fv fk base S q a b) := gv_fs_at (by rw [hlen]; exact hbN)
    have key : ∀ (v : Value), gv_fv fk base S q a b = v → ∀ (Q : State → Prop) (k0 n0 : Nat), W p l e R s m args below meth c H locs k0 n0 Q (F0 m (pc + 3) ls (v :: r.map (gv_cv base ex))) → W p l e R s m args below meth c H locs k0 n0 Q (F0 m pc ls (.ref (base + q) :: r.map (gv_cv base ex))) := by
      intro v hv2 Q k0 n0 K
      exact va_get (ci := a) (C := Cn) (T := T) (N := N) hx hb hts hin hown hW.1 hW.2.1 q he hc b hbN (hts _ hlink) (fun _ z => z) (hv2 ▸ hv) hd K
    have int : gv_fk fk a b ≠ 2 → gv_fv fk base S q a b = .int (S.2.1.1 q b) := fun z => by unfold gv_fv; rw [if_neg z]
    split at g2
    · rename_i hf
      split at g2
      · rename_i t ht
        obtain rfl := gv_go_some g2
        exact fun Q _ _ K => key (.ref (base + t)) (by unfold gv_fv; rw [if_pos hf, ht]; rfl) Q _ _ (K H locs ls hW hS hL)
      · cases g2
    · cases g2
    · rename_i hf _
      obtain rfl := gv_go_some g2
      exact fun Q _ _ K => key _ (int hf) Q _ _ (K H locs ls hW hS hL)
  | putfield n =>
    obtain ⟨hd, ha, ⟨Cn, T, N⟩, hc, hbN, hlen, hlink, hin, hty, hnmT, hfi, hi0, hi1, hi2⟩ := ok
    dsimp only at hbN hlen hlink hin hty hnmT hfi
    dsimp only at h
    split at h
    · rename_i hf
      obtain ⟨x, r1, rfl, g⟩ := gv_pi_some h
      obtain ⟨q, r, rfl, g1⟩ := gv_pr_some g
      obtain ⟨g2, g3⟩ := gv_gd_some g1
      obtain rfl := gv_go_some g3
      have hk : (S.1.2.1 q).1 = a := Nat.eq_of_beq_eq_true g2
      have hq : q < S.1.1 := hW.lt hk (by omega)
      have he : (gv_pic fk ta base S)[q]? = some (base + q, .inr (a, gv_fs fk base S q a)) := by rw [gv_pic_at hq, gv_cell_obj hk ha]
      have hl2 : b < (gv_fs fk base S q a).length := by rw [gv_fs_len, hlen]; exact hbN
      exact fun Q _ _ K => by
        have hk2 : ∀ (H1 : Heap) (locs1 : List Loc), va_P D cl ((gv_pic fk ta base S).set q (base + q, .inr (a, (gv_fs fk base S q a).set b (.int x)))) H1 → va_D (fun q : Nat => base ≤ q) ((gv_pic fk ta base S).set q (base + q, .inr (a, (gv_fs fk base S q a).set b (.int x)))) → va_S (fun q : Nat => base ≤ q) s.heap H1 locs1 → W p l e R s m args below meth c H1 locs1 (S.2.2.2.1 - c0) (S.2.2.2.2 - s0) Q (F0 m (pc + 3) ls (r.map (gv_cv base ex))) := fun H1 locs1 hP1 _ hS1 => K H1 locs1 ls (hW.set hP1 (by rw [gv_cell_obj (S := gv_setI S q b x) hk ha, gv_fs_setI (by rw [hf]; omega)]) gv_setI_o rfl rfl) hS1 hL
        cases hfin : (T b).2.2.2 with
        | false => exact va_put (ci := a) (C := Cn) (T := T) (N := N) (ty := tf a b) hx hb hts hin (tf a) hty hnmT hown hW.1 hW.2.1 gv_pic_D hS q he hc b hbN (hts _ hlink) (fun _ z => z) hfin (hty b hbN) (by rw [hi0 hf]; rfl) (by rw [hi0 hf]; rfl) hl2 hd hk2
        | true => exact va_putF (ci := a) (C := Cn) (T := T) (N := N) (ty := tf a b) hx hb hts hin (tf a) hty hnmT hown hW.1 hW.2.1 gv_pic_D hS q he hc b hbN (hts _ hlink) (fun _ z => z) hfin (hnm.trans (hfi hfin).1) (hfi hfin).2 (hty b hbN) (by rw [hi0 hf]; rfl) (by rw [hi0 hf]; rfl) hl2 hd hk2
    · rename_i hf
      obtain ⟨x, r1, rfl, g⟩ := gv_pi_some h
      obtain ⟨q, r, rfl, g1⟩ := gv_pr_some g
      obtain ⟨g2, g3⟩ := gv_gd_some g1
      obtain rfl := gv_go_some g3
      simp only [Bool.and_eq_true, Bool.or_eq_true, decide_eq_true_eq] at g2
      have hz := g2.2
      have hk : (S.1.2.1 q).1 = a := Nat.eq_of_beq_eq_true g2.1
      have hq : q < S.1.1 := hW.lt hk (by omega)
      have he : (gv_pic fk ta base S)[q]? = some (base + q, .inr (a, gv_fs fk base S q a)) := by rw [gv_pic_at hq, gv_cell_obj hk ha]
      have hl2 : b < (gv_fs fk base S q a).length := by rw [gv_fs_len, hlen]; exact hbN
      exact fun Q _ _ K => by
        have hk2 : ∀ (H1 : Heap) (locs1 : List Loc), va_P D cl ((gv_pic fk ta base S).set q (base + q, .inr (a, (gv_fs fk base S q a).set b (.int x)))) H1 → va_D (fun q : Nat => base ≤ q) ((gv_pic fk ta base S).set q (base + q, .inr (a, (gv_fs fk base S q a).set b (.int x)))) → va_S (fun q : Nat => base ≤ q) s.heap H1 locs1 → W p l e R s m args below meth c H1 locs1 (S.2.2.2.1 - c0) (S.2.2.2.2 - s0) Q (F0 m (pc + 3) ls (r.map (gv_cv base ex))) := fun H1 locs1 hP1 _ hS1 => K H1 locs1 ls (hW.set hP1 (by rw [gv_cell_obj (S := gv_setI S q b x) hk ha, gv_fs_setI (by rw [hf]; omega)]) gv_setI_o rfl rfl) hS1 hL
        cases hfin : (T b).2.2.2 with
        | false => exact va_put (ci := a) (C := Cn) (T := T) (N := N) (ty := tf a b) hx hb hts hin (tf a) hty hnmT hown hW.1 hW.2.1 gv_pic_D hS q he hc b hbN (hts _ hlink) (fun _ z => z) hfin (hty b hbN) (by rw [hi1 hf]; rcases hz with rfl | rfl <;> rfl) (by rw [hi1 hf]; rcases hz with rfl | rfl <;> rfl) hl2 hd hk2
        | true => exact va_putF (ci := a) (C := Cn) (T := T) (N := N) (ty := tf a b) hx hb hts hin (tf a) hty hnmT hown hW.1 hW.2.1 gv_pic_D hS q he hc b hbN (hts _ hlink) (fun _ z => z) hfin (hnm.trans (hfi hfin).1) (hfi hfin).2 (hty b hbN) (by rw [hi1 hf]; rcases hz with rfl | rfl <;> rfl) (by rw [hi1 hf]; rcases hz with rfl | rfl <;> rfl) hl2 hd hk2
    · rename_i hf
      obtain ⟨x, r1, rfl, g⟩ := gv_pr_some h
      obtain ⟨q, r, rfl, g1⟩ := gv_pr_some g
      obtain ⟨g2, g3⟩ := gv_gd_some g1
      obtain rfl := gv_go_some g3
      have hk : (S.1.2.1 q).1 = a := Nat.eq_of_beq_eq_true g2
      have hq : q < S.1.1 := hW.lt hk (by omega)
      have he : (gv_pic fk ta base S)[q]? = some (base + q, .inr (a, gv_fs fk base S q a)) := by rw [gv_pic_at hq, gv_cell_obj hk ha]
      have hl2 : b < (gv_fs fk base S q a).length := by rw [gv_fs_len, hlen]; exact hbN
      exact fun Q _ _ K => by
        have hk2 : ∀ (H1 : Heap) (locs1 : List Loc), va_P D cl ((gv_pic fk ta base S).set q (base + q, .inr (a, (gv_fs fk base S q a).set b (.ref (base + x))))) H1 → va_D (fun q : Nat => base ≤ q) ((gv_pic fk ta base S).set q (base + q, .inr (a, (gv_fs fk base S q a).set b (.ref (base + x))))) → va_S (fun q : Nat => base ≤ q) s.heap H1 locs1 → W p l e R s m args below meth c H1 locs1 (S.2.2.2.1 - c0) (S.2.2.2.2 - s0) Q (F0 m (pc + 3) ls (r.map (gv_cv base ex))) := fun H1 locs1 hP1 _ hS1 => K H1 locs1 ls (hW.set hP1 (by rw [gv_cell_obj (S := gv_setP S q b (some x)) hk ha, gv_fs_setP hf]) gv_setP_o rfl rfl) hS1 hL
        cases hfin : (T b).2.2.2 with
        | false => exact va_put (ci := a) (C := Cn) (T := T) (N := N) (ty := tf a b) hx hb hts hin (tf a) hty hnmT hown hW.1 hW.2.1 gv_pic_D hS q he hc b hbN (hts _ hlink) (fun _ z => z) hfin (hty b hbN) (by rcases hi2 hf with ⟨z, hz⟩ | ⟨z, hz⟩ <;> rw [hz] <;> rfl) (by rcases hi2 hf with ⟨z, hz⟩ | ⟨z, hz⟩ <;> rw [hz] <;> rfl) hl2 hd hk2
        | true => exact va_putF (ci := a) (C := Cn) (T := T) (N := N) (ty := tf a b) hx hb hts hin (tf a) hty hnmT hown hW.1 hW.2.1 gv_pic_D hS q he hc b hbN (hts _ hlink) (fun _ z => z) hfin (hnm.trans (hfi hfin).1) (hfi hfin).2 (hty b hbN) (by rcases hi2 hf with ⟨z, hz⟩ | ⟨z, hz⟩ <;> rw [hz] <;> rfl) (by rcases hi2 hf with ⟨z, hz⟩ | ⟨z, hz⟩ <;> rw [hz] <;> rfl) hl2 hd hk2
    · cases h
  | _ => exact hi.elim
end Step
