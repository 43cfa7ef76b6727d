section Sound
variable {l : Launch} {fk : List (List Nat)} {cl : List vw_C} {D : va_G} {ta : Nat → ClassId} {base : Nat} {ex : Nat → Nat} {P : Nat → gv_Mt} {Ts : List Cond} {Ext : State → Prop} {exn : Nat → String}
variable {tf : Nat → Nat → FieldType} {tx : List (List Int32)} {X : gv_X} {nests : List (String × Nat × MethodName × String)} {strs : List (String × Nat × String × Nat)} {thrs : List (String × Nat × Nat × Nat × Nat × String)} {hnds : List (String × Nat × Nat)}
set_option maxHeartbeats 4000000 in
set_option maxRecDepth 100000 in
theorem gv_sound (hOK : ∀ k, gv_okM cl fk tf P Ts nests strs thrs hnds (P k)) (hgood : ∀ w ∈ Ts, (w.onTables && w.keeps) = true ∨ ∃ ty, w = .arrayClass ty) (hE1 : ∀ U, Ext U → gv_Ex1 X base ex nests strs U)
    (hE2 : ∀ s U, Ext s → s.heap.size ≤ U.heap.size → (∀ q, q < s.heap.size → ¬ base ≤ q → U.heap[q]? = s.heap[q]?) → s.WarmedH U.vm → Ext U)
    (rSL : gv_rSL l Ts tx base ex Ext) (rSC : gv_rSC l Ts tx base ex Ext) (rTh : gv_rTh l base Ts Ext exn thrs) (rCa : gv_rCa l Ts Ext exn hnds) :
    ∀ (n d : Nat) (M : gv_Mt) (pc : Nat) (lo : gv_L) (st : List Value) (S : gv_S) (o : gv_O) (S' : gv_S), gv_okL cl fk tf P Ts nests strs thrs hnds M → gv_run fk tx P X n d M pc lo st S = some (o, S') → gv_claim l fk cl D ta base ex Ts Ext exn d M pc lo st S o S' := by
  intro n
  induction n with
  | zero => intro d M pc lo st S o S' _ h; cases h
  | succ n ih =>
    intro d M pc lo st S o S' hM h p e R s m args below meth c H locs ls c0 s0 n0 C hTb hE hbs hW hS hL hc0 hs0 hinv hRf hRl hRc hRs
    have hleq := gv_run_leq _ _ _ _ _ _ _ _ _ h
    refine gv_sized fun hup => ?_
    have hlow := gv_low hW.2.1 (Nat.le_trans hbs hS.1)
    have hsz : S.2.2.1 = 0 → H.size = base + S.1.1 := fun z => by
      obtain ⟨i1, i2⟩ := hinv z
      omega
    unfold gv_run at h
    cases hst : gv_step fk tx X M pc lo st S with
    | none => rw [hst] at h; cases h
    | some act =>
      rw [hst] at h
      have rule := gv_step_ok (p := p) (l := l) (e := e) (R := R) (below := below) (c0 := c0) (s0 := s0) hM hE1 rSL rSC C hE hW hS hL hc0 hs0 hsz (by omega) (by omega) hst
      rcases act with ⟨pc', lo', st', S1⟩ | ⟨b, t, f, st'⟩ | ⟨k', vf, as, rest⟩ | v | x
      · dsimp only at h
        have hl1 := gv_step_leq hst
        have hl2 := gv_run_leq _ _ _ _ _ _ _ _ _ h
        have q1 := hl2.1
        have q2 := hl2.2.1
        refine rule _ (by omega) (by omega) fun H' locs' ls' hW' hS' hL' => ?_
        exact ih d M pc' lo' st' S1 o S' hM h p e R s m args below meth c H' locs' ls' c0 s0 n0 C hTb hE hbs hW' hS' hL' (Nat.le_trans hc0 hl1.1) (Nat.le_trans hs0 hl1.2.1) (fun z => by
          obtain ⟨y1, y2⟩ := hl1.2.2.1 z
          obtain ⟨i1, i2⟩ := hinv y1
          exact ⟨by omega, i2⟩) hRf hRl hRc hRs
      · dsimp only at h
        refine rule _ _ _ (fun hb => ?_) (fun hb => ?_)
        · subst hb
          exact ih d M t lo st' S o S' hM h p e R s m args below meth c H locs ls c0 s0 n0 C hTb hE hbs hW hS hL hc0 hs0 hinv hRf hRl hRc hRs
        · subst hb
          exact ih d M f lo st' S o S' hM h p e R s m args below meth c H locs ls c0 s0 n0 C hTb hE hbs hW hS hL hc0 hs0 hinv hRf hRl hRc hRs
      · dsimp only at h
        cases d with
        | zero => cases h
        | succ d =>
          dsimp only at h
          cases hc : gv_gd (Nat.ble (gv_ent as).length (P k').2.2.1) (gv_run fk tx P X n d (P k') 0 (gv_enter as (P k').2.2.1) [] S) with
          | none => rw [hc] at h; cases h
          | some r =>
            obtain ⟨o1, S1⟩ := r
            rw [hc] at h
            obtain ⟨hlen, hc⟩ := gv_gd_some hc
            have hlen := Nat.le_of_ble_eq_true hlen
            have hl1 := gv_run_leq _ _ _ _ _ _ _ _ _ hc
            have hcl := ih d (P k') 0 (gv_enter as (P k').2.2.1) [] S o1 S1 (hOK k').1 hc
            have hgd : ∀ hw, hw ∈ Ts → ∀ w ∈ hw :: Ts, ∀ (a' : Array Value) (U : State), s.WarmedH U.vm → w.before a' U = true := by
              intro hw hh w hw2 a' U hWm
              have hin : w ∈ Ts := by
                rcases List.mem_cons.mp hw2 with rfl | z
                · exact hh
                · exact z
              exact word_at hWm (hgood w hin) (C.2.2.2.2.1 w hin)
            have hmax : (P k').2.2.1 ≤ 41 := (hOK k').1.2.2.2.2.2.2.2.1
            have hpre : ∀ U : State, U.heap = H → s.WarmedH U.vm → va_Pc (as.map (gv_cv base ex)) (gv_In fk cl D ta base Ext S) (as.map (gv_cv base ex)).toArray U := by
              intro U hU hWm
              refine ⟨rfl, hE2 s U hE (by rw [hU]; exact hS.1) (fun q h1 h2 => by rw [hU]; exact hS.2.1 q h1 h2) hWm, by rw [hU]; exact Nat.le_trans hbs hS.1, ?_, ?_⟩
              · rw [hU]
                exact ⟨va_K.moved hWm.alike hW.1, hW.2⟩
              · rw [hU]
                exact hsz
            have hfr : d + 8 + 1 ≤ R.frames := by omega
            have hlo : 8 + ((P k').2.2.1 + 11) + (60 * d + 200) ≤ R.locals := by omega
            have q1 := hl1.1
            have q2 := hl1.2.1
            rcases o1 with v | x
            · -- it returns
              dsimp only at h
              have hl2 := gv_run_leq _ _ _ _ _ _ _ _ _ h
              have q3 := hl2.1
              have q4 := hl2.2.1
              have hrun : va_Run p l e R s m args below meth c H locs (S.2.2.2.1 - c0) (S.2.2.2.2 - s0) (S1.2.2.2.1 - S.2.2.2.1) (S1.2.2.2.2 - S.2.2.2.2) (F0 m pc ls (st.map (gv_cv base ex))) (rest.map (gv_cv base ex)) (gv_Q fk cl D ta base ex (.inl v) S1 (as.map (gv_cv base ex)).toArray) (fun q : Nat => base ≤ q) := by
                by_cases hh : (P k').2.2.2.2.1 = []
                · exact rule.1 Ts _ _ _ _ _ _ _ _ hh (gv_met_of (gv_contract (hOK k') hcl hlen _ (Or.inl ⟨rfl, hh⟩)) (fun E st t z => by obtain ⟨⟨k, z, -⟩, -⟩ := z; cases z)) rfl rfl hfr hlo (hgd _ ((hOK k').2.1 hh)) (gv_In_blind hE2) hpre ⟨by omega, by omega⟩
                · exact rule.2.2 Ts _ _ _ _ _ _ _ _ hh (gv_met_of (gv_contract (hOK k') hcl hlen _ (Or.inr ⟨rfl, hh⟩)) (fun E st t z => by obtain ⟨⟨k, z, -⟩, -⟩ := z; cases z)) rfl rfl hfr hlo (hgd _ ((hOK k').2.2 hh)) (gv_In_blind hE2) hpre ⟨by omega, by omega⟩
              refine gv_back hrun hS (fun q z => z) (fun st v t z => z.2.2.2) fun v2 st2 t H1 locs1 e1 e2 hWm hq hS1 => ?_
              obtain ⟨⟨v3, hv3, hv4⟩, hW1, hz1, -⟩ := hq
              cases hv3
              cases hv4
              subst e2
              have hW1' : gv_Wd fk cl D ta base S1 s t.heap := ⟨va_K.moved hWm.alike.symm hW1.1, hW1.2⟩
              have hst2 : (v.map (gv_cv base ex)).toList ++ rest.map (gv_cv base ex) = (v.toList ++ rest).map (gv_cv base ex) := by cases v <;> rfl
              have g0 := ih (d + 1) M (pc + 3) lo (v.toList ++ rest) S1 o S' hM h p e R s m args below meth c t.heap locs1 ls c0 s0 n0 C hTb hE hbs hW1' hS1 hL (by omega) (by omega) (fun z => by
                obtain ⟨y1, y2⟩ := hl1.2.2.1 z
                obtain ⟨i1, i2⟩ := hinv y1
                exact ⟨by omega, i2⟩) hRf hRl hRc hRs
              rw [show S.2.2.2.1 - c0 + (S1.2.2.2.1 - S.2.2.2.1) = S1.2.2.2.1 - c0 by omega, show S.2.2.2.2 - s0 + (S1.2.2.2.2 - S.2.2.2.2) = S1.2.2.2.2 - s0 by omega]
              rw [hst2]
              exact g0
            · -- it throws
              dsimp only at h
              cases vf with
              | false => cases h
              | true =>
                dsimp only at h
                by_cases hh : (P k').2.2.2.2.1 = []
                · have q3 : S1.2.2.2.1 ≤ S'.2.2.2.1 ∧ S1.2.2.2.2 ≤ S'.2.2.2.2 := by
                    split at h
                    · split at h
                      · cases h; exact ⟨Nat.le_refl _, Nat.le_refl _⟩
                      · cases h
                    · split at h
                      · cases h
                      · have := gv_run_leq _ _ _ _ _ _ _ _ _ h
                        exact ⟨this.1, this.2.1⟩
                  have hrun := rule.2.1 rfl Ts _ _ _ (S.2.2.2.1 - c0) (S.2.2.2.2 - s0) _ _ _ _ hh (gv_contract (hOK k') hcl hlen _ (Or.inl ⟨rfl, hh⟩)) rfl rfl hfr hlo (hgd _ ((hOK k').2.1 hh)) (gv_In_blind hE2) hpre ⟨by have := q3.1; omega, by have := q3.2; omega⟩
                  refine gv_backX hrun hS (fun q z => z) (fun st o t z => by obtain ⟨⟨v, z, -⟩, -⟩ := z; cases z) (fun E st t z => z.2.2) fun E ce q9 st2 t H1 locs1 e1 e2 hWm hq hS1 hce hcv hcl2 => ?_
                  obtain ⟨⟨x2, hx2, rfl⟩, hW1, -⟩ := hq
                  cases hx2
                  subst e2
                  have hW1' : gv_Wd fk cl D ta base S1 s t.heap := ⟨va_K.moved hWm.alike.symm hW1.1, hW1.2⟩
                  rw [show S.2.2.2.1 - c0 + (S1.2.2.2.1 - S.2.2.2.1) = S1.2.2.2.1 - c0 by omega, show S.2.2.2.2 - s0 + (S1.2.2.2.2 - S.2.2.2.2) = S1.2.2.2.2 - s0 by omega]
                  cases hhd : gv_hand M.2.2.2.2.1 pc x with
                  | none =>
                    rw [hhd] at h
                    dsimp only at h
                    split at h
                    · rename_i hnil
                      cases h
                      refine vx_out ?_ C.2.2.2.2.2.2.1 hce hcv hcl2 (fun t2 ht2 hal => ⟨⟨x, rfl, rfl⟩, ⟨va_K.moved hal hW1'.1, by rw [ht2]; exact hW1'.2.1, hW1'.2.2⟩, by
                        refine ⟨by rw [ht2]; exact hS1.1, fun q a1 a2 => by rw [ht2]; exact hS1.2.1 q a1 a2⟩⟩) hS1.2.2 (Nat.le_refl _) (Nat.le_refl _)
                      intro y hy
                      rw [hTb] at hy
                      unfold gv_h4 at hy
                      rw [hnil] at hy
                      cases hy
                    · cases h
                  | some hp =>
                    rw [hhd] at h
                    dsimp only at h
                    refine rCa p e R s m args below meth c M t.heap locs1 ls pc x hp _ ce q9 _ _ _ C hTb hE hM.2.2.2.2.2.2.2.2.2.1 hhd hce hcv hcl2 ?_
                    cases hct : gv_caught M hp lo with
                    | none => rw [hct] at h; cases h
                    | some y =>
                      obtain ⟨pc', lo'⟩ := y
                      rw [hct] at h
                      dsimp only at h
                      have hl2 := gv_run_leq _ _ _ _ _ _ _ _ _ h
                      have fin : ∀ ls', gv_Lo base ex ls' M.2.2.1 lo' → W p l e R s m args below meth c t.heap locs1 (S1.2.2.2.1 - c0) (S1.2.2.2.2 - s0) (vx_MQ below (gv_Q fk cl D ta base ex o S') (gv_XQ fk cl D ta base exn o S') args s (S'.2.2.2.1 - c0) (S'.2.2.2.2 - s0) (fun q : Nat => base ≤ q)) (F0 m pc' ls' []) := fun ls' hL' =>
                        ih (d + 1) M pc' lo' [] S1 o S' hM h p e R s m args below meth c t.heap locs1 ls' c0 s0 n0 C hTb hE hbs hW1' hS1 hL' (by omega) (by omega) (fun z => by
                          obtain ⟨y1, y2⟩ := hl1.2.2.1 z
                          obtain ⟨i1, i2⟩ := hinv y1
                          exact ⟨by omega, i2⟩) hRf hRl hRc hRs
                      have ok := hM.1 hp
                      unfold gv_caught at hct
                      unfold gv_okE at ok
                      rcases hEq : M.2.2.2.2.2 hp with ⟨i, a, b, z⟩
                      rw [hEq] at hct ok
                      cases i with
                      | astore_n j =>
                        obtain ⟨g1, g2, g3⟩ := gv_sto_some hct
                        cases g3
                        exact lv_astore_n C.1 C.2.1 ok rfl hL.has (by rw [← hL.1]; exact g2) rfl (fun ls' hl' => fin ls' (hL.no g1 hl' g2))
                      | astore j =>
                        obtain ⟨g1, g2, g3⟩ := gv_sto_some hct
                        cases g3
                        exact lv_astore C.1 C.2.1 ok hL.has (by rw [← hL.1]; exact g2) rfl (fun ls' hl' => fin ls' (hL.no g1 hl' g2))
                      | _ => cases hct
                · exfalso
                  exact hh (gv_vhh hst hM)
      · dsimp only at h
        cases h
        exact vx_ret (rule _ _ _ _ (fun t ht hWm => ⟨⟨v, rfl, rfl⟩, ⟨va_K.moved hWm.alike hW.1, by rw [ht]; exact hW.2.1, hW.2.2⟩, fun z => by rw [ht]; exact hsz z, ⟨by rw [ht]; exact hS.1, fun q a1 a2 => by rw [ht]; exact hS.2.1 q a1 a2⟩⟩) hS.2.2)
      · dsimp only at h
        cases h
        obtain ⟨i, a, b, z, hEq, ha, rfl, hcat⟩ := gv_thr_inv hst
        have q1 : (gv_ex S).2.2.2.1 = S.2.2.2.1 + 1 := rfl
        have q2 : (gv_ex S).2.2.2.2 = S.2.2.2.2 + 6 := rfl
        exact rTh p e R s m args below meth c M H locs ls pc i a b z _ _ _ _ _ _ _ C hTb hE hS hL.2.1 (by omega) (by omega) hEq ha (hM.2.2.2.2.2.2.2.2.1 _ _ _ _ _ hEq ha) (by rw [gv_cat_map]; exact hcat) (by omega) (by omega) (fun t hal h1 h2 => ⟨⟨_, rfl, rfl⟩, ⟨va_K.moved hal hW.1, hW.2.1.kept fun kk q hq => h2 q.1 (hW.2.1 kk q hq).lt, hW.2.2⟩, ⟨Nat.le_trans hS.1 h1, fun q a1 a2 => (h2 q (Nat.lt_of_lt_of_le a1 hS.1)).trans (hS.2.1 q a1 a2)⟩⟩) hS.2.2 (by omega) (by omega)
end Sound
