/-! boot, image, acts -/
theorem evm {X : gv_X} {d : Nat} {M : gv_Mt} {pc : Nat} {lo : gv_L} {st : List Value} {P : gv_O × gv_S → Prop} {G : gv_Sh} {A B : Nat → Nat → Nat} {j : Nat → Nat → Int64} {cc : gv_Rs} (h : A = B) (k : EvP X d M pc lo st (G, (mI B, j), cc) P) : EvP X d M pc lo st (G, (mI A, j), cc) P := by rw [h]; exact k
theorem gu_gwr (A : Nat → Nat → Nat) (q n v : Nat) (f : Nat → Nat) : gu (gw A q f) q n v = gw A q (fun i => if i = n then v else f i) := by rw [gu_gw, gw_gw, gw_at]
theorem gu_ro {A : Nat → Nat → Nat} {q n v p : Nat} (h : p ≠ q) : gu A q n v p = A p := gu_row h
theorem cp_s {B : Nat → Nat → Nat} {q s : Nat} {g : Nat → Nat} {k : Nat} (hs : s ≠ q) : gu (gw B q (cpN (B s) g k)) q k (gw B q (cpN (B s) g k) s k) = gw B q (cpN (B s) g (k + 1)) := by
  rw [gw_q hs rfl, cpN_s]
theorem cp_0 (B : Nat → Nat → Nat) (q : Nat) (f : Nat → Nat) : gw B q (cpN f (B q) 0) = B := by rw [cpN_0, gw_self]
/-- what boot lays at i -/
def boV (R : Nat → Nat) (i : Nat) : Nat := if (i - 102) % 13 = 2 then 1 else if (i - 102) % 13 < 5 then 0 else R (22 + ((i - 102) % 13 - 5))
def boN (R : Nat → Nat) (n : Nat) : Nat → Nat := fun i => if 102 ≤ i ∧ i < n then boV R i else R i
def boR (R : Nat → Nat) : Nat → Nat := boN R 128
theorem boN_0 (R : Nat → Nat) : boN R 102 = R := by funext i; unfold boN; rw [if_neg (by omega)]
theorem boN_s {A : Nat → Nat → Nat} {R : Nat → Nat} {n v : Nat} (hn : 102 ≤ n) (hv : v = boV R n) : gu (gw A 264 (boN R n)) 264 n v = gw A 264 (boN R (n + 1)) := by
  rw [gu_gwr]
  congr 1
  funext i
  unfold boN
  by_cases h : i = n
  · subst h; rw [if_pos rfl, if_pos (by omega), hv]
  · rw [if_neg h]
    by_cases h2 : 102 ≤ i ∧ i < n
    · rw [if_pos h2, if_pos (by omega)]
    · rw [if_neg h2, if_neg (by omega)]
/-- rows of the acts -/
def shN (f : Nat → Nat) (k : Nat) : Nat → Nat := fun i => if i < k then f (i + 368) else f i
theorem shN_0 (f : Nat → Nat) : shN f 0 = f := by funext i; unfold shN; rw [if_neg (by omega)]
theorem shN_s {B : Nat → Nat → Nat} {f : Nat → Nat} {k : Nat} : gu (gw B 268 (shN f k)) 268 k (gw B 268 (shN f k) 268 (k + 368)) = gw B 268 (shN f (k + 1)) := by
  rw [gu_gwr, gw_at]
  congr 1
  funext i
  unfold shN
  by_cases h : i = k
  · subst h; rw [if_pos rfl, if_neg (by omega), if_pos (by omega)]
  · rw [if_neg h]
    by_cases h2 : i < k
    · rw [if_pos h2, if_pos (by omega)]
    · rw [if_neg h2, if_neg (by omega)]
/-- an act is remembered -/
def rmb (A B : Nat → Nat → Nat) : Prop := B 263 7 = min 12 (A 263 7 + 1) ∧ (∀ i k, k < 368 → i + 1 < min 12 (A 263 7 + 1) → B 268 (368 * i + k) = A 268 (368 * (i + (A 263 7 + 1 - min 12 (A 263 7 + 1))) + k)) ∧ ∀ k, k < 368 → B 268 (368 * (min 12 (A 263 7 + 1) - 1) + k) = A 264 k
def ofN (c : Nat) (R g : Nat → Nat) (k : Nat) : Nat → Nat := fun i => if c ≤ i ∧ i < c + k then R (i - c) else g i
theorem ofN_0 (c : Nat) (R g : Nat → Nat) : ofN c R g 0 = g := by funext i; unfold ofN; rw [if_neg (by omega)]
theorem ofN_s {B : Nat → Nat → Nat} {q c : Nat} {R g : Nat → Nat} {k v n : Nat} (hn : n = c + k) (hv : v = R k) : gu (gw B q (ofN c R g k)) q n v = gw B q (ofN c R g (k + 1)) := by
  subst hn hv
  rw [gu_gwr]
  congr 1
  funext i
  unfold ofN
  by_cases h : i = c + k
  · subst h; rw [if_pos rfl, if_pos (by omega), Nat.add_sub_cancel_left]
  · rw [if_neg h]
    by_cases h2 : c ≤ i ∧ i < c + k
    · rw [if_pos h2, if_pos (by omega)]
    · rw [if_neg h2, if_neg (by omega)]
theorem w211 {X : gv_X} {d : Nat} {G : gv_Sh} {A : Nat → Nat → Nat} {j : Nat → Nat → Int64} {cc : gv_Rs} {P : gv_O × gv_S → Prop}  (hp263 : oX12 G 263) (H : EvP X (d + 1) gvm_211 2 [some (.ref 263), some (.int (nI 0)), none] [] (G, (mI A, j), cc) P) : EvP X (d + 1) gvm_211 0 (gv_enter [.ref 263] 3) [] (G, (mI A, j), cc) P :=
  (pn_iconst rfl rfl   (pv_istore_n rfl rfl   H))
theorem w211_2 {X : gv_X} {d : Nat} {G : gv_Sh} {A : Nat → Nat → Nat} {j : Nat → Nat → Int64} {cc : gv_Rs} {P : gv_O × gv_S → Prop} {l1 : Nat} {l2 : Option Value} (hp263 : oX12 G 263) (H : (l1 < 2147483648) ∧ (((2 ≤ l1) → P (.inl none, (G, (mI A, j), cc))) ∧ ((l1 < 2) → EvP X (d + 1) gvm_211 9 [some (.ref 263), some (.int (nI l1)), some (.int (nI 0))] [] (G, (mI A, j), cc) P))) : EvP X (d + 1) gvm_211 2 [some (.ref 263), some (.int (nI l1)), l2] [] (G, (mI A, j), cc) P :=
  (pv_iload_n rfl rfl   (pn_iconst rfl rfl   (pn_ic_ge rfl H.1 (by decide) (fun c1 => (pv_vret rfl (H.2.1 c1))) (fun c1 => (pn_iconst rfl rfl   (pv_istore_n rfl rfl   (H.2.2 c1)))))))
theorem w211_9 {X : gv_X} {d : Nat} {G : gv_Sh} {A : Nat → Nat → Nat} {j : Nat → Nat → Int64} {cc : gv_Rs} {P : gv_O × gv_S → Prop} {l1 : Nat} {l2 : Nat} (hp263 : oX12 G 263) (H : (l2 < 2147483648) ∧ (((5 ≤ l2) → EvP X (d + 1) gvm_211 42 [some (.ref 263), some (.int (nI l1)), some (.int (nI 0))] [] (G, (mI A, j), cc) P) ∧ ((l2 < 5) → (l2 < 4294967296) ∧ (((¬ l2 = 2) → (((102 + (13 * l1)) + l2) < 2066) ∧ (EvP X (d + 1) gvm_211 9 [some (.ref 263), some (.int (nI l1)), some (.int (nI (l2 + 1)))] [] (G, (mI (gu A 264 ((102 + (13 * l1)) + l2) 0), j), cc) P)) ∧ ((l2 = 2) → (((102 + (13 * l1)) + l2) < 2066) ∧ (EvP X (d + 1) gvm_211 9 [some (.ref 263), some (.int (nI l1)), some (.int (nI (l2 + 1)))] [] (G, (mI (gu A 264 ((102 + (13 * l1)) + l2) 1), j), cc) P)))))) : EvP X (d + 1) gvm_211 9 [some (.ref 263), some (.int (nI l1)), some (.int (nI l2))] [] (G, (mI A, j), cc) P :=
  (pv_iload_n rfl rfl   (pn_iconst rfl rfl   (pn_ic_ge rfl H.1 (by decide) (fun c1 => (pn_iconst rfl rfl   (pv_istore_n rfl rfl   (H.2.1 c1)))) (fun c1 => (pv_aload_n rfl rfl   (pv_getP rfl rfl (oX12_k hp263) (oX12_1 hp263)   (pv_iload_n rfl rfl   (pv_iload_n rfl rfl   (pv_stat rfl rfl rfl rfl rfl rfl rfl rfl (r_guestAt (g := l1) (what := l2) (A := A)  ) (pv_iload_n rfl rfl   (pn_iconst rfl rfl   (pn_ic_ne rfl (H.2.2 c1).1 (by decide) (fun c2 => (pn_iconst rfl rfl   (pn_iast rfl (oX12_1c hp263) (by decide) ((H.2.2 c1).2.1 c2).1  (pn_iinc rfl rfl rfl rfl   (pv_goto rfl ((H.2.2 c1).2.1 c2).2))))) (fun c2 => (pn_iconst rfl rfl   (pv_goto rfl (pn_iast rfl (oX12_1c hp263) (by decide) ((H.2.2 c1).2.2 c2).1  (pn_iinc rfl rfl rfl rfl   (pv_goto rfl ((H.2.2 c1).2.2 c2).2))))))))))))))))))
theorem w211_42 {X : gv_X} {d : Nat} {G : gv_Sh} {A : Nat → Nat → Nat} {j : Nat → Nat → Int64} {cc : gv_Rs} {P : gv_O × gv_S → Prop} {l1 : Nat} {l2 : Nat} (hp263 : oX12 G 263) (H : (l2 < 2147483648) ∧ (((8 ≤ l2) → EvP X (d + 1) gvm_211 2 [some (.ref 263), some (.int (nI (l1 + 1))), some (.int (nI l2))] [] (G, (mI A, j), cc) P) ∧ ((l2 < 8) → ((22 + l2) < 2066) ∧ ((((102 + (13 * l1)) + (5 + l2)) < 2066) ∧ (EvP X (d + 1) gvm_211 42 [some (.ref 263), some (.int (nI l1)), some (.int (nI (l2 + 1)))] [] (G, (mI (gu A 264 ((102 + (13 * l1)) + (5 + l2)) (A 264 (22 + l2))), j), cc) P))))) : EvP X (d + 1) gvm_211 42 [some (.ref 263), some (.int (nI l1)), some (.int (nI l2))] [] (G, (mI A, j), cc) P :=
  (pv_iload_n rfl rfl   (pn_bipush rfl rfl   (pn_ic_ge rfl H.1 (by decide) (fun c1 => (pn_iinc rfl rfl rfl rfl   (pv_goto rfl (H.2.1 c1)))) (fun c1 => (pv_aload_n rfl rfl   (pv_getP rfl rfl (oX12_k hp263) (oX12_1 hp263)   (pv_iload_n rfl rfl   (pn_iconst rfl rfl   (pv_iload_n rfl rfl   (pn_iadd rfl   (pv_stat rfl rfl rfl rfl rfl rfl rfl rfl (r_guestAt (g := l1) (what := (5 + l2)) (A := A)  ) (pv_aload_n rfl rfl   (pv_getP rfl rfl (oX12_k hp263) (oX12_1 hp263)   (pn_bipush rfl rfl   (pv_iload_n rfl rfl   (pn_iadd rfl   (pn_iald rfl (oX12_1c hp263) (by decide) (H.2.2 c1).1 rfl (pn_iast rfl (oX12_1c hp263) (by decide) (H.2.2 c1).2.1  (pn_iinc rfl rfl rfl rfl   (pv_goto rfl (H.2.2 c1).2.2))))))))))))))))))))
theorem r_bothBoot_p {X : gv_X} {d : Nat} {G : gv_Sh} {A : Nat → Nat → Nat} {j : Nat → Nat → Int64} {cc : gv_Rs} {P : gv_O × gv_S → Prop}  (hp263 : oX12 G 263)  (hP : P (.inl none, (G, (mI (gw A 264 (boR (A 264))), j), cc))) : EvP X (d + 1) gvm_211 0 (gv_enter [.ref 263] 3) [] (G, (mI A, j), cc) P := by
  have L : ∀ g, g ≤ 2 → ∀ l2, EvP X (d + 1) gvm_211 2 [some (.ref 263), some (.int (nI g)), l2] [] (G, (mI (gw A 264 (boN (A 264) (102 + 13 * g))), j), cc) P := by
    refine up_ind 2 ?_ ?_
    · intro l2
      refine w211_2 hp263  ⟨by omega, ⟨fun c1 => ?_, fun c1 => ?_⟩⟩
      · exact hP
      · omega
    · intro g hg ih l2
      have L8 : ∀ k, k ≤ 8 → EvP X (d + 1) gvm_211 42 [some (.ref 263), some (.int (nI g)), some (.int (nI k))] [] (G, (mI (gw A 264 (boN (A 264) (102 + 13 * g + (5 + k)))), j), cc) P := by
        refine up_ind 8 ?_ ?_
        · refine w211_42 hp263  ⟨by omega, ⟨fun c1 => ?_, fun c1 => ⟨by omega, ⟨by omega, ?_⟩⟩⟩⟩
          · have := ih (some (.int (nI 8)))
            rw [show 102 + 13 * (g + 1) = 102 + 13 * g + (5 + 8) by omega] at this
            exact this
          · omega
        · intro k hk ih
          refine w211_42 hp263  ⟨by omega, ⟨fun c1 => ?_, fun c1 => ⟨by omega, ⟨by omega, ?_⟩⟩⟩⟩
          · omega
          · refine evm ?_ ih
            refine boN_s (by omega) ?_
            rw [gw_at]
            unfold boN boV
            rw [if_neg (by omega), if_neg (by omega), if_neg (by omega), show (102 + 13 * g + (5 + k) - 102) % 13 - 5 = k by omega]
      have L5 : ∀ k, k ≤ 5 → EvP X (d + 1) gvm_211 9 [some (.ref 263), some (.int (nI g)), some (.int (nI k))] [] (G, (mI (gw A 264 (boN (A 264) (102 + 13 * g + k))), j), cc) P := by
        refine up_ind 5 ?_ ?_
        · refine w211_9 hp263  ⟨by omega, ⟨fun c1 => ?_, fun c1 => ⟨by omega, ⟨fun c2 => ⟨by omega, ?_⟩, fun c2 => ⟨by omega, ?_⟩⟩⟩⟩⟩
          · exact L8 0 (by omega)
          · omega
          · omega
        · intro k hk ih
          refine w211_9 hp263  ⟨by omega, ⟨fun c1 => ?_, fun c1 => ⟨by omega, ⟨fun c2 => ⟨by omega, ?_⟩, fun c2 => ⟨by omega, ?_⟩⟩⟩⟩⟩
          · omega
          · refine evm ?_ ih
            refine boN_s (by omega) ?_
            unfold boV
            rw [if_neg (by omega), if_pos (by omega)]
          · refine evm ?_ ih
            refine boN_s (by omega) ?_
            unfold boV
            rw [if_pos (by omega)]
      refine w211_2 hp263  ⟨by omega, ⟨fun c1 => ?_, fun c1 => ?_⟩⟩
      · omega
      · exact L5 0 (by omega)
  refine w211 hp263 (evm ?_ (L 0 (by omega) none))
  rw [show 102 + 13 * 0 = 102 from rfl, boN_0, gw_self]
theorem r_bothBoot {X : gv_X} {d : Nat} {G : gv_Sh} {A : Nat → Nat → Nat} {j : Nat → Nat → Int64} {cc : gv_Rs}  (hp263 : oX12 G 263)  : Ev X (d + 1) gvm_211 0 (gv_enter [.ref 263] 3) [] (G, (mI A, j), cc) (.inl none, (G, (mI (gw A 264 (boR (A 264))), j), cc)) := evp_det (r_bothBoot_p hp263  rfl)
theorem w196 {X : gv_X} {d : Nat} {G : gv_Sh} {A : Nat → Nat → Nat} {j : Nat → Nat → Int64} {cc : gv_Rs} {P : gv_O × gv_S → Prop}  (hp263 : oX12 G 263) (H : EvP X (d + 0) gvm_196 7 [some (.ref 263), some (.int (nI 0))] [] (G, (mI (gu A 263 0 0), j), cc) P) : EvP X (d + 0) gvm_196 0 (gv_enter [.ref 263] 2) [] (G, (mI A, j), cc) P :=
  (pv_aload_n rfl rfl   (pn_iconst rfl rfl   (pn_putI rfl rfl (oX12_k hp263)   (pn_iconst rfl rfl   (pv_istore_n rfl rfl   H)))))
theorem w196_7 {X : gv_X} {d : Nat} {G : gv_Sh} {A : Nat → Nat → Nat} {j : Nat → Nat → Int64} {cc : gv_Rs} {P : gv_O × gv_S → Prop} {l1 : Nat} (hp263 : oX12 G 263) (H : (l1 < 2147483648) ∧ (((1217 ≤ l1) → P (.inl none, (G, (mI (gu A 263 6 1), j), cc))) ∧ ((l1 < 1217) → (l1 < 2066) ∧ ((l1 < 1217) ∧ (EvP X (d + 0) gvm_196 7 [some (.ref 263), some (.int (nI (l1 + 1)))] [] (G, (mI (gu A 265 l1 (A 264 l1)), j), cc) P))))) : EvP X (d + 0) gvm_196 7 [some (.ref 263), some (.int (nI l1))] [] (G, (mI A, j), cc) P :=
  (pv_iload_n rfl rfl   (pn_sipush rfl rfl   (pn_ic_ge rfl H.1 (by decide) (fun c1 => (pv_aload_n rfl rfl   (pn_iconst rfl rfl   (pn_putZ rfl rfl (oX12_k hp263) (by decide)  (pv_vret rfl (H.2.1 c1)))))) (fun c1 => (pv_aload_n rfl rfl   (pv_getP rfl rfl (oX12_k hp263) (oX12_2 hp263)   (pv_iload_n rfl rfl   (pv_aload_n rfl rfl   (pv_getP rfl rfl (oX12_k hp263) (oX12_1 hp263)   (pv_iload_n rfl rfl   (pn_iald rfl (oX12_1c hp263) (by decide) (H.2.2 c1).1 rfl (pn_iast rfl (oX12_2c hp263) (by decide) (H.2.2 c1).2.1  (pn_iinc rfl rfl rfl rfl   (pv_goto rfl (H.2.2 c1).2.2))))))))))))))
theorem r_image_p {X : gv_X} {d : Nat} {G : gv_Sh} {A : Nat → Nat → Nat} {j : Nat → Nat → Int64} {cc : gv_Rs} {P : gv_O × gv_S → Prop}  (hp263 : oX12 G 263)  (hP : ∀ A1 : Nat → Nat → Nat, (∀ i, i < 1217 → A1 265 i = A 264 i) ∧ (∀ q, q ≠ 263 → q ≠ 265 → A1 q = A q) ∧ (A1 263 0 = 0) ∧ (A1 263 6 = 1) ∧ (∀ k, k ≠ 0 → k ≠ 6 → A1 263 k = A 263 k) → P (.inl none, (G, (mI A1, j), cc))) : EvP X (d + 0) gvm_196 0 (gv_enter [.ref 263] 2) [] (G, (mI A, j), cc) P := by
  have L : ∀ k, k ≤ 1217 → EvP X (d + 0) gvm_196 7 [some (.ref 263), some (.int (nI k))] [] (G, (mI (gw (gu A 263 0 0) 265 (cpN ((gu A 263 0 0) 264) ((gu A 263 0 0) 265) k)), j), cc) P := by
    refine up_ind 1217 ?_ ?_
    · refine w196_7 hp263  ⟨by omega, ⟨fun c1 => ?_, fun c1 => ⟨by omega, ⟨by omega, ?_⟩⟩⟩⟩
      · refine hP _ ⟨fun i hi => ?_, fun q a b => ?_, ?_, ?_, fun k a b => ?_⟩
        · rw [gu_ro (by decide), gw_at]; unfold cpN; rw [if_pos hi, gu_ro (by decide)]
        · rw [gu_ro a, gw_row b, gu_ro a]
        · rw [gu_k (by decide) rfl, gw_row (by decide), gu_hit]
        · rw [gu_hit]
        · rw [gu_k b rfl, gw_row (by decide), gu_k a rfl]
      · omega
    · intro k hk ih
      refine w196_7 hp263  ⟨by omega, ⟨fun c1 => ?_, fun c1 => ⟨by omega, ⟨by omega, ?_⟩⟩⟩⟩
      · omega
      · exact evm (cp_s (by decide)) ih
  exact w196 hp263 (evm (cp_0 _ _ _).symm (L 0 (by omega)))
theorem r_image {X : gv_X} {d : Nat} {G : gv_Sh} {A : Nat → Nat → Nat} {j : Nat → Nat → Int64} {cc : gv_Rs}  (hp263 : oX12 G 263)  : ∃ A1 : Nat → Nat → Nat, Ev X (d + 0) gvm_196 0 (gv_enter [.ref 263] 2) [] (G, (mI A, j), cc) (.inl none, (G, (mI A1, j), cc)) ∧ (∀ i, i < 1217 → A1 265 i = A 264 i) ∧ (∀ q, q ≠ 263 → q ≠ 265 → A1 q = A q) ∧ (A1 263 0 = 0) ∧ (A1 263 6 = 1) ∧ (∀ k, k ≠ 0 → k ≠ 6 → A1 263 k = A 263 k) := by
  obtain ⟨_, h, A1, rfl, hp⟩ := r_image_p (X := X) (d := d) (G := G) (A := A) (j := j) (cc := cc)  (P := fun r => ∃ A1 : Nat → Nat → Nat, r = (.inl none, (G, (mI A1, j), cc)) ∧ (∀ i, i < 1217 → A1 265 i = A 264 i) ∧ (∀ q, q ≠ 263 → q ≠ 265 → A1 q = A q) ∧ (A1 263 0 = 0) ∧ (A1 263 6 = 1) ∧ (∀ k, k ≠ 0 → k ≠ 6 → A1 263 k = A 263 k)) hp263  (fun A1 h => ⟨A1, rfl, h⟩)
  exact ⟨A1, h, hp⟩
theorem w197 {X : gv_X} {d : Nat} {G : gv_Sh} {A : Nat → Nat → Nat} {j : Nat → Nat → Int64} {cc : gv_Rs} {P : gv_O × gv_S → Prop}  (hp263 : oX12 G 263) (H : ((A 263 6) < 4294967296) ∧ (((¬ (A 263 6) = 0) → EvP X (d + 0) gvm_197 16 [some (.ref 263), some (.int (nI 0))] [] (G, (mI (gu A 263 0 0), j), cc) P) ∧ (((A 263 6) = 0) → P (.inl (some (.int (nI 0))), (G, (mI (gu A 263 0 0), j), cc))))) : EvP X (d + 0) gvm_197 0 (gv_enter [.ref 263] 2) [] (G, (mI A, j), cc) P :=
  (pv_aload_n rfl rfl   (pn_iconst rfl rfl   (pn_putI rfl rfl (oX12_k hp263)   (pv_aload_n rfl rfl   (pn_getZ rfl rfl (oX12_k hp263) (gu_k (by decide) rfl)   (pn_if_ne rfl H.1 (fun c1 => (pn_iconst rfl rfl   (pv_istore_n rfl rfl   (H.2.1 c1)))) (fun c1 => (pn_iconst rfl rfl   (pv_iretz rfl rfl (Or.inl rfl) (H.2.2 c1))))))))))
theorem w197_16 {X : gv_X} {d : Nat} {G : gv_Sh} {A : Nat → Nat → Nat} {j : Nat → Nat → Int64} {cc : gv_Rs} {P : gv_O × gv_S → Prop} {l1 : Nat} (hp263 : oX12 G 263) (H : (l1 < 2147483648) ∧ (((1217 ≤ l1) → P (.inl (some (.int (nI 1))), (G, (mI (gu A 263 7 0), j), cc))) ∧ ((l1 < 1217) → (l1 < 1217) ∧ ((l1 < 2066) ∧ (EvP X (d + 0) gvm_197 16 [some (.ref 263), some (.int (nI (l1 + 1)))] [] (G, (mI (gu A 264 l1 (A 265 l1)), j), cc) P))))) : EvP X (d + 0) gvm_197 16 [some (.ref 263), some (.int (nI l1))] [] (G, (mI A, j), cc) P :=
  (pv_iload_n rfl rfl   (pn_sipush rfl rfl   (pn_ic_ge rfl H.1 (by decide) (fun c1 => (pv_aload_n rfl rfl   (pn_iconst rfl rfl   (pn_putI rfl rfl (oX12_k hp263)   (pn_iconst rfl rfl   (pv_iretz rfl rfl (Or.inr rfl) (H.2.1 c1))))))) (fun c1 => (pv_aload_n rfl rfl   (pv_getP rfl rfl (oX12_k hp263) (oX12_1 hp263)   (pv_iload_n rfl rfl   (pv_aload_n rfl rfl   (pv_getP rfl rfl (oX12_k hp263) (oX12_2 hp263)   (pv_iload_n rfl rfl   (pn_iald rfl (oX12_2c hp263) (by decide) (H.2.2 c1).1 rfl (pn_iast rfl (oX12_1c hp263) (by decide) (H.2.2 c1).2.1  (pn_iinc rfl rfl rfl rfl   (pv_goto rfl (H.2.2 c1).2.2))))))))))))))
theorem r_back_p {X : gv_X} {d : Nat} {G : gv_Sh} {A : Nat → Nat → Nat} {j : Nat → Nat → Int64} {cc : gv_Rs} {P : gv_O × gv_S → Prop}  (hp263 : oX12 G 263) (p0 : A 263 6 < 2) (hP : ∀ A1 : Nat → Nat → Nat, (A 263 6 = 1 → ∀ i, A1 264 i = if i < 1217 then A 265 i else A 264 i) ∧ (A 263 6 = 0 → A1 264 = A 264) ∧ (∀ q, q ≠ 263 → q ≠ 264 → A1 q = A q) ∧ (A1 263 0 = 0) ∧ (A1 263 7 = if A 263 6 = 1 then 0 else A 263 7) ∧ (∀ k, k ≠ 0 → k ≠ 7 → A1 263 k = A 263 k) → P (.inl (some (.int (zo (decide (A 263 6 = 1))))), (G, (mI A1, j), cc))) : EvP X (d + 0) gvm_197 0 (gv_enter [.ref 263] 2) [] (G, (mI A, j), cc) P := by
  have L : A 263 6 = 1 → ∀ k, k ≤ 1217 → EvP X (d + 0) gvm_197 16 [some (.ref 263), some (.int (nI k))] [] (G, (mI (gw (gu A 263 0 0) 264 (cpN ((gu A 263 0 0) 265) ((gu A 263 0 0) 264) k)), j), cc) P := by
    intro h1
    refine up_ind 1217 ?_ ?_
    · refine w197_16 hp263  ⟨by omega, ⟨fun c1 => ?_, fun c1 => ⟨by omega, ⟨by omega, ?_⟩⟩⟩⟩
      · refine qz1 (hP _ ⟨fun _ i => ?_, fun h => by omega, fun q a b => ?_, ?_, ?_, fun k a b => ?_⟩) (decide_eq_true h1)
        · rw [gu_ro (by decide), gw_at]; unfold cpN; rw [gu_ro (by decide), gu_ro (by decide)]
        · rw [gu_ro a, gw_row b, gu_ro a]
        · rw [gu_k (by decide) rfl, gw_row (by decide), gu_hit]
        · rw [gu_hit, if_pos h1]
        · rw [gu_k b rfl, gw_row (by decide), gu_k a rfl]
      · omega
    · intro k hk ih
      refine w197_16 hp263  ⟨by omega, ⟨fun c1 => ?_, fun c1 => ⟨by omega, ⟨by omega, ?_⟩⟩⟩⟩
      · omega
      · exact evm (cp_s (by decide)) ih
  refine w197 hp263  ⟨by omega, ⟨fun c1 => ?_, fun c1 => ?_⟩⟩
  · exact evm (cp_0 _ _ _).symm (L (by omega) 0 (by omega))
  · refine qz0 (hP _ ⟨fun h => by omega, fun _ => gu_ro (by decide), fun q a b => gu_ro a, gu_hit _ _ _ _, ?_, fun k a b => gu_k a rfl⟩) (decide_eq_false (by omega))
    rw [gu_k (by decide) rfl, if_neg (by omega)]
theorem r_back {X : gv_X} {d : Nat} {G : gv_Sh} {A : Nat → Nat → Nat} {j : Nat → Nat → Int64} {cc : gv_Rs}  (hp263 : oX12 G 263) (p0 : A 263 6 < 2) : ∃ A1 : Nat → Nat → Nat, Ev X (d + 0) gvm_197 0 (gv_enter [.ref 263] 2) [] (G, (mI A, j), cc) (.inl (some (.int (zo (decide (A 263 6 = 1))))), (G, (mI A1, j), cc)) ∧ (A 263 6 = 1 → ∀ i, A1 264 i = if i < 1217 then A 265 i else A 264 i) ∧ (A 263 6 = 0 → A1 264 = A 264) ∧ (∀ q, q ≠ 263 → q ≠ 264 → A1 q = A q) ∧ (A1 263 0 = 0) ∧ (A1 263 7 = if A 263 6 = 1 then 0 else A 263 7) ∧ (∀ k, k ≠ 0 → k ≠ 7 → A1 263 k = A 263 k) := by
  obtain ⟨_, h, A1, rfl, hp⟩ := r_back_p (X := X) (d := d) (G := G) (A := A) (j := j) (cc := cc)  (P := fun r => ∃ A1 : Nat → Nat → Nat, r = (.inl (some (.int (zo (decide (A 263 6 = 1))))), (G, (mI A1, j), cc)) ∧ (A 263 6 = 1 → ∀ i, A1 264 i = if i < 1217 then A 265 i else A 264 i) ∧ (A 263 6 = 0 → A1 264 = A 264) ∧ (∀ q, q ≠ 263 → q ≠ 264 → A1 q = A q) ∧ (A1 263 0 = 0) ∧ (A1 263 7 = if A 263 6 = 1 then 0 else A 263 7) ∧ (∀ k, k ≠ 0 → k ≠ 7 → A1 263 k = A 263 k)) hp263 p0 (fun A1 h => ⟨A1, rfl, h⟩)
  exact ⟨A1, h, hp⟩
theorem w198 {X : gv_X} {d : Nat} {G : gv_Sh} {A : Nat → Nat → Nat} {j : Nat → Nat → Int64} {cc : gv_Rs} {P : gv_O × gv_S → Prop}  (hp263 : oX12 G 263) (H : ((A 263 7) < 4294967296) ∧ (((¬ (A 263 7) = 12) → EvP X (d + 0) gvm_198 55 [some (.ref 263), some (.int (nI 0))] [] (G, (mI (gu A 263 7 ((A 263 7) + 1)), j), cc) P) ∧ (((A 263 7) = 12) → EvP X (d + 0) gvm_198 11 [some (.ref 263), some (.int (nI 0))] [] (G, (mI A, j), cc) P))) : EvP X (d + 0) gvm_198 0 (gv_enter [.ref 263] 2) [] (G, (mI A, j), cc) P :=
  (pv_aload_n rfl rfl   (pn_getI rfl rfl (oX12_k hp263) rfl   (pn_bipush rfl rfl   (pn_ic_ne rfl H.1 (by decide) (fun c1 => (pv_aload_n rfl rfl   (pv_dup rfl rfl   (pn_getI rfl rfl (oX12_k hp263) rfl   (pn_iconst rfl rfl   (pn_iadd rfl   (pn_putI rfl rfl (oX12_k hp263)   (pn_iconst rfl rfl   (pv_istore_n rfl rfl   (H.2.1 c1)))))))))) (fun c1 => (pn_iconst rfl rfl   (pv_istore_n rfl rfl   (H.2.2 c1))))))))
theorem w198_11 {X : gv_X} {d : Nat} {G : gv_Sh} {A : Nat → Nat → Nat} {j : Nat → Nat → Int64} {cc : gv_Rs} {P : gv_O × gv_S → Prop} {l1 : Nat} (hp263 : oX12 G 263) (H : (l1 < 2147483648) ∧ (((4048 ≤ l1) → EvP X (d + 0) gvm_198 55 [some (.ref 263), some (.int (nI 0))] [] (G, (mI A, j), cc) P) ∧ ((l1 < 4048) → ((l1 + 368) < 4416) ∧ ((l1 < 4416) ∧ (EvP X (d + 0) gvm_198 11 [some (.ref 263), some (.int (nI (l1 + 1)))] [] (G, (mI (gu A 268 l1 (A 268 (l1 + 368))), j), cc) P))))) : EvP X (d + 0) gvm_198 11 [some (.ref 263), some (.int (nI l1))] [] (G, (mI A, j), cc) P :=
  (pv_iload_n rfl rfl   (pn_sipush rfl rfl   (pn_ic_ge rfl H.1 (by decide) (fun c1 => (pv_goto rfl (pn_iconst rfl rfl   (pv_istore_n rfl rfl   (H.2.1 c1))))) (fun c1 => (pv_aload_n rfl rfl   (pv_getP rfl rfl (oX12_k hp263) (oX12_5 hp263)   (pv_iload_n rfl rfl   (pv_aload_n rfl rfl   (pv_getP rfl rfl (oX12_k hp263) (oX12_5 hp263)   (pv_iload_n rfl rfl   (pn_sipush rfl rfl   (pn_iadd rfl   (pn_iald rfl (oX12_5c hp263) (by decide) (H.2.2 c1).1 rfl (pn_iast rfl (oX12_5c hp263) (by decide) (H.2.2 c1).2.1  (pn_iinc rfl rfl rfl rfl   (pv_goto rfl (H.2.2 c1).2.2))))))))))))))))
theorem w198_55 {X : gv_X} {d : Nat} {G : gv_Sh} {A : Nat → Nat → Nat} {j : Nat → Nat → Int64} {cc : gv_Rs} {P : gv_O × gv_S → Prop} {l1 : Nat} (hp263 : oX12 G 263) (H : (l1 < 2147483648) ∧ (((368 ≤ l1) → P (.inl none, (G, (mI A, j), cc))) ∧ ((l1 < 368) → (1 ≤ (A 263 7)) ∧ ((l1 < 2066) ∧ ((((368 * ((A 263 7) - 1)) + l1) < 4416) ∧ (EvP X (d + 0) gvm_198 55 [some (.ref 263), some (.int (nI (l1 + 1)))] [] (G, (mI (gu A 268 ((368 * ((A 263 7) - 1)) + l1) (A 264 l1)), j), cc) P)))))) : EvP X (d + 0) gvm_198 55 [some (.ref 263), some (.int (nI l1))] [] (G, (mI A, j), cc) P :=
  (pv_iload_n rfl rfl   (pn_sipush rfl rfl   (pn_ic_ge rfl H.1 (by decide) (fun c1 => (pv_vret rfl (H.2.1 c1))) (fun c1 => (pv_aload_n rfl rfl   (pv_getP rfl rfl (oX12_k hp263) (oX12_5 hp263)   (pn_sipush rfl rfl   (pv_aload_n rfl rfl   (pn_getI rfl rfl (oX12_k hp263) rfl   (pn_iconst rfl rfl   (pn_isub rfl (H.2.2 c1).1  (pn_imul rfl   (pv_iload_n rfl rfl   (pn_iadd rfl   (pv_aload_n rfl rfl   (pv_getP rfl rfl (oX12_k hp263) (oX12_1 hp263)   (pv_iload_n rfl rfl   (pn_iald rfl (oX12_1c hp263) (by decide) (H.2.2 c1).2.1 rfl (pn_iast rfl (oX12_5c hp263) (by decide) (H.2.2 c1).2.2.1  (pn_iinc rfl rfl rfl rfl   (pv_goto rfl (H.2.2 c1).2.2.2)))))))))))))))))))))
theorem r_remembers_p {X : gv_X} {d : Nat} {G : gv_Sh} {A : Nat → Nat → Nat} {j : Nat → Nat → Int64} {cc : gv_Rs} {P : gv_O × gv_S → Prop}  (hp263 : oX12 G 263) (p0 : A 263 7 ≤ 12) (hP : ∀ A1 : Nat → Nat → Nat, (rmb A A1) ∧ (∀ q, q ≠ 263 → q ≠ 268 → A1 q = A q) ∧ (∀ k, k ≠ 7 → A1 263 k = A 263 k) → P (.inl none, (G, (mI A1, j), cc))) : EvP X (d + 0) gvm_198 0 (gv_enter [.ref 263] 2) [] (G, (mI A, j), cc) P := by
  have L : ∀ B, B 264 = A 264 → B 263 7 = min 12 (A 263 7 + 1) → (∀ q, q ≠ 263 → q ≠ 268 → B q = A q) → (∀ k, k ≠ 7 → B 263 k = A 263 k) → (∀ i k, k < 368 → i + 1 < min 12 (A 263 7 + 1) → B 268 (368 * i + k) = A 268 (368 * (i + (A 263 7 + 1 - min 12 (A 263 7 + 1))) + k)) → EvP X (d + 0) gvm_198 55 [some (.ref 263), some (.int (nI 0))] [] (G, (mI B, j), cc) P := by
    intro B b1 b2 b3 b4 b5
    have h7 : ∀ k, gw B 268 (ofN (368 * (B 263 7 - 1)) (B 264) (B 268) k) 263 7 = B 263 7 := fun k => by rw [gw_row (by decide)]
    have L : ∀ k, k ≤ 368 → EvP X (d + 0) gvm_198 55 [some (.ref 263), some (.int (nI k))] [] (G, (mI (gw B 268 (ofN (368 * (B 263 7 - 1)) (B 264) (B 268) k)), j), cc) P := by
      refine up_ind 368 ?_ ?_
      · refine w198_55 hp263  ⟨by (first | omega | (rw [h7]; omega)), ⟨fun c1 => ?_, fun c1 => ⟨by (first | omega | (rw [h7]; omega)), ⟨by (first | omega | (rw [h7]; omega)), ⟨by (first | omega | (rw [h7]; omega)), ?_⟩⟩⟩⟩⟩
        · refine hP _ ⟨⟨?_, fun i k hk hi => ?_, fun k hk => ?_⟩, fun q a b => ?_, fun k a => ?_⟩
          · rw [h7, b2]
          · rw [gw_at, ← b5 i k hk hi]
            unfold ofN
            rw [if_neg (by rw [b2]; omega)]
          · rw [gw_at, b2]
            unfold ofN
            rw [if_pos (by omega), Nat.add_sub_cancel_left, b1]
          · rw [gw_row b, b3 q a b]
          · rw [gw_row (by decide), b4 k a]
        · omega
      · intro k hk ih
        refine w198_55 hp263  ⟨by (first | omega | (rw [h7]; omega)), ⟨fun c1 => ?_, fun c1 => ⟨by (first | omega | (rw [h7]; omega)), ⟨by (first | omega | (rw [h7]; omega)), ⟨by (first | omega | (rw [h7]; omega)), ?_⟩⟩⟩⟩⟩
        · omega
        · refine evm (ofN_s ?_ ?_) ih
          · rw [h7]
          · rw [gw_row (by decide)]
    have := L 0 (by omega)
    rw [ofN_0, gw_self] at this
    exact this
  have L2 : A 263 7 = 12 → ∀ k, k ≤ 4048 → EvP X (d + 0) gvm_198 11 [some (.ref 263), some (.int (nI k))] [] (G, (mI (gw A 268 (shN (A 268) k)), j), cc) P := by
    intro h12
    refine up_ind 4048 ?_ ?_
    · refine w198_11 hp263  ⟨by omega, ⟨fun c1 => ?_, fun c1 => ⟨by omega, ⟨by omega, ?_⟩⟩⟩⟩
      · refine L _ (gw_row (by decide)) (by rw [gw_row (by decide), h12]; rfl) (fun q a b => gw_row b) (fun k _ => by rw [gw_row (by decide)]) (fun i k hk hi => ?_)
        rw [gw_at]
        unfold shN
        rw [h12] at hi ⊢
        rw [if_pos (by omega)]
        congr 1
        omega
      · omega
    · intro k hk ih
      refine w198_11 hp263  ⟨by omega, ⟨fun c1 => ?_, fun c1 => ⟨by omega, ⟨by omega, ?_⟩⟩⟩⟩
      · omega
      · exact evm shN_s ih
  refine w198 hp263  ⟨by omega, ⟨fun c1 => ?_, fun c1 => ?_⟩⟩
  · refine L _ (gu_ro (by decide)) ?_ (fun q a b => gu_ro a) (fun k a => gu_k a rfl) (fun i k hk hi => ?_)
    · rw [gu_hit]; omega
    · rw [gu_ro (by decide)]
      congr 1
      omega
  · have := L2 (by omega) 0 (by omega)
    rw [shN_0, gw_self] at this
    exact this
theorem r_remembers {X : gv_X} {d : Nat} {G : gv_Sh} {A : Nat → Nat → Nat} {j : Nat → Nat → Int64} {cc : gv_Rs}  (hp263 : oX12 G 263) (p0 : A 263 7 ≤ 12) : ∃ A1 : Nat → Nat → Nat, Ev X (d + 0) gvm_198 0 (gv_enter [.ref 263] 2) [] (G, (mI A, j), cc) (.inl none, (G, (mI A1, j), cc)) ∧ (rmb A A1) ∧ (∀ q, q ≠ 263 → q ≠ 268 → A1 q = A q) ∧ (∀ k, k ≠ 7 → A1 263 k = A 263 k) := by
  obtain ⟨_, h, A1, rfl, hp⟩ := r_remembers_p (X := X) (d := d) (G := G) (A := A) (j := j) (cc := cc)  (P := fun r => ∃ A1 : Nat → Nat → Nat, r = (.inl none, (G, (mI A1, j), cc)) ∧ (rmb A A1) ∧ (∀ q, q ≠ 263 → q ≠ 268 → A1 q = A q) ∧ (∀ k, k ≠ 7 → A1 263 k = A 263 k)) hp263 p0 (fun A1 h => ⟨A1, rfl, h⟩)
  exact ⟨A1, h, hp⟩
theorem w199 {X : gv_X} {d : Nat} {G : gv_Sh} {A : Nat → Nat → Nat} {j : Nat → Nat → Int64} {cc : gv_Rs} {P : gv_O × gv_S → Prop}  (hp263 : oX12 G 263) (H : ((A 263 7) < 4294967296) ∧ (((¬ (A 263 7) = 0) → (1 ≤ (A 263 7)) ∧ (EvP X (d + 0) gvm_199 26 [some (.ref 263), some (.int (nI 0))] [] (G, (mI (gu (gu A 263 0 0) 263 7 ((A 263 7) - 1)), j), cc) P)) ∧ (((A 263 7) = 0) → P (.inl (some (.int (nI 0))), (G, (mI (gu A 263 0 0), j), cc))))) : EvP X (d + 0) gvm_199 0 (gv_enter [.ref 263] 2) [] (G, (mI A, j), cc) P :=
  (pv_aload_n rfl rfl   (pn_iconst rfl rfl   (pn_putI rfl rfl (oX12_k hp263)   (pv_aload_n rfl rfl   (pn_getI rfl rfl (oX12_k hp263) (gu_k (by decide) rfl)   (pn_if_ne rfl H.1 (fun c1 => (pv_aload_n rfl rfl   (pv_dup rfl rfl   (pn_getI rfl rfl (oX12_k hp263) (gu_k (by decide) rfl)   (pn_iconst rfl rfl   (pn_isub rfl (H.2.1 c1).1  (pn_putI rfl rfl (oX12_k hp263)   (pn_iconst rfl rfl   (pv_istore_n rfl rfl   (H.2.1 c1).2))))))))) (fun c1 => (pn_iconst rfl rfl   (pv_iretz rfl rfl (Or.inl rfl) (H.2.2 c1))))))))))
theorem w199_26 {X : gv_X} {d : Nat} {G : gv_Sh} {A : Nat → Nat → Nat} {j : Nat → Nat → Int64} {cc : gv_Rs} {P : gv_O × gv_S → Prop} {l1 : Nat} (hp263 : oX12 G 263) (H : (l1 < 2147483648) ∧ (((368 ≤ l1) → P (.inl (some (.int (nI 1))), (G, (mI A, j), cc))) ∧ ((l1 < 368) → (((368 * (A 263 7)) + l1) < 4416) ∧ ((l1 < 2066) ∧ (EvP X (d + 0) gvm_199 26 [some (.ref 263), some (.int (nI (l1 + 1)))] [] (G, (mI (gu A 264 l1 (A 268 ((368 * (A 263 7)) + l1))), j), cc) P))))) : EvP X (d + 0) gvm_199 26 [some (.ref 263), some (.int (nI l1))] [] (G, (mI A, j), cc) P :=
  (pv_iload_n rfl rfl   (pn_sipush rfl rfl   (pn_ic_ge rfl H.1 (by decide) (fun c1 => (pn_iconst rfl rfl   (pv_iretz rfl rfl (Or.inr rfl) (H.2.1 c1)))) (fun c1 => (pv_aload_n rfl rfl   (pv_getP rfl rfl (oX12_k hp263) (oX12_1 hp263)   (pv_iload_n rfl rfl   (pv_aload_n rfl rfl   (pv_getP rfl rfl (oX12_k hp263) (oX12_5 hp263)   (pn_sipush rfl rfl   (pv_aload_n rfl rfl   (pn_getI rfl rfl (oX12_k hp263) rfl   (pn_imul rfl   (pv_iload_n rfl rfl   (pn_iadd rfl   (pn_iald rfl (oX12_5c hp263) (by decide) (H.2.2 c1).1 rfl (pn_iast rfl (oX12_1c hp263) (by decide) (H.2.2 c1).2.1  (pn_iinc rfl rfl rfl rfl   (pv_goto rfl (H.2.2 c1).2.2)))))))))))))))))))
theorem r_undo_p {X : gv_X} {d : Nat} {G : gv_Sh} {A : Nat → Nat → Nat} {j : Nat → Nat → Int64} {cc : gv_Rs} {P : gv_O × gv_S → Prop}  (hp263 : oX12 G 263) (p0 : A 263 7 ≤ 12) (hP : ∀ A1 : Nat → Nat → Nat, (A 263 7 ≠ 0 → ∀ i, A1 264 i = if i < 368 then A 268 (368 * (A 263 7 - 1) + i) else A 264 i) ∧ (A 263 7 = 0 → A1 264 = A 264) ∧ (∀ q, q ≠ 263 → q ≠ 264 → A1 q = A q) ∧ (A1 263 0 = 0) ∧ (A1 263 7 = A 263 7 - 1) ∧ (∀ k, k ≠ 0 → k ≠ 7 → A1 263 k = A 263 k) → P (.inl (some (.int (zo (!decide (A 263 7 = 0))))), (G, (mI A1, j), cc))) : EvP X (d + 0) gvm_199 0 (gv_enter [.ref 263] 2) [] (G, (mI A, j), cc) P := by
  have L : A 263 7 ≠ 0 → ∀ k, k ≤ 368 → EvP X (d + 0) gvm_199 26 [some (.ref 263), some (.int (nI k))] [] (G, (mI (gw (gu (gu A 263 0 0) 263 7 ((A 263 7) - 1)) 264 (cpN (fun i => A 268 (368 * (A 263 7 - 1) + i)) (A 264) k)), j), cc) P := by
    intro h1
    have h7 : ∀ f, gw (gu (gu A 263 0 0) 263 7 ((A 263 7) - 1)) 264 f 263 7 = A 263 7 - 1 := fun f => by rw [gw_row (by decide), gu_hit]
    refine up_ind 368 ?_ ?_
    · refine w199_26 hp263  ⟨by (first | omega | (rw [h7]; omega)), ⟨fun c1 => ?_, fun c1 => ⟨by (first | omega | (rw [h7]; omega)), ⟨by (first | omega | (rw [h7]; omega)), ?_⟩⟩⟩⟩
      · refine qz1 (hP _ ⟨fun _ i => ?_, fun h => by omega, fun q a b => ?_, ?_, ?_, fun k a b => ?_⟩) (by rw [decide_eq_false h1]; rfl)
        · rw [gw_at]; rfl
        · rw [gw_row b, gu_ro a, gu_ro a]
        · rw [gw_row (by decide), gu_k (by decide) rfl, gu_hit]
        · rw [h7]
        · rw [gw_row (by decide), gu_k b rfl, gu_k a rfl]
      · omega
    · intro k hk ih
      refine w199_26 hp263  ⟨by (first | omega | (rw [h7]; omega)), ⟨fun c1 => ?_, fun c1 => ⟨by (first | omega | (rw [h7]; omega)), ⟨by (first | omega | (rw [h7]; omega)), ?_⟩⟩⟩⟩
      · omega
      · refine evm ?_ ih
        rw [h7, gw_row (by decide), gu_ro (by decide), gu_ro (by decide)]
        exact cpN_s _ _ (fun i => A 268 (368 * (A 263 7 - 1) + i)) _ _
  refine w199 hp263  ⟨by omega, ⟨fun c1 => ⟨by omega, ?_⟩, fun c1 => ?_⟩⟩
  · have := L (by omega) 0 (by omega)
    rw [cpN_0, show gw (gu (gu A 263 0 0) 263 7 ((A 263 7) - 1)) 264 (A 264) = (gu (gu A 263 0 0) 263 7 ((A 263 7) - 1)) by rw [← show (gu (gu A 263 0 0) 263 7 ((A 263 7) - 1)) 264 = A 264 by rw [gu_ro (by decide), gu_ro (by decide)], gw_self]] at this
    exact this
  · refine qz0 (hP _ ⟨fun h => by omega, fun _ => gu_ro (by decide), fun q a b => gu_ro a, gu_hit _ _ _ _, ?_, fun k a b => gu_k a rfl⟩) (by rw [decide_eq_true (by omega)]; rfl)
    rw [gu_k (by decide) rfl]; omega
theorem r_undo {X : gv_X} {d : Nat} {G : gv_Sh} {A : Nat → Nat → Nat} {j : Nat → Nat → Int64} {cc : gv_Rs}  (hp263 : oX12 G 263) (p0 : A 263 7 ≤ 12) : ∃ A1 : Nat → Nat → Nat, Ev X (d + 0) gvm_199 0 (gv_enter [.ref 263] 2) [] (G, (mI A, j), cc) (.inl (some (.int (zo (!decide (A 263 7 = 0))))), (G, (mI A1, j), cc)) ∧ (A 263 7 ≠ 0 → ∀ i, A1 264 i = if i < 368 then A 268 (368 * (A 263 7 - 1) + i) else A 264 i) ∧ (A 263 7 = 0 → A1 264 = A 264) ∧ (∀ q, q ≠ 263 → q ≠ 264 → A1 q = A q) ∧ (A1 263 0 = 0) ∧ (A1 263 7 = A 263 7 - 1) ∧ (∀ k, k ≠ 0 → k ≠ 7 → A1 263 k = A 263 k) := by
  obtain ⟨_, h, A1, rfl, hp⟩ := r_undo_p (X := X) (d := d) (G := G) (A := A) (j := j) (cc := cc)  (P := fun r => ∃ A1 : Nat → Nat → Nat, r = (.inl (some (.int (zo (!decide (A 263 7 = 0))))), (G, (mI A1, j), cc)) ∧ (A 263 7 ≠ 0 → ∀ i, A1 264 i = if i < 368 then A 268 (368 * (A 263 7 - 1) + i) else A 264 i) ∧ (A 263 7 = 0 → A1 264 = A 264) ∧ (∀ q, q ≠ 263 → q ≠ 264 → A1 q = A q) ∧ (A1 263 0 = 0) ∧ (A1 263 7 = A 263 7 - 1) ∧ (∀ k, k ≠ 0 → k ≠ 7 → A1 263 k = A 263 k)) hp263 p0 (fun A1 h => ⟨A1, rfl, h⟩)
  exact ⟨A1, h, hp⟩
