/-! the class: what GuestView is made of -/
/-- an answer, or what is thrown -/
def oc (e : Nat → Nat) (c v : Nat) (S : gv_S) : gv_O × gv_S := if c = 0 then (.inl (some (.int (nI v))), S) else (.inr (e c), gv_ex S)
/-- what holds between calls -/
def cK (A : Nat → Nat → Nat) (R : Nat → Nat) : Prop := okW R ∧ rW A 2 R ∧ knI A R ∧ okLw R ∧ rRu A 48 R ∧ smI A R
/-- and with traits learnt -/
def cQ (A : Nat → Nat → Nat) (R : Nat → Nat) : Prop := okW R ∧ rW A 2 R ∧ knI A R ∧ lg A R
def frK (A B : Nat → Nat → Nat) : Prop := ∀ q, ¬ (17 ≤ q ∧ q ≤ 31) → ¬ (55 ≤ q ∧ q ≤ 63) → q ≠ 262 → B q = A q
theorem frK_rf (A : Nat → Nat → Nat) : frK A A := fun _ _ _ _ => rfl
theorem frK_tr {A B C : Nat → Nat → Nat} (h : frK A B) (h2 : frK B C) : frK A C := fun q a b c => (h2 q a b c).trans (h q a b c)
theorem cQ_K {A : Nat → Nat → Nat} {R : Nat → Nat} (h : cQ A R) : cK A R := ⟨h.1, h.2.1, h.2.2.1, h.2.2.2.1, h.2.2.2.2.1, h.2.2.2.2.2.2⟩
theorem cK_Z {A B : Nat → Nat → Nat} {R : Nat → Nat} (h : cK A R) (s : stT B R) (k : knI B R) (f : frZ A B) : cQ B R ∧ frK A B := ⟨⟨h.1, rW_fr h.2.1 (fun q a b => f q (by omega)), k, h.2.2.2.1, rRu_of h.2.2.2.2.1 (fun q a b => f q (by omega)), s, smI_of h.2.2.2.2.2 (f 61 (by omega))⟩, fun q a b c => f q (by omega)⟩
theorem cQ_s {A B : Nat → Nat → Nat} {R : Nat → Nat} (h : cQ A R) (s : smI B R) (f : ∀ a, (a < 61 ∨ 63 < a) → B a = A a) : cQ B R ∧ frK A B := ⟨⟨h.1, rW_fr h.2.1 (fun q a b => f q (by omega)), knI_of h.2.2.1 (f 55 (by omega)), h.2.2.2.1, rRu_of h.2.2.2.2.1 (fun q a b => f q (by omega)), stT_of h.2.2.2.2.2.1 (f 56 (by omega)), s⟩, fun q a b c => f q (by omega)⟩
/-- the spare world alone has changed, and sums -/
theorem cQ_w {A B : Nat → Nat → Nat} {R : Nat → Nat} (h : cQ A R) (l : lg B R) (f : frW A B 17) : cQ B R ∧ frK A B := ⟨⟨h.1, rW_fr h.2.1 (fun q a b => f q (by omega) (by omega)), knI_of h.2.2.1 (f 55 (by omega) (by omega)), l⟩, fun q a b c => f q (by omega) (by omega)⟩
theorem stT_lt {A : Nat → Nat → Nat} {R : Nat → Nat} (s : stT A R) {p : Nat} (hp : p < R 0) : ∀ h, h < 4 → A 56 (p * 4 + h) < 4294967296 := fun h hh => by
  rw [s p h hp hh]; have := wit_32 R p h; omega
theorem rRu_l {A : Nat → Nat → Nat} {R : Nat → Nat} (h : rRu A 48 R) (o : okLw R) (w : okW R) : A 48 1 ≤ 12 := by
  have r2 := (okW_n w).2.2.1
  by_cases z : R 2 = 1
  · rw [(h.2.2 z).1]; exact (o z).1
  · rw [h.2.1 (by omega)]; omega
theorem w113 {X : gv_X} {d : Nat} {G : gv_Sh} {A : Nat → Nat → Nat} {j : Nat → Nat → Int64} {cc : gv_Rs} {P : gv_O × gv_S → Prop} {p : Nat} (hp0 : oX11 G 0) (H : (p < 4294967296) ∧ ((A 3 0 ≤ 8) ∧ (((p < A 3 0) → P (.inl none, (G, (mI A, j), cc))) ∧ ((¬ (p < A 3 0)) → P (.inr 1, gv_ex (G, (mI A, j), cc)))))) : EvP X (d + 1) gvm_113 0 (gv_enter [.ref 0, .int (nI p)] 2) [] (G, (mI A, j), cc) P :=
  (pv_aload_n rfl rfl   (pv_getP rfl rfl (oX11_k hp0) (oX11_3 hp0)   (pv_getP rfl rfl (oX10_k (oX11_3c hp0)) (oX10_0 (oX11_3c hp0))   (pv_iload_n rfl rfl   (pv_virt rfl rfl rfl rfl rfl (oX6_k (oX10_0c (oX11_3c hp0))) rfl rfl rfl (c_has (p := p) (A := A) (oX10_0c (oX11_3c hp0)) H.1 H.2.1 ) (pv_if_ne_dc rfl  (fun c1 => (pv_vret rfl (H.2.2.1 c1))) (fun c1 => (pv_throw rfl rfl rfl (H.2.2.2 c1)))))))))
theorem c_needOp {X : gv_X} {d : Nat} {G : gv_Sh} {A : Nat → Nat → Nat} {j : Nat → Nat → Int64} {cc : gv_Rs} {p : Nat} (hp0 : oX11 G 0) (p0 : p < 4294967296) (p1 : A 3 0 ≤ 8) (hc : p < A 3 0) : Ev X (d + 1) gvm_113 0 (gv_enter [.ref 0, .int (nI p)] 2) [] (G, (mI A, j), cc) (.inl none, (G, (mI A, j), cc)) := by
  exact evp_det (w113 hp0 ⟨p0, p1, fun c1 => rfl, fun c1 => absurd hc c1⟩)
theorem c_needOp_x {X : gv_X} {d : Nat} {G : gv_Sh} {A : Nat → Nat → Nat} {j : Nat → Nat → Int64} {cc : gv_Rs} {p : Nat} (hp0 : oX11 G 0) (p0 : p < 4294967296) (p1 : A 3 0 ≤ 8) (hc : ¬ p < A 3 0) : Ev X (d + 1) gvm_113 0 (gv_enter [.ref 0, .int (nI p)] 2) [] (G, (mI A, j), cc) (.inr 1, gv_ex (G, (mI A, j), cc)) := by
  exact evp_det (w113 hp0 ⟨p0, p1, fun c1 => absurd c1 hc, fun c1 => rfl⟩)
theorem w114 {X : gv_X} {d : Nat} {G : gv_Sh} {A : Nat → Nat → Nat} {j : Nat → Nat → Int64} {cc : gv_Rs} {P : gv_O × gv_S → Prop} {n : Nat} {lo : Nat} {hi : Nat} (hp0 : oX11 G 0) (H : (((n + 2147483648) % 4294967296 < (lo + 2147483648) % 4294967296) → P (.inr 0, gv_ex (G, (mI A, j), cc))) ∧ (((lo + 2147483648) % 4294967296 ≤ (n + 2147483648) % 4294967296) → (((n + 2147483648) % 4294967296 ≤ (hi + 2147483648) % 4294967296) → P (.inl none, (G, (mI A, j), cc))) ∧ (((hi + 2147483648) % 4294967296 < (n + 2147483648) % 4294967296) → P (.inr 0, gv_ex (G, (mI A, j), cc))))) : EvP X (d + 0) gvm_114 0 (gv_enter [.ref 0, .int (nI n), .int (nI lo), .int (nI hi)] 4) [] (G, (mI A, j), cc) P :=
  (pv_iload_n rfl rfl   (pv_iload_n rfl rfl   (pn_ic_ltw rfl  (fun c1 => (pv_throw rfl rfl rfl (H.1 c1))) (fun c1 => (pv_iload_n rfl rfl   (pv_iload_n rfl rfl   (pn_ic_lew rfl  (fun c2 => (pv_vret rfl ((H.2 c1).1 c2))) (fun c2 => (pv_throw rfl rfl rfl ((H.2 c1).2 c2))))))))))
theorem c_needNumber {X : gv_X} {d : Nat} {G : gv_Sh} {A : Nat → Nat → Nat} {j : Nat → Nat → Int64} {cc : gv_Rs} {n : Nat} {lo : Nat} {hi : Nat} (hp0 : oX11 G 0) (p0 : n < 4294967296) (p1 : lo ≤ 1) (p2 : hi < 2147483648) (hc : (lo ≤ n ∧ n ≤ hi)) : Ev X (d + 0) gvm_114 0 (gv_enter [.ref 0, .int (nI n), .int (nI lo), .int (nI hi)] 4) [] (G, (mI A, j), cc) (.inl none, (G, (mI A, j), cc)) := by
  exact evp_det (w114 hp0 ⟨fun c1 => absurd c1 (by omega), fun c1 => ⟨fun c2 => rfl, fun c2 => absurd c2 (by omega)⟩⟩)
theorem c_needNumber_x {X : gv_X} {d : Nat} {G : gv_Sh} {A : Nat → Nat → Nat} {j : Nat → Nat → Int64} {cc : gv_Rs} {n : Nat} {lo : Nat} {hi : Nat} (hp0 : oX11 G 0) (p0 : n < 4294967296) (p1 : lo ≤ 1) (p2 : hi < 2147483648) (hc : ¬ (lo ≤ n ∧ n ≤ hi)) : Ev X (d + 0) gvm_114 0 (gv_enter [.ref 0, .int (nI n), .int (nI lo), .int (nI hi)] 4) [] (G, (mI A, j), cc) (.inr 0, gv_ex (G, (mI A, j), cc)) := by
  exact evp_det (w114 hp0 ⟨fun c1 => rfl, fun c1 => ⟨fun c2 => absurd c2 (by omega), fun c2 => rfl⟩⟩)
theorem w115 {X : gv_X} {d : Nat} {G : gv_Sh} {A : Nat → Nat → Nat} {j : Nat → Nat → Int64} {cc : gv_Rs} {P : gv_O × gv_S → Prop} {n : Nat} {m : Nat} (hp0 : oX11 G 0) (H : (n < 4294967296) ∧ (((2147483648 ≤ n) → P (.inr 3, gv_ex (G, (mI A, j), cc))) ∧ ((n < 2147483648) → (n < 2147483648) ∧ ((m < 2147483648) ∧ (((n ≤ m) → P (.inl none, (G, (mI A, j), cc))) ∧ ((m < n) → P (.inr 3, gv_ex (G, (mI A, j), cc)))))))) : EvP X (d + 0) gvm_115 0 (gv_enter [.ref 0, .int (nI n), .int (nI m)] 3) [] (G, (mI A, j), cc) P :=
  (pv_iload_n rfl rfl   (pn_if_lt rfl H.1 (fun c1 => (pv_throw rfl rfl rfl (H.2.1 c1))) (fun c1 => (pv_iload_n rfl rfl   (pv_iload_n rfl rfl   (pn_ic_le rfl (H.2.2 c1).1 (H.2.2 c1).2.1 (fun c2 => (pv_vret rfl ((H.2.2 c1).2.2.1 c2))) (fun c2 => (pv_throw rfl rfl rfl ((H.2.2 c1).2.2.2 c2)))))))))
theorem c_needWhat {X : gv_X} {d : Nat} {G : gv_Sh} {A : Nat → Nat → Nat} {j : Nat → Nat → Int64} {cc : gv_Rs} {n : Nat} {m : Nat} (hp0 : oX11 G 0) (p0 : n < 4294967296) (p1 : m < 2147483648) (hc : n ≤ m) : Ev X (d + 0) gvm_115 0 (gv_enter [.ref 0, .int (nI n), .int (nI m)] 3) [] (G, (mI A, j), cc) (.inl none, (G, (mI A, j), cc)) := by
  exact evp_det (w115 hp0 ⟨p0, fun c1 => absurd c1 (by omega), fun c1 => ⟨by omega, by omega, fun c2 => rfl, fun c2 => absurd c2 (by omega)⟩⟩)
theorem c_needWhat_x {X : gv_X} {d : Nat} {G : gv_Sh} {A : Nat → Nat → Nat} {j : Nat → Nat → Int64} {cc : gv_Rs} {n : Nat} {m : Nat} (hp0 : oX11 G 0) (p0 : n < 4294967296) (p1 : m < 2147483648) (hc : ¬ n ≤ m) : Ev X (d + 0) gvm_115 0 (gv_enter [.ref 0, .int (nI n), .int (nI m)] 3) [] (G, (mI A, j), cc) (.inr 3, gv_ex (G, (mI A, j), cc)) := by
  exact evp_det (w115 hp0 ⟨p0, fun c1 => rfl, fun c1 => ⟨by omega, by omega, fun c2 => absurd c2 (by omega), fun c2 => rfl⟩⟩)
theorem w128 {X : gv_X} {d : Nat} {G : gv_Sh} {A : Nat → Nat → Nat} {j : Nat → Nat → Int64} {cc : gv_Rs} {P : gv_O × gv_S → Prop} {c : Nat} (hp0 : oX11 G 0) (H : (c < 4294967296) ∧ (((2147483648 ≤ c) → P (.inr 1, gv_ex (G, (mI A, j), cc))) ∧ ((c < 2147483648) → (c < 2147483648) ∧ (((c < 8) → P (.inl none, (G, (mI A, j), cc))) ∧ ((8 ≤ c) → P (.inr 1, gv_ex (G, (mI A, j), cc))))))) : EvP X (d + 0) gvm_128 0 (gv_enter [.ref 0, .int (nI c)] 2) [] (G, (mI A, j), cc) P :=
  (pv_iload_n rfl rfl   (pn_if_lt rfl H.1 (fun c1 => (pv_throw rfl rfl rfl (H.2.1 c1))) (fun c1 => (pv_iload_n rfl rfl   (pn_bipush rfl rfl   (pn_ic_lt rfl (H.2.2 c1).1 (by decide) (fun c2 => (pv_vret rfl ((H.2.2 c1).2.1 c2))) (fun c2 => (pv_throw rfl rfl rfl ((H.2.2 c1).2.2 c2)))))))))
theorem c_needCell {X : gv_X} {d : Nat} {G : gv_Sh} {A : Nat → Nat → Nat} {j : Nat → Nat → Int64} {cc : gv_Rs} {c : Nat} (hp0 : oX11 G 0) (p0 : c < 4294967296) (hc : c < 8) : Ev X (d + 0) gvm_128 0 (gv_enter [.ref 0, .int (nI c)] 2) [] (G, (mI A, j), cc) (.inl none, (G, (mI A, j), cc)) := by
  exact evp_det (w128 hp0 ⟨p0, fun c1 => absurd c1 (by omega), fun c1 => ⟨by omega, fun c2 => rfl, fun c2 => absurd c2 (by omega)⟩⟩)
theorem c_needCell_x {X : gv_X} {d : Nat} {G : gv_Sh} {A : Nat → Nat → Nat} {j : Nat → Nat → Int64} {cc : gv_Rs} {c : Nat} (hp0 : oX11 G 0) (p0 : c < 4294967296) (hc : ¬ c < 8) : Ev X (d + 0) gvm_128 0 (gv_enter [.ref 0, .int (nI c)] 2) [] (G, (mI A, j), cc) (.inr 1, gv_ex (G, (mI A, j), cc)) := by
  exact evp_det (w128 hp0 ⟨p0, fun c1 => rfl, fun c1 => ⟨by omega, fun c2 => absurd c2 (by omega), fun c2 => rfl⟩⟩)
theorem w116 {X : gv_X} {d : Nat} {G : gv_Sh} {A : Nat → Nat → Nat} {j : Nat → Nat → Int64} {cc : gv_Rs} {P : gv_O × gv_S → Prop} {p : Nat} {h : Nat} (hp0 : oX11 G 0) (H : (p < 8) ∧ ((h < 4) ∧ ((A 56 (p * 4 + h) < 4294967296) ∧ (P (.inl (some (.int (zo (decide (¬ A 56 (p * 4 + h) = 4294967295))))), (G, (mI A, j), cc)))))) : EvP X (d + 2) gvm_116 0 (gv_enter [.ref 0, .int (nI p), .int (nI h)] 3) [] (G, (mI A, j), cc) P :=
  (pv_aload_n rfl rfl   (pv_getP rfl rfl (oX11_k hp0) (oX11_7 hp0)   (pv_getP rfl rfl (oX4_k (oX11_7c hp0)) (oX4_1 (oX11_7c hp0))   (pv_iload_n rfl rfl   (pv_iload_n rfl rfl   (pv_virt rfl rfl rfl rfl rfl (oX9_k (oX4_1c (oX11_7c hp0))) rfl rfl rfl (c_shows (p := p) (h := h) (A := A) (oX4_1c (oX11_7c hp0)) H.1 H.2.1 H.2.2.1 ) (pv_iretz rfl rfl (zo_b _) H.2.2.2)))))))
theorem c_gshows_p {X : gv_X} {d : Nat} {G : gv_Sh} {A : Nat → Nat → Nat} {j : Nat → Nat → Int64} {cc : gv_Rs} {P : gv_O × gv_S → Prop} {p : Nat} {h : Nat} {R : Nat → Nat} (hp0 : oX11 G 0) (p0 : cQ A R) (p1 : p < R 0) (p2 : h < 4) (hP : P (.inl (some (.int (zo (decide (¬ wit R p h = 4294967295))))), (G, (mI A, j), cc))) : EvP X (d + 2) gvm_116 0 (gv_enter [.ref 0, .int (nI p), .int (nI h)] 3) [] (G, (mI A, j), cc) P := by
  have n := (okW_n p0.1).1
  have s := p0.2.2.2.2.2.1
  refine w116 hp0 ⟨by omega, p2, stT_lt s p1 h p2, ?_⟩
  rw [s p h p1 p2]; exact hP
theorem c_gshows {X : gv_X} {d : Nat} {G : gv_Sh} {A : Nat → Nat → Nat} {j : Nat → Nat → Int64} {cc : gv_Rs} {p : Nat} {h : Nat} {R : Nat → Nat} (hp0 : oX11 G 0) (p0 : cQ A R) (p1 : p < R 0) (p2 : h < 4) : Ev X (d + 2) gvm_116 0 (gv_enter [.ref 0, .int (nI p), .int (nI h)] 3) [] (G, (mI A, j), cc) (.inl (some (.int (zo (decide (¬ wit R p h = 4294967295))))), (G, (mI A, j), cc)) := evp_det (c_gshows_p hp0 p0 p1 p2 rfl)
theorem w117 {X : gv_X} {d : Nat} {G : gv_Sh} {A : Nat → Nat → Nat} {j : Nat → Nat → Int64} {cc : gv_Rs} {P : gv_O × gv_S → Prop} {p : Nat} (hp0 : oX11 G 0) (H : (p < 8) ∧ ((∀ h, h < 4 → A 56 (p * 4 + h) < 4294967296) ∧ (P (.inl (some (.int (zo (decide (¬ A 56 (p * 4 + 0) = 4294967295 ∨ ¬ A 56 (p * 4 + 1) = 4294967295 ∨ ¬ A 56 (p * 4 + 2) = 4294967295))))), (G, (mI A, j), cc))))) : EvP X (d + 3) gvm_117 0 (gv_enter [.ref 0, .int (nI p)] 2) [] (G, (mI A, j), cc) P :=
  (pv_aload_n rfl rfl   (pv_getP rfl rfl (oX11_k hp0) (oX11_7 hp0)   (pv_getP rfl rfl (oX4_k (oX11_7c hp0)) (oX4_1 (oX11_7c hp0))   (pv_iload_n rfl rfl   (pv_virt rfl rfl rfl rfl rfl (oX9_k (oX4_1c (oX11_7c hp0))) rfl rfl rfl (c_isSensitive (p := p) (A := A) (oX4_1c (oX11_7c hp0)) H.1 H.2.1 ) (pv_iretz rfl rfl (zo_b _) H.2.2))))))
theorem c_gisSens_p {X : gv_X} {d : Nat} {G : gv_Sh} {A : Nat → Nat → Nat} {j : Nat → Nat → Int64} {cc : gv_Rs} {P : gv_O × gv_S → Prop} {p : Nat} {R : Nat → Nat} (hp0 : oX11 G 0) (p0 : cQ A R) (p1 : p < R 0) (hP : P (.inl (some (.int (zo (decide (¬ tbF R p % 8 = 0))))), (G, (mI A, j), cc))) : EvP X (d + 3) gvm_117 0 (gv_enter [.ref 0, .int (nI p)] 2) [] (G, (mI A, j), cc) P := by
  have n := (okW_n p0.1).1
  have s := p0.2.2.2.2.2.1
  refine w117 hp0 ⟨by omega, stT_lt s p1, ?_⟩
  rw [s p 0 p1 (by decide), s p 1 p1 (by decide), s p 2 p1 (by decide)]
  have e := (tbF_b R p).2.2.2.2
  refine qzz hP (decide_eq_decide.mpr ⟨fun z => ?_, fun z y => ?_⟩)
  · by_cases a : wit R p 0 = 4294967295
    · by_cases b : wit R p 1 = 4294967295
      · exact Or.inr (Or.inr (fun c => z (e.mpr ⟨a, b, c⟩)))
      · exact Or.inr (Or.inl b)
    · exact Or.inl a
  · have y := e.mp y
    rcases z with z | z | z
    · exact z y.1
    · exact z y.2.1
    · exact z y.2.2
theorem c_gisSens {X : gv_X} {d : Nat} {G : gv_Sh} {A : Nat → Nat → Nat} {j : Nat → Nat → Int64} {cc : gv_Rs} {p : Nat} {R : Nat → Nat} (hp0 : oX11 G 0) (p0 : cQ A R) (p1 : p < R 0) : Ev X (d + 3) gvm_117 0 (gv_enter [.ref 0, .int (nI p)] 2) [] (G, (mI A, j), cc) (.inl (some (.int (zo (decide (¬ tbF R p % 8 = 0))))), (G, (mI A, j), cc)) := evp_det (c_gisSens_p hp0 p0 p1 rfl)
theorem w118 {X : gv_X} {d : Nat} {G : gv_Sh} {A : Nat → Nat → Nat} {j : Nat → Nat → Int64} {cc : gv_Rs} {P : gv_O × gv_S → Prop} {p : Nat} {R : Nat → Nat} (hp0 : oX11 G 0) (H : (okW R) ∧ ((rO A (2 + 1) R) ∧ ((rP A 2 R) ∧ ((okLw R) ∧ ((rRu A 48 R) ∧ ((stT A R) ∧ ((smI A R) ∧ ((p < R 0) ∧ ((2 + 15 ≤ 47) ∧ ((∀ A1v1 : Nat → Nat → Nat, ((smI A1v1 R) ∧ (∀ a, (a < 61 ∨ 63 < a) → A1v1 a = A a)) → P (.inl (some (.int (nI ((A 2 6) + (lsum R (tbF R p) p 0))))), (G, (mI A1v1, j), cc))))))))))))) : EvP X (d + 4) gvm_118 0 (gv_enter [.ref 0, .int (nI p)] 2) [] (G, (mI A, j), cc) P :=
  (pv_aload_n rfl rfl   (pv_getP rfl rfl (oX11_k hp0) (oX11_3 hp0)   (pn_getI rfl rfl (oX10_k (oX11_3c hp0)) rfl   (pv_aload_n rfl rfl   (pv_getP rfl rfl (oX11_k hp0) (oX11_7 hp0)   (pv_aload_n rfl rfl   (pv_getP rfl rfl (oX11_k hp0) (oX11_3 hp0)   (pv_iload_n rfl rfl   (pn_iconst rfl rfl   (match (c_lsum (p := p) (so := 0) (R := R) (A := A) (X := X) (d := d + 0) (G := G) (j := j) (cc := cc) (oX11_7c hp0) (oX11_3c hp0) H.1 H.2.1 H.2.2.1 H.2.2.2.1 H.2.2.2.2.1 H.2.2.2.2.2.1 H.2.2.2.2.2.2.1 H.2.2.2.2.2.2.2.1 (by decide) H.2.2.2.2.2.2.2.2.1 ) with | ⟨A1v1, e1x17, h1⟩ => pv_virt rfl rfl rfl rfl rfl (oX4_k (oX11_7c hp0)) rfl rfl rfl e1x17 (pn_iadd rfl   (pv_ireti rfl rfl (H.2.2.2.2.2.2.2.2.2 A1v1 h1)))))))))))))
theorem c_emul_p {X : gv_X} {d : Nat} {G : gv_Sh} {A : Nat → Nat → Nat} {j : Nat → Nat → Int64} {cc : gv_Rs} {P : gv_O × gv_S → Prop} {p : Nat} {R : Nat → Nat} (hp0 : oX11 G 0) (p0 : cQ A R) (p1 : p < R 0) (hP : ∀ A1 : Nat → Nat → Nat, (cQ A1 R) ∧ (frK A A1) → P (.inl (some (.int (nI (R 6 + lsum R (tbF R p) p 0)))), (G, (mI A1, j), cc))) : EvP X (d + 4) gvm_118 0 (gv_enter [.ref 0, .int (nI p)] 2) [] (G, (mI A, j), cc) P := by
  obtain ⟨o, r, kn, ll, ru, st, sm⟩ := p0
  refine w118 (R := R) hp0 ⟨o, r.1, r.2.1, ll, ru, st, sm, p1, by decide, fun B h1 => ?_⟩
  have := cQ_s ⟨o, r, kn, ll, ru, st, sm⟩ h1.1 h1.2
  have e6 : A 2 6 = R 6 := r.2.2.2.1.2.2.1
  rw [e6]
  exact hP B this
theorem c_emul {X : gv_X} {d : Nat} {G : gv_Sh} {A : Nat → Nat → Nat} {j : Nat → Nat → Int64} {cc : gv_Rs} {p : Nat} {R : Nat → Nat} (hp0 : oX11 G 0) (p0 : cQ A R) (p1 : p < R 0) : ∃ A1 : Nat → Nat → Nat, Ev X (d + 4) gvm_118 0 (gv_enter [.ref 0, .int (nI p)] 2) [] (G, (mI A, j), cc) (.inl (some (.int (nI (R 6 + lsum R (tbF R p) p 0)))), (G, (mI A1, j), cc)) ∧ (cQ A1 R) ∧ (frK A A1) := by
  obtain ⟨_, h, A1, rfl, hp⟩ := c_emul_p (X := X) (d := d) (G := G) (A := A) (j := j) (cc := cc) (p := p) (R := R) (P := fun r => ∃ A1 : Nat → Nat → Nat, r = (.inl (some (.int (nI (R 6 + lsum R (tbF R p) p 0)))), (G, (mI A1, j), cc)) ∧ (cQ A1 R) ∧ (frK A A1)) hp0 p0 p1 (fun A1 h => ⟨A1, rfl, h⟩)
  exact ⟨A1, h, hp⟩
theorem w119 {X : gv_X} {d : Nat} {G : gv_Sh} {A : Nat → Nat → Nat} {j : Nat → Nat → Int64} {cc : gv_Rs} {P : gv_O × gv_S → Prop} {p : Nat} {R : Nat → Nat} (hp0 : oX11 G 0) (H : (okW R) ∧ ((rO A (2 + 1) R) ∧ ((rP A 2 R) ∧ ((okLw R) ∧ ((rRu A 48 R) ∧ ((stT A R) ∧ ((smI A R) ∧ ((p < R 0) ∧ ((2 + 15 ≤ 47) ∧ ((∀ A1v1 : Nat → Nat → Nat, ((smI A1v1 R) ∧ (∀ a, (a < 61 ∨ 63 < a) → A1v1 a = A a)) → P (.inl (some (.int (nI (lsum R (tbF R p) p 1)))), (G, (mI A1v1, j), cc))))))))))))) : EvP X (d + 4) gvm_119 0 (gv_enter [.ref 0, .int (nI p)] 2) [] (G, (mI A, j), cc) P :=
  (pv_aload_n rfl rfl   (pv_getP rfl rfl (oX11_k hp0) (oX11_7 hp0)   (pv_aload_n rfl rfl   (pv_getP rfl rfl (oX11_k hp0) (oX11_3 hp0)   (pv_iload_n rfl rfl   (pn_iconst rfl rfl   (match (c_lsum (p := p) (so := 1) (R := R) (A := A) (X := X) (d := d + 0) (G := G) (j := j) (cc := cc) (oX11_7c hp0) (oX11_3c hp0) H.1 H.2.1 H.2.2.1 H.2.2.2.1 H.2.2.2.2.1 H.2.2.2.2.2.1 H.2.2.2.2.2.2.1 H.2.2.2.2.2.2.2.1 (by decide) H.2.2.2.2.2.2.2.2.1 ) with | ⟨A1v1, e1x10, h1⟩ => pv_virt rfl rfl rfl rfl rfl (oX4_k (oX11_7c hp0)) rfl rfl rfl e1x10 (pv_ireti rfl rfl (H.2.2.2.2.2.2.2.2.2 A1v1 h1)))))))))
theorem c_blame_p {X : gv_X} {d : Nat} {G : gv_Sh} {A : Nat → Nat → Nat} {j : Nat → Nat → Int64} {cc : gv_Rs} {P : gv_O × gv_S → Prop} {p : Nat} {R : Nat → Nat} (hp0 : oX11 G 0) (p0 : cQ A R) (p1 : p < R 0) (hP : ∀ A1 : Nat → Nat → Nat, (cQ A1 R) ∧ (frK A A1) → P (.inl (some (.int (nI (lsum R (tbF R p) p 1)))), (G, (mI A1, j), cc))) : EvP X (d + 4) gvm_119 0 (gv_enter [.ref 0, .int (nI p)] 2) [] (G, (mI A, j), cc) P := by
  obtain ⟨o, r, kn, ll, ru, st, sm⟩ := p0
  refine w119 (R := R) hp0 ⟨o, r.1, r.2.1, ll, ru, st, sm, p1, by decide, fun B h1 => ?_⟩
  have := cQ_s ⟨o, r, kn, ll, ru, st, sm⟩ h1.1 h1.2
  exact hP B this
theorem c_blame {X : gv_X} {d : Nat} {G : gv_Sh} {A : Nat → Nat → Nat} {j : Nat → Nat → Int64} {cc : gv_Rs} {p : Nat} {R : Nat → Nat} (hp0 : oX11 G 0) (p0 : cQ A R) (p1 : p < R 0) : ∃ A1 : Nat → Nat → Nat, Ev X (d + 4) gvm_119 0 (gv_enter [.ref 0, .int (nI p)] 2) [] (G, (mI A, j), cc) (.inl (some (.int (nI (lsum R (tbF R p) p 1)))), (G, (mI A1, j), cc)) ∧ (cQ A1 R) ∧ (frK A A1) := by
  obtain ⟨_, h, A1, rfl, hp⟩ := c_blame_p (X := X) (d := d) (G := G) (A := A) (j := j) (cc := cc) (p := p) (R := R) (P := fun r => ∃ A1 : Nat → Nat → Nat, r = (.inl (some (.int (nI (lsum R (tbF R p) p 1)))), (G, (mI A1, j), cc)) ∧ (cQ A1 R) ∧ (frK A A1)) hp0 p0 p1 (fun A1 h => ⟨A1, rfl, h⟩)
  exact ⟨A1, h, hp⟩
theorem w120 {X : gv_X} {d : Nat} {G : gv_Sh} {A : Nat → Nat → Nat} {j : Nat → Nat → Int64} {cc : gv_Rs} {P : gv_O × gv_S → Prop} {p : Nat} {R : Nat → Nat} (hp0 : oX11 G 0) (H : (okW R) ∧ ((rO A (2 + 1) R) ∧ ((rP A 2 R) ∧ ((okLw R) ∧ ((rRu A 48 R) ∧ ((stT A R) ∧ ((smI A R) ∧ ((p < R 0) ∧ ((2 + 15 ≤ 47) ∧ ((∀ A1v1 : Nat → Nat → Nat, ((smI A1v1 R) ∧ (∀ a, (a < 61 ∨ 63 < a) → A1v1 a = A a)) → P (.inl (some (.int (nI (1 + (lsum R (tbF R p) p 2))))), (G, (mI A1v1, j), cc))))))))))))) : EvP X (d + 4) gvm_120 0 (gv_enter [.ref 0, .int (nI p)] 2) [] (G, (mI A, j), cc) P :=
  (pn_iconst rfl rfl   (pv_aload_n rfl rfl   (pv_getP rfl rfl (oX11_k hp0) (oX11_7 hp0)   (pv_aload_n rfl rfl   (pv_getP rfl rfl (oX11_k hp0) (oX11_3 hp0)   (pv_iload_n rfl rfl   (pn_iconst rfl rfl   (match (c_lsum (p := p) (so := 2) (R := R) (A := A) (X := X) (d := d + 0) (G := G) (j := j) (cc := cc) (oX11_7c hp0) (oX11_3c hp0) H.1 H.2.1 H.2.2.1 H.2.2.2.1 H.2.2.2.2.1 H.2.2.2.2.2.1 H.2.2.2.2.2.2.1 H.2.2.2.2.2.2.2.1 (by decide) H.2.2.2.2.2.2.2.2.1 ) with | ⟨A1v1, e1x11, h1⟩ => pv_virt rfl rfl rfl rfl rfl (oX4_k (oX11_7c hp0)) rfl rfl rfl e1x11 (pn_iadd rfl   (pv_ireti rfl rfl (H.2.2.2.2.2.2.2.2.2 A1v1 h1)))))))))))
theorem c_worth_p {X : gv_X} {d : Nat} {G : gv_Sh} {A : Nat → Nat → Nat} {j : Nat → Nat → Int64} {cc : gv_Rs} {P : gv_O × gv_S → Prop} {p : Nat} {R : Nat → Nat} (hp0 : oX11 G 0) (p0 : cQ A R) (p1 : p < R 0) (hP : ∀ A1 : Nat → Nat → Nat, (cQ A1 R) ∧ (frK A A1) → P (.inl (some (.int (nI (1 + lsum R (tbF R p) p 2)))), (G, (mI A1, j), cc))) : EvP X (d + 4) gvm_120 0 (gv_enter [.ref 0, .int (nI p)] 2) [] (G, (mI A, j), cc) P := by
  obtain ⟨o, r, kn, ll, ru, st, sm⟩ := p0
  refine w120 (R := R) hp0 ⟨o, r.1, r.2.1, ll, ru, st, sm, p1, by decide, fun B h1 => ?_⟩
  have := cQ_s ⟨o, r, kn, ll, ru, st, sm⟩ h1.1 h1.2
  exact hP B this
theorem c_worth {X : gv_X} {d : Nat} {G : gv_Sh} {A : Nat → Nat → Nat} {j : Nat → Nat → Int64} {cc : gv_Rs} {p : Nat} {R : Nat → Nat} (hp0 : oX11 G 0) (p0 : cQ A R) (p1 : p < R 0) : ∃ A1 : Nat → Nat → Nat, Ev X (d + 4) gvm_120 0 (gv_enter [.ref 0, .int (nI p)] 2) [] (G, (mI A, j), cc) (.inl (some (.int (nI (1 + lsum R (tbF R p) p 2)))), (G, (mI A1, j), cc)) ∧ (cQ A1 R) ∧ (frK A A1) := by
  obtain ⟨_, h, A1, rfl, hp⟩ := c_worth_p (X := X) (d := d) (G := G) (A := A) (j := j) (cc := cc) (p := p) (R := R) (P := fun r => ∃ A1 : Nat → Nat → Nat, r = (.inl (some (.int (nI (1 + lsum R (tbF R p) p 2)))), (G, (mI A1, j), cc)) ∧ (cQ A1 R) ∧ (frK A A1)) hp0 p0 p1 (fun A1 h => ⟨A1, rfl, h⟩)
  exact ⟨A1, h, hp⟩
theorem w121 {X : gv_X} {d : Nat} {G : gv_Sh} {A : Nat → Nat → Nat} {j : Nat → Nat → Int64} {cc : gv_Rs} {P : gv_O × gv_S → Prop} {p : Nat} (hp0 : oX11 G 0) (H : ((A 2 2) < 4294967296) ∧ (((0 < (A 2 2) ∧ (A 2 2) < 2147483648) → (p < 4294967296) ∧ ((A 2 2 ≤ 10) ∧ ((∀ k, k < A 2 2 → A (2 + 7) k < 4294967296) ∧ ((((cntN (fun k => decide (A (2 + 7) k = p)) (A 2 2)) * 100) < 2147483648) ∧ ((0 < (A 2 2)) ∧ (((A 2 2) < 2147483648) ∧ (P (.inl (some (.int (nI (((cntN (fun k => decide (A (2 + 7) k = p)) (A 2 2)) * 100) / (A 2 2))))), (G, (mI A, j), cc))))))))) ∧ (((A 2 2) = 0 ∨ 2147483648 ≤ (A 2 2)) → P (.inl (some (.int (nI 0))), (G, (mI A, j), cc))))) : EvP X (d + 1) gvm_121 0 (gv_enter [.ref 0, .int (nI p)] 2) [] (G, (mI A, j), cc) P :=
  (pv_aload_n rfl rfl   (pv_getP rfl rfl (oX11_k hp0) (oX11_3 hp0)   (pn_getI rfl rfl (oX10_k (oX11_3c hp0)) rfl   (pn_if_gt rfl H.1 (fun c1 => (pv_aload_n rfl rfl   (pv_getP rfl rfl (oX11_k hp0) (oX11_3 hp0)   (pv_iload_n rfl rfl   (pv_virt rfl rfl rfl rfl rfl (oX10_k (oX11_3c hp0)) rfl rfl rfl (c_usesOf (p := p) (A := A) (oX11_3c hp0) (H.2.1 c1).1 (H.2.1 c1).2.1 (H.2.1 c1).2.2.1 ) (pn_bipush rfl rfl   (pn_imul rfl   (pv_aload_n rfl rfl   (pv_getP rfl rfl (oX11_k hp0) (oX11_3 hp0)   (pn_getI rfl rfl (oX10_k (oX11_3c hp0)) rfl   (pn_idiv rfl (H.2.1 c1).2.2.2.1 (H.2.1 c1).2.2.2.2.1 (H.2.1 c1).2.2.2.2.2.1  (pv_ireti rfl rfl (H.2.1 c1).2.2.2.2.2.2)))))))))))) (fun c1 => (pn_iconst rfl rfl   (pv_goto rfl (pv_ireti rfl rfl (H.2.2 c1)))))))))
theorem c_share_p {X : gv_X} {d : Nat} {G : gv_Sh} {A : Nat → Nat → Nat} {j : Nat → Nat → Int64} {cc : gv_Rs} {P : gv_O × gv_S → Prop} {p : Nat} {R : Nat → Nat} (hp0 : oX11 G 0) (p0 : cQ A R) (p1 : p < R 0) (hP : P (.inl (some (.int (nI (if R 3 = 0 then 0 else 100 * usN R p / R 3)))), (G, (mI A, j), cc))) : EvP X (d + 1) gvm_121 0 (gv_enter [.ref 0, .int (nI p)] 2) [] (G, (mI A, j), cc) P := by
  have n := okW_n p0.1
  have e := p0.2.1.2.1
  have e2 : A 2 2 = R 3 := e.1
  have pb := rP_b e p0.1
  have us := usN_le p0.1 p
  have ec := rP_us e p
  refine w121 hp0 ?_
  rw [ec, e2]
  refine ⟨by omega, fun c1 => ⟨by omega, by omega, by have := pb.2; rw [e2] at this; exact this, by omega, by omega, by omega, ?_⟩, fun c1 => ?_⟩
  · rw [if_neg (by omega), Nat.mul_comm] at hP; exact hP
  · rw [if_pos (by omega)] at hP; exact hP
theorem c_share {X : gv_X} {d : Nat} {G : gv_Sh} {A : Nat → Nat → Nat} {j : Nat → Nat → Int64} {cc : gv_Rs} {p : Nat} {R : Nat → Nat} (hp0 : oX11 G 0) (p0 : cQ A R) (p1 : p < R 0) : Ev X (d + 1) gvm_121 0 (gv_enter [.ref 0, .int (nI p)] 2) [] (G, (mI A, j), cc) (.inl (some (.int (nI (if R 3 = 0 then 0 else 100 * usN R p / R 3)))), (G, (mI A, j), cc)) := evp_det (c_share_p hp0 p0 p1 rfl)
theorem w143 {X : gv_X} {d : Nat} {G : gv_Sh} {A : Nat → Nat → Nat} {j : Nat → Nat → Int64} {cc : gv_Rs} {P : gv_O × gv_S → Prop} {R : Nat → Nat} (hp0 : oX11 G 0) (H : (okW R) ∧ ((rO A 3 R) ∧ ((3 + 6 ≤ 54) ∧ ((knI A R) ∧ ((∀ A1v1 : Nat → Nat → Nat, ((stT A1v1 R) ∧ (knI A1v1 R) ∧ (frZ A A1v1)) → (okW R) ∧ ((rW A1v1 2 R) ∧ ((17 + 15 ≤ 2 ∨ 2 + 15 ≤ 17) ∧ ((∀ A1v2 : Nat → Nat → Nat, ((rW A1v2 17 R) ∧ (∀ q, (q < 17 ∨ 17 + 14 < q) → A1v2 q = A1v1 q)) → P (.inl none, (G, (mI A1v2, j), cc)))))))))))) : EvP X (d + 6) gvm_143 0 (gv_enter [.ref 0] 1) [] (G, (mI A, j), cc) P :=
  (pv_aload_n rfl rfl   (pv_getP rfl rfl (oX11_k hp0) (oX11_7 hp0)   (pv_getP rfl rfl (oX4_k (oX11_7c hp0)) (oX4_1 (oX11_7c hp0))   (pv_aload_n rfl rfl   (pv_getP rfl rfl (oX11_k hp0) (oX11_3 hp0)   (pv_getP rfl rfl (oX10_k (oX11_3c hp0)) (oX10_0 (oX11_3c hp0))   (match (c_learn (R := R) (A := A) (X := X) (d := d + 0) (G := G) (j := j) (cc := cc) (oX4_1c (oX11_7c hp0)) (oX10_0c (oX11_3c hp0)) H.1 H.2.1 H.2.2.1 H.2.2.2.1 ) with | ⟨A1v1, e2x14, h1⟩ => pv_virt rfl rfl rfl rfl rfl (oX9_k (oX4_1c (oX11_7c hp0))) rfl rfl rfl e2x14 (pv_aload_n rfl rfl   (pv_getP rfl rfl (oX11_k hp0) (oX11_4 hp0)   (pv_aload_n rfl rfl   (pv_getP rfl rfl (oX11_k hp0) (oX11_3 hp0)   (match (c_copyWorld (R := R) (A := A1v1) (X := X) (d := d + 4) (G := G) (j := j) (cc := cc) (oX11_4c hp0) (oX11_3c hp0) (H.2.2.2.2 A1v1 h1).1 (H.2.2.2.2 A1v1 h1).2.1 (H.2.2.2.2 A1v1 h1).2.2.1 ) with | ⟨A1v2, e2x25, h2⟩ => pv_virt rfl rfl rfl rfl rfl (oX10_k (oX11_4c hp0)) rfl rfl rfl e2x25 (pv_vret rfl ((H.2.2.2.2 A1v1 h1).2.2.2 A1v2 h2))))))))))))))
theorem c_makeSpare_p {X : gv_X} {d : Nat} {G : gv_Sh} {A : Nat → Nat → Nat} {j : Nat → Nat → Int64} {cc : gv_Rs} {P : gv_O × gv_S → Prop} {R : Nat → Nat} (hp0 : oX11 G 0) (p0 : cK A R) (hP : ∀ A1 : Nat → Nat → Nat, (cQ A1 R) ∧ (rW A1 17 R) ∧ (frK A A1) → P (.inl none, (G, (mI A1, j), cc))) : EvP X (d + 6) gvm_143 0 (gv_enter [.ref 0] 1) [] (G, (mI A, j), cc) P := by
  obtain ⟨o, r, kn, ll, ru, sm⟩ := p0
  refine w143 (R := R) hp0 ⟨o, r.1, by decide, kn, fun B h1 => ?_⟩
  have q := cK_Z ⟨o, r, kn, ll, ru, sm⟩ h1.1 h1.2.1 h1.2.2
  refine ⟨o, q.1.2.1, by decide, fun C h2 => ?_⟩
  have f : frW B C 17 := fun q a b => h2.2 q (by omega)
  have q2 := cQ_w q.1 (lg_of q.1.2.2.2 (fun q hq => h2.2 q (by omega))) f
  exact hP C ⟨q2.1, h2.1, frK_tr q.2 q2.2⟩
theorem c_makeSpare {X : gv_X} {d : Nat} {G : gv_Sh} {A : Nat → Nat → Nat} {j : Nat → Nat → Int64} {cc : gv_Rs} {R : Nat → Nat} (hp0 : oX11 G 0) (p0 : cK A R) : ∃ A1 : Nat → Nat → Nat, Ev X (d + 6) gvm_143 0 (gv_enter [.ref 0] 1) [] (G, (mI A, j), cc) (.inl none, (G, (mI A1, j), cc)) ∧ (cQ A1 R) ∧ (rW A1 17 R) ∧ (frK A A1) := by
  obtain ⟨_, h, A1, rfl, hp⟩ := c_makeSpare_p (X := X) (d := d) (G := G) (A := A) (j := j) (cc := cc) (R := R) (P := fun r => ∃ A1 : Nat → Nat → Nat, r = (.inl none, (G, (mI A1, j), cc)) ∧ (cQ A1 R) ∧ (rW A1 17 R) ∧ (frK A A1)) hp0 p0 (fun A1 h => ⟨A1, rfl, h⟩)
  exact ⟨A1, h, hp⟩
