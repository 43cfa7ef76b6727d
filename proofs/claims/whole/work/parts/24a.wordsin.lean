/-! they stand there -/
def gv_scan : List Cond → List Cond → Bool
  | _, [] => true
  | [], _ :: _ => false
  | t :: ts, w :: ws => bif decide (t = w) then gv_scan ts ws else gv_scan ts (w :: ws)
theorem gv_scan_in : ∀ (ts ws : List Cond), gv_scan ts ws = true → ∀ w ∈ ws, w ∈ ts
  | _, [], _, w, hw => nomatch hw
  | [], _ :: _, h, _, _ => nomatch h
  | t :: ts, w :: ws, h, x, hx => by
    unfold gv_scan at h
    cases hd : decide (t = w) with
    | true =>
      rw [hd] at h
      have e := of_decide_eq_true hd
      rcases List.mem_cons.mp hx with rfl | hx
      · rw [e]; exact List.mem_cons_self
      · exact List.mem_cons_of_mem _ (gv_scan_in ts ws h x hx)
    | false =>
      rw [hd] at h
      exact List.mem_cons_of_mem _ (gv_scan_in ts (w :: ws) h x hx)
theorem gv_pick {ws : List Cond} (ks : List Nat) (h : ws.all (fun w => decide (w ∈ ks.filterMap (fun k => ws[k]?))) = true) {big : List Cond} (h2 : ∀ w ∈ ks.filterMap (fun k => ws[k]?), w ∈ big) : ∀ w ∈ ws, w ∈ big := fun w hw => h2 w (of_decide_eq_true (List.all_eq_true.mp h w hw))
theorem gv_cut {ws : List Cond} (n : Nat) {big : List Cond} (h1 : ∀ w ∈ ws.take n, w ∈ big) (h2 : ∀ w ∈ ws.drop n, w ∈ big) : ∀ w ∈ ws, w ∈ big := by
  intro w hw
  rw [← List.take_append_drop n ws] at hw
  exact (List.mem_append.mp hw).elim (h1 w) (h2 w)
theorem gv_cut2 {ws : List Cond} {d : Nat} (n : Nat) {big : List Cond} (h1 : ∀ w ∈ (ws.drop d).take n, w ∈ big) (h2 : ∀ w ∈ ws.drop (d + n), w ∈ big) : ∀ w ∈ ws.drop d, w ∈ big := by
  intro w hw
  rw [← List.take_append_drop n (ws.drop d)] at hw
  exact (List.mem_append.mp hw).elim (h1 w) (fun h => h2 w (by rw [List.drop_drop] at h; exact h))
set_option maxRecDepth 100000 in
set_option maxHeartbeats 4000000 in
theorem gv_T1_s0 : gv_scan lw_tbl ((gv_T1.drop 0).take 60) = true := by decide +kernel
set_option maxRecDepth 100000 in
set_option maxHeartbeats 4000000 in
theorem gv_T1_s60 : gv_scan lw_tbl ((gv_T1.drop 60).take 60) = true := by decide +kernel
set_option maxRecDepth 100000 in
set_option maxHeartbeats 4000000 in
theorem gv_T1_s120 : gv_scan lw_tbl ((gv_T1.drop 120).take 44) = true := by decide +kernel
theorem gv_T1_in : ∀ w ∈ gv_T1, w ∈ lw_tbl := fun w h => (gv_cut2 60 (gv_scan_in _ _ gv_T1_s0) (gv_cut2 60 (gv_scan_in _ _ gv_T1_s60) (fun w h => gv_scan_in _ _ gv_T1_s120 w (by rw [List.take_of_length_le (by decide +kernel)]; exact h)))) w (by rw [List.drop_zero]; exact h)
set_option maxRecDepth 100000 in
set_option maxHeartbeats 4000000 in
theorem gv_T2_c : gv_cl.all (fun r => gv_scan lw_tbl (u_ws r.1 r.2.1 r.2.2)) = true := by decide +kernel
theorem gv_T2_in : ∀ w ∈ gv_T2, w ∈ lw_tbl := by
  intro w hw
  obtain ⟨r, hr, hw⟩ := List.mem_flatMap.mp hw
  exact gv_scan_in _ _ (List.all_eq_true.mp gv_T2_c r hr) w hw
set_option maxRecDepth 100000 in
set_option maxHeartbeats 4000000 in
theorem gv_T3_s0 : gv_scan lw_tbl ((gv_T3.drop 0).take 60) = true := by decide +kernel
set_option maxRecDepth 100000 in
set_option maxHeartbeats 4000000 in
theorem gv_T3_s60 : gv_scan lw_tbl ((gv_T3.drop 60).take 60) = true := by decide +kernel
set_option maxRecDepth 100000 in
set_option maxHeartbeats 4000000 in
theorem gv_T3_s120 : gv_scan lw_tbl ((gv_T3.drop 120).take 60) = true := by decide +kernel
set_option maxRecDepth 100000 in
set_option maxHeartbeats 4000000 in
theorem gv_T3_s180 : gv_scan lw_tbl ((gv_T3.drop 180).take 60) = true := by decide +kernel
