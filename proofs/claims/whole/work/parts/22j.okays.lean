set_option maxRecDepth 100000 in
set_option maxHeartbeats 4000000 in
theorem gvl_0 : (List.range 100).all (fun x => gv_chk 13 gv_law (0 + x)) = true := by decide +kernel
set_option maxRecDepth 100000 in
set_option maxHeartbeats 4000000 in
theorem gvl_1 : (List.range 100).all (fun x => gv_chk 13 gv_law (100 + x)) = true := by decide +kernel
set_option maxRecDepth 100000 in
set_option maxHeartbeats 4000000 in
theorem gvl_2 : (List.range 100).all (fun x => gv_chk 13 gv_law (200 + x)) = true := by decide +kernel
set_option maxRecDepth 100000 in
set_option maxHeartbeats 4000000 in
theorem gvl_3 : (List.range 100).all (fun x => gv_chk 13 gv_law (300 + x)) = true := by decide +kernel
set_option maxRecDepth 100000 in
set_option maxHeartbeats 4000000 in
theorem gvl_4 : (List.range 100).all (fun x => gv_chk 13 gv_law (400 + x)) = true := by decide +kernel
set_option maxRecDepth 100000 in
set_option maxHeartbeats 4000000 in
theorem gvl_5 : (List.range 100).all (fun x => gv_chk 13 gv_law (500 + x)) = true := by decide +kernel
set_option maxRecDepth 100000 in
set_option maxHeartbeats 4000000 in
theorem gvl_6 : (List.range 100).all (fun x => gv_chk 13 gv_law (600 + x)) = true := by decide +kernel
set_option maxRecDepth 100000 in
set_option maxHeartbeats 4000000 in
theorem gvl_7 : (List.range 100).all (fun x => gv_chk 13 gv_law (700 + x)) = true := by decide +kernel
set_option maxRecDepth 100000 in
set_option maxHeartbeats 4000000 in
theorem gvl_8 : (List.range 100).all (fun x => gv_chk 13 gv_law (800 + x)) = true := by decide +kernel
set_option maxRecDepth 100000 in
set_option maxHeartbeats 4000000 in
theorem gvl_9 : (List.range 100).all (fun x => gv_chk 13 gv_law (900 + x)) = true := by decide +kernel
set_option maxRecDepth 100000 in
set_option maxHeartbeats 4000000 in
theorem gvl_10 : (List.range 100).all (fun x => gv_chk 13 gv_law (1000 + x)) = true := by decide +kernel
set_option maxRecDepth 100000 in
set_option maxHeartbeats 4000000 in
theorem gvl_11 : (List.range 100).all (fun x => gv_chk 13 gv_law (1100 + x)) = true := by decide +kernel
set_option maxRecDepth 100000 in
set_option maxHeartbeats 4000000 in
theorem gvl_12 : (List.range 100).all (fun x => gv_chk 13 gv_law (1200 + x)) = true := by decide +kernel
set_option maxRecDepth 100000 in
set_option maxHeartbeats 4000000 in
theorem gvl_13 : (List.range 100).all (fun x => gv_chk 13 gv_law (1300 + x)) = true := by decide +kernel
set_option maxRecDepth 100000 in
set_option maxHeartbeats 4000000 in
theorem gvl_14 : (List.range 100).all (fun x => gv_chk 13 gv_law (1400 + x)) = true := by decide +kernel
set_option maxRecDepth 100000 in
set_option maxHeartbeats 4000000 in
theorem gvl_15 : (List.range 100).all (fun x => gv_chk 13 gv_law (1500 + x)) = true := by decide +kernel
set_option maxRecDepth 100000 in
set_option maxHeartbeats 4000000 in
theorem gvl_16 : (List.range 100).all (fun x => gv_chk 13 gv_law (1600 + x)) = true := by decide +kernel
set_option maxRecDepth 100000 in
set_option maxHeartbeats 4000000 in
theorem gvl_17 : (List.range 100).all (fun x => gv_chk 13 gv_law (1700 + x)) = true := by decide +kernel
set_option maxRecDepth 100000 in
set_option maxHeartbeats 4000000 in
theorem gvl_18 : (List.range 100).all (fun x => gv_chk 13 gv_law (1800 + x)) = true := by decide +kernel
set_option maxRecDepth 100000 in
set_option maxHeartbeats 4000000 in
theorem gvl_19 : (List.range 100).all (fun x => gv_chk 13 gv_law (1900 + x)) = true := by decide +kernel
set_option maxRecDepth 100000 in
set_option maxHeartbeats 4000000 in
theorem gvl_20 : (List.range 100).all (fun x => gv_chk 13 gv_law (2000 + x)) = true := by decide +kernel
set_option maxRecDepth 100000 in
set_option maxHeartbeats 4000000 in
theorem gvl_21 : (List.range 100).all (fun x => gv_chk 13 gv_law (2100 + x)) = true := by decide +kernel
set_option maxRecDepth 100000 in
set_option maxHeartbeats 4000000 in
theorem gvl_22 : (List.range 100).all (fun x => gv_chk 13 gv_law (2200 + x)) = true := by decide +kernel
set_option maxRecDepth 100000 in
set_option maxHeartbeats 4000000 in
theorem gvl_23 : (List.range 100).all (fun x => gv_chk 13 gv_law (2300 + x)) = true := by decide +kernel
set_option maxRecDepth 100000 in
set_option maxHeartbeats 4000000 in
theorem gvl_24 : (List.range 100).all (fun x => gv_chk 13 gv_law (2400 + x)) = true := by decide +kernel
set_option maxRecDepth 100000 in
set_option maxHeartbeats 4000000 in
theorem gvl_25 : (List.range 100).all (fun x => gv_chk 13 gv_law (2500 + x)) = true := by decide +kernel
set_option maxRecDepth 100000 in
set_option maxHeartbeats 4000000 in
theorem gvl_26 : (List.range 100).all (fun x => gv_chk 13 gv_law (2600 + x)) = true := by decide +kernel
set_option maxRecDepth 100000 in
set_option maxHeartbeats 4000000 in
theorem gvl_27 : (List.range 100).all (fun x => gv_chk 13 gv_law (2700 + x)) = true := by decide +kernel
theorem gv_piece {P : Nat → Bool} {a k p : Nat} (h : (List.range k).all (fun x => P (a + x)) = true) (h1 : a ≤ p) (h2 : p < a + k) : P p = true := by
  have := List.all_eq_true.mp h (p - a) (List.mem_range.mpr (by omega))
  rwa [show a + (p - a) = p from by omega] at this
theorem gvl_all : (List.range 2745).all (gv_chk 13 gv_law) = true := by
  refine List.all_eq_true.mpr (fun p hp => ?_)
  have hp := List.mem_range.mp hp
  by_cases h0 : p < 100
  · exact gv_piece gvl_0 (by omega) (by omega)
  by_cases h1 : p < 200
  · exact gv_piece gvl_1 (by omega) (by omega)
  by_cases h2 : p < 300
  · exact gv_piece gvl_2 (by omega) (by omega)
  by_cases h3 : p < 400
  · exact gv_piece gvl_3 (by omega) (by omega)
  by_cases h4 : p < 500
  · exact gv_piece gvl_4 (by omega) (by omega)
  by_cases h5 : p < 600
  · exact gv_piece gvl_5 (by omega) (by omega)
  by_cases h6 : p < 700
  · exact gv_piece gvl_6 (by omega) (by omega)
  by_cases h7 : p < 800
  · exact gv_piece gvl_7 (by omega) (by omega)
  by_cases h8 : p < 900
  · exact gv_piece gvl_8 (by omega) (by omega)
  by_cases h9 : p < 1000
  · exact gv_piece gvl_9 (by omega) (by omega)
  by_cases h10 : p < 1100
  · exact gv_piece gvl_10 (by omega) (by omega)
  by_cases h11 : p < 1200
  · exact gv_piece gvl_11 (by omega) (by omega)
  by_cases h12 : p < 1300
  · exact gv_piece gvl_12 (by omega) (by omega)
  by_cases h13 : p < 1400
  · exact gv_piece gvl_13 (by omega) (by omega)
  by_cases h14 : p < 1500
  · exact gv_piece gvl_14 (by omega) (by omega)
  by_cases h15 : p < 1600
  · exact gv_piece gvl_15 (by omega) (by omega)
  by_cases h16 : p < 1700
  · exact gv_piece gvl_16 (by omega) (by omega)
  by_cases h17 : p < 1800
  · exact gv_piece gvl_17 (by omega) (by omega)
  by_cases h18 : p < 1900
  · exact gv_piece gvl_18 (by omega) (by omega)
  by_cases h19 : p < 2000
  · exact gv_piece gvl_19 (by omega) (by omega)
  by_cases h20 : p < 2100
  · exact gv_piece gvl_20 (by omega) (by omega)
  by_cases h21 : p < 2200
  · exact gv_piece gvl_21 (by omega) (by omega)
  by_cases h22 : p < 2300
  · exact gv_piece gvl_22 (by omega) (by omega)
  by_cases h23 : p < 2400
  · exact gv_piece gvl_23 (by omega) (by omega)
  by_cases h24 : p < 2500
  · exact gv_piece gvl_24 (by omega) (by omega)
  by_cases h25 : p < 2600
  · exact gv_piece gvl_25 (by omega) (by omega)
  by_cases h26 : p < 2700
  · exact gv_piece gvl_26 (by omega) (by omega)
  exact gv_piece gvl_27 (by omega) (by omega)
set_option maxRecDepth 100000 in
set_option maxHeartbeats 4000000 in
theorem gvl_rest : (decide (gv_on 13 = gv_law.1.cls) && plainFor gv_law.1 && Nat.ble gv_law.2.2.1 41 && gv_law.2.2.2.2.1.all (fun r => gv_hnT.contains (13, r.2.2.2.1, r.2.2.2.2))) = true := by decide +kernel
theorem gvo_law : gv_okL gv_cl gv_fkT gv_tfT gv_meth gv_Ts gv_nests gv_strs gv_thrs gv_hnds gv_law := gv_chkM_ok (o := 13) (n := 2745) rfl (by
  unfold gv_chkM
  rw [gvl_rest, gvl_all]
  rfl)
