theorem gv_main : gv_goal := fun L xs hL => kMain (xs, L) hL
theorem i_vc : Claimed_1_1 ∧ Claimed_1_2 := gv_i_vc gv_main
