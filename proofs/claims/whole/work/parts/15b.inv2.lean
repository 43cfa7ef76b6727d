set_option maxHeartbeats 4000000 in
set_option maxRecDepth 100000 in
theorem gv_thr_inv {fk : List (List Nat)} {tx : List (List Int32)} {X : gv_X} {M : gv_Mt} {pc : Nat} {lo : gv_L} {st : List Value} {S : gv_S} {x : Nat} (h : gv_step fk tx X M pc lo st S = some (.inr (.inr (.inr (.inr x))))) : ∃ i a b z, M.2.2.2.2.2 pc = (.new i, a, b, z) ∧ 300 ≤ a ∧ x = a - 300 ∧ gv_cat st ≤ 8 := by
  unfold gv_step at h
  rcases hE : M.2.2.2.2.2 pc with ⟨i, a, b, k⟩
  rw [hE] at h
  cases i with
  | iconst _ =>
    have e := gv_go_some h
    cases e
  | bipush _ =>
    have e := gv_go_some h
    cases e
  | sipush _ =>
    have e := gv_go_some h
    cases e
  | lconst _ =>
    have e := gv_go_some h
    cases e
  | ldc2_w _ =>
    have e := gv_go_some h
    cases e
  | goto _ =>
    have e := gv_go_some h
    cases e
  | ldc _ =>
    dsimp only at h
    split at h
    · have e := gv_go_some h
      cases e
    · have e := gv_go_some h
      cases e
  | ldc_w _ =>
    dsimp only at h
    split at h
    · have e := gv_go_some h
      cases e
    · have e := gv_go_some h
      cases e
  | iload_n _ =>
    obtain ⟨_, -, g⟩ := gv_li_some h
    have e := gv_go_some g
    cases e
  | iload _ =>
    obtain ⟨_, -, g⟩ := gv_li_some h
    have e := gv_go_some g
    cases e
  | lload_n _ =>
    obtain ⟨_, -, g⟩ := gv_ll_some h
    have e := gv_go_some g
    cases e
  | lload _ =>
    obtain ⟨_, -, g⟩ := gv_ll_some h
    have e := gv_go_some g
    cases e
  | aload_n _ =>
    obtain ⟨_, -, -, g⟩ := gv_la_some h
    have e := gv_go_some g
    cases e
  | aload _ =>
    obtain ⟨_, -, -, g⟩ := gv_la_some h
    have e := gv_go_some g
    cases e
  | istore_n _ =>
    obtain ⟨_, _, -, g⟩ := gv_pi_some h
    obtain ⟨-, -, g1⟩ := gv_sto_some g
    have e := gv_go_some g1
    cases e
  | istore _ =>
    obtain ⟨_, _, -, g⟩ := gv_pi_some h
    obtain ⟨-, -, g1⟩ := gv_sto_some g
    have e := gv_go_some g1
    cases e
  | lstore_n _ =>
    obtain ⟨_, _, -, g⟩ := gv_pl_some h
    obtain ⟨-, -, g1⟩ := gv_sto2_some g
    have e := gv_go_some g1
    cases e
  | lstore _ =>
    obtain ⟨_, _, -, g⟩ := gv_pl_some h
    obtain ⟨-, -, g1⟩ := gv_sto2_some g
    have e := gv_go_some g1
    cases e
  | astore_n _ =>
    obtain ⟨_, _, -, -, g⟩ := gv_pa_some h
    obtain ⟨-, -, g1⟩ := gv_sto_some g
    have e := gv_go_some g1
    cases e
  | astore _ =>
    obtain ⟨_, _, -, -, g⟩ := gv_pa_some h
    obtain ⟨-, -, g1⟩ := gv_sto_some g
    have e := gv_go_some g1
    cases e
  | iinc _ _ =>
    obtain ⟨_, -, g⟩ := gv_li_some h
    obtain ⟨-, -, g1⟩ := gv_sto_some g
    have e := gv_go_some g1
    cases e
  | iadd =>
    obtain ⟨_, _, -, g⟩ := gv_pi_some h
    obtain ⟨_, _, -, g1⟩ := gv_pi_some g
    have e := gv_go_some g1
    cases e
  | isub =>
    obtain ⟨_, _, -, g⟩ := gv_pi_some h
    obtain ⟨_, _, -, g1⟩ := gv_pi_some g
    have e := gv_go_some g1
    cases e
  | imul =>
    obtain ⟨_, _, -, g⟩ := gv_pi_some h
    obtain ⟨_, _, -, g1⟩ := gv_pi_some g
    have e := gv_go_some g1
    cases e
  | iand =>
    obtain ⟨_, _, -, g⟩ := gv_pi_some h
    obtain ⟨_, _, -, g1⟩ := gv_pi_some g
    have e := gv_go_some g1
    cases e
  | ior =>
    obtain ⟨_, _, -, g⟩ := gv_pi_some h
    obtain ⟨_, _, -, g1⟩ := gv_pi_some g
    have e := gv_go_some g1
    cases e
  | ixor =>
    obtain ⟨_, _, -, g⟩ := gv_pi_some h
    obtain ⟨_, _, -, g1⟩ := gv_pi_some g
    have e := gv_go_some g1
    cases e
  | ishl =>
    obtain ⟨_, _, -, g⟩ := gv_pi_some h
    obtain ⟨_, _, -, g1⟩ := gv_pi_some g
    have e := gv_go_some g1
    cases e
  | ishr =>
    obtain ⟨_, _, -, g⟩ := gv_pi_some h
    obtain ⟨_, _, -, g1⟩ := gv_pi_some g
    have e := gv_go_some g1
    cases e
  | iushr =>
    obtain ⟨_, _, -, g⟩ := gv_pi_some h
    obtain ⟨_, _, -, g1⟩ := gv_pi_some g
    have e := gv_go_some g1
    cases e
  | idiv =>
    obtain ⟨_, _, -, g⟩ := gv_pi_some h
    obtain ⟨_, _, -, g1⟩ := gv_pi_some g
    obtain ⟨-, g2⟩ := gv_gd_some g1
    have e := gv_go_some g2
    cases e
  | irem =>
    obtain ⟨_, _, -, g⟩ := gv_pi_some h
    obtain ⟨_, _, -, g1⟩ := gv_pi_some g
    obtain ⟨-, g2⟩ := gv_gd_some g1
    have e := gv_go_some g2
    cases e
  | ineg =>
    obtain ⟨_, _, -, g⟩ := gv_pi_some h
    have e := gv_go_some g
    cases e
  | i2l =>
    obtain ⟨_, _, -, g⟩ := gv_pi_some h
    have e := gv_go_some g
    cases e
  | i2b =>
    obtain ⟨_, _, -, g⟩ := gv_pi_some h
    have e := gv_go_some g
    cases e
  | l2i =>
    obtain ⟨_, _, -, g⟩ := gv_pl_some h
    have e := gv_go_some g
    cases e
  | ladd =>
    obtain ⟨_, _, -, g⟩ := gv_pl_some h
    obtain ⟨_, _, -, g1⟩ := gv_pl_some g
    have e := gv_go_some g1
    cases e
  | lmul =>
    obtain ⟨_, _, -, g⟩ := gv_pl_some h
    obtain ⟨_, _, -, g1⟩ := gv_pl_some g
    have e := gv_go_some g1
    cases e
  | lcmp =>
    obtain ⟨_, _, -, g⟩ := gv_pl_some h
    obtain ⟨_, _, -, g1⟩ := gv_pl_some g
    have e := gv_go_some g1
    cases e
  | ldiv =>
    obtain ⟨_, _, -, g⟩ := gv_pl_some h
    obtain ⟨_, _, -, g1⟩ := gv_pl_some g
    obtain ⟨-, g2⟩ := gv_gd_some g1
    have e := gv_go_some g2
    cases e
  | dup =>
    match st, h with
    | v :: r, h =>
      obtain ⟨-, g⟩ := gv_gd_some h
      have e := gv_go_some g
      cases e
  | pop =>
    match st, h with
    | v :: r, h =>
      obtain ⟨-, g⟩ := gv_gd_some h
      have e := gv_go_some g
      cases e
  | dup2 =>
    match st, h with
    | v :: w :: r, h =>
      obtain ⟨-, g⟩ := gv_gd_some h
      have e := gv_go_some g
      cases e
  | ifCond _ _ =>
    obtain ⟨_, _, -, g⟩ := gv_pi_some h
    cases g
  | if_icmp _ _ =>
    obtain ⟨_, _, -, g⟩ := gv_pi_some h
    obtain ⟨_, _, -, g1⟩ := gv_pi_some g
    cases g1
  | tableswitch _ _ _ os =>
    obtain ⟨_, _, -, g⟩ := gv_pi_some h
    split at g
    · obtain ⟨_, e⟩ := gv_jmp_some g
      cases e
    · split at g
      · obtain ⟨_, e⟩ := gv_jmp_some g
        cases e
      · cases g
  | lookupswitch _ _ =>
    obtain ⟨_, _, -, g⟩ := gv_pi_some h
    obtain ⟨_, e⟩ := gv_jmp_some g
    cases e
  | getfield _ =>
    obtain ⟨_, _, -, g⟩ := gv_pr_some h
    obtain ⟨-, g1⟩ := gv_gd_some g
    split at g1
    · split at g1
      · have e := gv_go_some g1
        cases e
      · cases g1
    · cases g1
    · have e := gv_go_some g1
      cases e
  | putfield _ =>
    dsimp only at h
    split at h
    · obtain ⟨_, _, -, g⟩ := gv_pi_some h
      obtain ⟨_, _, -, g1⟩ := gv_pr_some g
      obtain ⟨-, g2⟩ := gv_gd_some g1
      have e := gv_go_some g2
      cases e
    · obtain ⟨_, _, -, g⟩ := gv_pi_some h
      obtain ⟨_, _, -, g1⟩ := gv_pr_some g
      obtain ⟨-, g2⟩ := gv_gd_some g1
      have e := gv_go_some g2
      cases e
    · obtain ⟨_, _, -, g⟩ := gv_pr_some h
      obtain ⟨_, _, -, g1⟩ := gv_pr_some g
      obtain ⟨-, g2⟩ := gv_gd_some g1
      have e := gv_go_some g2
      cases e
    · cases h
  | iaload =>
    obtain ⟨_, _, -, g⟩ := gv_pi_some h
    split at g
    · obtain ⟨-, g1⟩ := gv_gd_some g
      have e := gv_go_some g1
      cases e
    · obtain ⟨-, g1⟩ := gv_gd_some g
      have e := gv_go_some g1
      cases e
    · cases g
  | baload =>
    obtain ⟨_, _, -, g⟩ := gv_pi_some h
    obtain ⟨_, _, -, g1⟩ := gv_pr_some g
    obtain ⟨-, g2⟩ := gv_gd_some g1
    have e := gv_go_some g2
    cases e
  | laload =>
    obtain ⟨_, _, -, g⟩ := gv_pi_some h
    obtain ⟨_, _, -, g1⟩ := gv_pr_some g
    obtain ⟨-, g2⟩ := gv_gd_some g1
    have e := gv_go_some g2
    cases e
  | aaload =>
    obtain ⟨_, _, -, g⟩ := gv_pi_some h
    obtain ⟨_, _, -, g1⟩ := gv_pr_some g
    obtain ⟨-, g2⟩ := gv_gd_some g1
    split at g2
    · have e := gv_go_some g2
      cases e
    · cases g2
  | iastore =>
    obtain ⟨_, _, -, g⟩ := gv_pi_some h
    obtain ⟨_, _, -, g1⟩ := gv_pi_some g
    obtain ⟨_, _, -, g2⟩ := gv_pr_some g1
    obtain ⟨-, g3⟩ := gv_gd_some g2
    have e := gv_go_some g3
    cases e
  | bastore =>
    obtain ⟨_, _, -, g⟩ := gv_pi_some h
    obtain ⟨_, _, -, g1⟩ := gv_pi_some g
    obtain ⟨_, _, -, g2⟩ := gv_pr_some g1
    obtain ⟨-, g3⟩ := gv_gd_some g2
    have e := gv_go_some g3
    cases e
  | lastore =>
    obtain ⟨_, _, -, g⟩ := gv_pl_some h
    obtain ⟨_, _, -, g1⟩ := gv_pi_some g
    obtain ⟨_, _, -, g2⟩ := gv_pr_some g1
    obtain ⟨-, g3⟩ := gv_gd_some g2
    have e := gv_go_some g3
    cases e
  | aastore =>
    obtain ⟨_, _, -, g⟩ := gv_pr_some h
    obtain ⟨_, _, -, g1⟩ := gv_pi_some g
    obtain ⟨_, _, -, g2⟩ := gv_pr_some g1
    obtain ⟨-, g3⟩ := gv_gd_some g2
    have e := gv_go_some g3
    cases e
  | arraylength =>
    dsimp only at h
    split at h
    · have e := gv_go_some h
      cases e
    · obtain ⟨-, g1⟩ := gv_gd_some h
      have e := gv_go_some g1
      cases e
    · cases h
  | new _ =>
    dsimp only at h
    split at h
    · rename_i h300
      obtain ⟨g0, g1⟩ := gv_gd_some h
      cases g1
      exact ⟨_, a, b, k, rfl, Nat.le_of_ble_eq_true h300, rfl, Nat.le_of_ble_eq_true g0⟩
    · obtain ⟨-, g1⟩ := gv_gd_some h
      have e := gv_go_some g1
      cases e
  | newarray _ =>
    obtain ⟨_, _, -, g⟩ := gv_pi_some h
    obtain ⟨-, g1⟩ := gv_gd_some g
    have e := gv_go_some g1
    cases e
  | anewarray _ =>
    obtain ⟨_, _, -, g⟩ := gv_pi_some h
    obtain ⟨-, g1⟩ := gv_gd_some g
    have e := gv_go_some g1
    cases e
  | invokevirtual _ =>
    dsimp only at h
    split at h
    · split at h
      · obtain ⟨_, _, -, g⟩ := gv_px_some h
        obtain ⟨-, g1⟩ := gv_gd_some g
        have e := gv_go_some g1
        cases e
      · obtain ⟨_, _, -, g⟩ := gv_pi_some h
        obtain ⟨_, _, -, g0⟩ := gv_px_some g
        obtain ⟨-, g1⟩ := gv_gd_some g0
        have e := gv_go_some g1
        cases e
    · obtain ⟨_, _, -, -, g⟩ := gv_args_some h
      obtain ⟨_, _, -, g0⟩ := gv_pr_some g
      obtain ⟨-, g1⟩ := gv_gd_some g0
      cases g1
  | invokespecial _ =>
    dsimp only at h
    split at h
    · obtain ⟨_, _, -, g⟩ := gv_pr_some h
      obtain ⟨-, g1⟩ := gv_gd_some g
      have e := gv_go_some g1
      cases e
    · obtain ⟨_, _, -, -, g⟩ := gv_args_some h
      obtain ⟨_, _, -, g0⟩ := gv_pr_some g
      obtain ⟨-, g1⟩ := gv_gd_some g0
      cases g1
  | invokestatic _ =>
    dsimp only at h
    split at h
    · obtain ⟨_, _, -, g⟩ := gv_pi_some h
      obtain ⟨_, _, -, g0⟩ := gv_pi_some g
      obtain ⟨_, _, -, g1⟩ := gv_pr_some g0
      obtain ⟨_, _, -, g2⟩ := gv_pi_some g1
      obtain ⟨_, _, -, g3⟩ := gv_pr_some g2
      obtain ⟨-, g4⟩ := gv_gd_some g3
      have e := gv_go_some g4
      cases e
    · obtain ⟨_, _, -, -, g⟩ := gv_args_some h
      obtain ⟨-, g1⟩ := gv_gd_some g
      cases g1
  | ireturn =>
    unfold gv_iret at h
    dsimp only at h
    split at h
    · split at h
      · cases h
      · obtain ⟨-, g⟩ := gv_gd_some h
        cases g
      · cases h
    · cases h
  | lreturn =>
    dsimp only at h
    split at h
    · cases h
    · cases h
  | return_ =>
    dsimp only at h
    split at h
    · cases h
    · cases h
  | _ => cases h
set_option maxHeartbeats 4000000 in
set_option maxRecDepth 100000 in
theorem gv_vhh {fk : List (List Nat)} {cl : List vw_C} {P : Nat → gv_Mt} {Ts : List Cond} {tf : Nat → Nat → FieldType} {nests : List (String × Nat × MethodName × String)} {strs : List (String × Nat × String × Nat)} {thrs : List (String × Nat × Nat × Nat × Nat × String)} {hnds : List (String × Nat × Nat)} {tx : List (List Int32)} {X : gv_X} {M : gv_Mt} {pc : Nat} {lo : gv_L} {st : List Value} {S : gv_S} {k' : Nat} {as rest : List Value} (h : gv_step fk tx X M pc lo st S = some (.inr (.inr (.inl (k', true, as, rest))))) (hM : gv_okL cl fk tf P Ts nests strs thrs hnds M) : (P k').2.2.2.2.1 = [] := by
  have ok := hM.1 pc
  unfold gv_okE at ok
  unfold gv_step at h
  rcases hE : M.2.2.2.2.2 pc with ⟨i, a, b, k⟩
  rw [hE] at h ok
  cases i with
  | iconst _ =>
    have e := gv_go_some h
    cases e
  | bipush _ =>
    have e := gv_go_some h
    cases e
  | sipush _ =>
    have e := gv_go_some h
    cases e
  | lconst _ =>
    have e := gv_go_some h
    cases e
  | ldc2_w _ =>
    have e := gv_go_some h
    cases e
  | goto _ =>
    have e := gv_go_some h
    cases e
  | ldc _ =>
    dsimp only at h
    split at h
    · have e := gv_go_some h
      cases e
    · have e := gv_go_some h
      cases e
  | ldc_w _ =>
    dsimp only at h
    split at h
    · have e := gv_go_some h
      cases e
    · have e := gv_go_some h
      cases e
  | iload_n _ =>
    obtain ⟨_, -, g⟩ := gv_li_some h
    have e := gv_go_some g
    cases e
  | iload _ =>
    obtain ⟨_, -, g⟩ := gv_li_some h
    have e := gv_go_some g
    cases e
  | lload_n _ =>
    obtain ⟨_, -, g⟩ := gv_ll_some h
    have e := gv_go_some g
    cases e
  | lload _ =>
    obtain ⟨_, -, g⟩ := gv_ll_some h
    have e := gv_go_some g
    cases e
  | aload_n _ =>
    obtain ⟨_, -, -, g⟩ := gv_la_some h
    have e := gv_go_some g
    cases e
  | aload _ =>
    obtain ⟨_, -, -, g⟩ := gv_la_some h
    have e := gv_go_some g
    cases e
  | istore_n _ =>
    obtain ⟨_, _, -, g⟩ := gv_pi_some h
    obtain ⟨-, -, g1⟩ := gv_sto_some g
    have e := gv_go_some g1
    cases e
  | istore _ =>
    obtain ⟨_, _, -, g⟩ := gv_pi_some h
    obtain ⟨-, -, g1⟩ := gv_sto_some g
    have e := gv_go_some g1
    cases e
  | lstore_n _ =>
    obtain ⟨_, _, -, g⟩ := gv_pl_some h
    obtain ⟨-, -, g1⟩ := gv_sto2_some g
    have e := gv_go_some g1
    cases e
  | lstore _ =>
    obtain ⟨_, _, -, g⟩ := gv_pl_some h
    obtain ⟨-, -, g1⟩ := gv_sto2_some g
    have e := gv_go_some g1
    cases e
  | astore_n _ =>
    obtain ⟨_, _, -, -, g⟩ := gv_pa_some h
    obtain ⟨-, -, g1⟩ := gv_sto_some g
    have e := gv_go_some g1
    cases e
  | astore _ =>
    obtain ⟨_, _, -, -, g⟩ := gv_pa_some h
    obtain ⟨-, -, g1⟩ := gv_sto_some g
    have e := gv_go_some g1
    cases e
  | iinc _ _ =>
    obtain ⟨_, -, g⟩ := gv_li_some h
    obtain ⟨-, -, g1⟩ := gv_sto_some g
    have e := gv_go_some g1
    cases e
  | iadd =>
    obtain ⟨_, _, -, g⟩ := gv_pi_some h
    obtain ⟨_, _, -, g1⟩ := gv_pi_some g
    have e := gv_go_some g1
    cases e
  | isub =>
    obtain ⟨_, _, -, g⟩ := gv_pi_some h
    obtain ⟨_, _, -, g1⟩ := gv_pi_some g
    have e := gv_go_some g1
    cases e
  | imul =>
    obtain ⟨_, _, -, g⟩ := gv_pi_some h
    obtain ⟨_, _, -, g1⟩ := gv_pi_some g
    have e := gv_go_some g1
    cases e
  | iand =>
    obtain ⟨_, _, -, g⟩ := gv_pi_some h
    obtain ⟨_, _, -, g1⟩ := gv_pi_some g
    have e := gv_go_some g1
    cases e
  | ior =>
    obtain ⟨_, _, -, g⟩ := gv_pi_some h
    obtain ⟨_, _, -, g1⟩ := gv_pi_some g
    have e := gv_go_some g1
    cases e
  | ixor =>
    obtain ⟨_, _, -, g⟩ := gv_pi_some h
    obtain ⟨_, _, -, g1⟩ := gv_pi_some g
    have e := gv_go_some g1
    cases e
  | ishl =>
    obtain ⟨_, _, -, g⟩ := gv_pi_some h
    obtain ⟨_, _, -, g1⟩ := gv_pi_some g
    have e := gv_go_some g1
    cases e
  | ishr =>
    obtain ⟨_, _, -, g⟩ := gv_pi_some h
    obtain ⟨_, _, -, g1⟩ := gv_pi_some g
    have e := gv_go_some g1
    cases e
  | iushr =>
    obtain ⟨_, _, -, g⟩ := gv_pi_some h
    obtain ⟨_, _, -, g1⟩ := gv_pi_some g
    have e := gv_go_some g1
    cases e
  | idiv =>
    obtain ⟨_, _, -, g⟩ := gv_pi_some h
    obtain ⟨_, _, -, g1⟩ := gv_pi_some g
    obtain ⟨-, g2⟩ := gv_gd_some g1
    have e := gv_go_some g2
    cases e
  | irem =>
    obtain ⟨_, _, -, g⟩ := gv_pi_some h
    obtain ⟨_, _, -, g1⟩ := gv_pi_some g
    obtain ⟨-, g2⟩ := gv_gd_some g1
    have e := gv_go_some g2
    cases e
  | ineg =>
    obtain ⟨_, _, -, g⟩ := gv_pi_some h
    have e := gv_go_some g
    cases e
  | i2l =>
    obtain ⟨_, _, -, g⟩ := gv_pi_some h
    have e := gv_go_some g
    cases e
  | i2b =>
    obtain ⟨_, _, -, g⟩ := gv_pi_some h
    have e := gv_go_some g
    cases e
  | l2i =>
    obtain ⟨_, _, -, g⟩ := gv_pl_some h
    have e := gv_go_some g
    cases e
  | ladd =>
    obtain ⟨_, _, -, g⟩ := gv_pl_some h
    obtain ⟨_, _, -, g1⟩ := gv_pl_some g
    have e := gv_go_some g1
    cases e
  | lmul =>
    obtain ⟨_, _, -, g⟩ := gv_pl_some h
    obtain ⟨_, _, -, g1⟩ := gv_pl_some g
    have e := gv_go_some g1
    cases e
  | lcmp =>
    obtain ⟨_, _, -, g⟩ := gv_pl_some h
    obtain ⟨_, _, -, g1⟩ := gv_pl_some g
    have e := gv_go_some g1
    cases e
  | ldiv =>
    obtain ⟨_, _, -, g⟩ := gv_pl_some h
    obtain ⟨_, _, -, g1⟩ := gv_pl_some g
    obtain ⟨-, g2⟩ := gv_gd_some g1
    have e := gv_go_some g2
    cases e
  | dup =>
    match st, h with
    | v :: r, h =>
      obtain ⟨-, g⟩ := gv_gd_some h
      have e := gv_go_some g
      cases e
  | pop =>
    match st, h with
    | v :: r, h =>
      obtain ⟨-, g⟩ := gv_gd_some h
      have e := gv_go_some g
      cases e
  | dup2 =>
    match st, h with
    | v :: w :: r, h =>
      obtain ⟨-, g⟩ := gv_gd_some h
      have e := gv_go_some g
      cases e
  | ifCond _ _ =>
    obtain ⟨_, _, -, g⟩ := gv_pi_some h
    cases g
  | if_icmp _ _ =>
    obtain ⟨_, _, -, g⟩ := gv_pi_some h
    obtain ⟨_, _, -, g1⟩ := gv_pi_some g
    cases g1
  | tableswitch _ _ _ os =>
    obtain ⟨_, _, -, g⟩ := gv_pi_some h
    split at g
    · obtain ⟨_, e⟩ := gv_jmp_some g
      cases e
    · split at g
      · obtain ⟨_, e⟩ := gv_jmp_some g
        cases e
      · cases g
  | lookupswitch _ _ =>
    obtain ⟨_, _, -, g⟩ := gv_pi_some h
    obtain ⟨_, e⟩ := gv_jmp_some g
    cases e
  | getfield _ =>
    obtain ⟨_, _, -, g⟩ := gv_pr_some h
    obtain ⟨-, g1⟩ := gv_gd_some g
    split at g1
    · split at g1
      · have e := gv_go_some g1
        cases e
      · cases g1
    · cases g1
    · have e := gv_go_some g1
      cases e
  | putfield _ =>
    dsimp only at h
    split at h
    · obtain ⟨_, _, -, g⟩ := gv_pi_some h
      obtain ⟨_, _, -, g1⟩ := gv_pr_some g
      obtain ⟨-, g2⟩ := gv_gd_some g1
      have e := gv_go_some g2
      cases e
    · obtain ⟨_, _, -, g⟩ := gv_pi_some h
      obtain ⟨_, _, -, g1⟩ := gv_pr_some g
      obtain ⟨-, g2⟩ := gv_gd_some g1
      have e := gv_go_some g2
      cases e
    · obtain ⟨_, _, -, g⟩ := gv_pr_some h
      obtain ⟨_, _, -, g1⟩ := gv_pr_some g
      obtain ⟨-, g2⟩ := gv_gd_some g1
      have e := gv_go_some g2
      cases e
    · cases h
  | iaload =>
    obtain ⟨_, _, -, g⟩ := gv_pi_some h
    split at g
    · obtain ⟨-, g1⟩ := gv_gd_some g
      have e := gv_go_some g1
      cases e
    · obtain ⟨-, g1⟩ := gv_gd_some g
      have e := gv_go_some g1
      cases e
    · cases g
  | baload =>
    obtain ⟨_, _, -, g⟩ := gv_pi_some h
    obtain ⟨_, _, -, g1⟩ := gv_pr_some g
    obtain ⟨-, g2⟩ := gv_gd_some g1
    have e := gv_go_some g2
    cases e
  | laload =>
    obtain ⟨_, _, -, g⟩ := gv_pi_some h
    obtain ⟨_, _, -, g1⟩ := gv_pr_some g
    obtain ⟨-, g2⟩ := gv_gd_some g1
    have e := gv_go_some g2
    cases e
  | aaload =>
    obtain ⟨_, _, -, g⟩ := gv_pi_some h
    obtain ⟨_, _, -, g1⟩ := gv_pr_some g
    obtain ⟨-, g2⟩ := gv_gd_some g1
    split at g2
    · have e := gv_go_some g2
      cases e
    · cases g2
  | iastore =>
    obtain ⟨_, _, -, g⟩ := gv_pi_some h
    obtain ⟨_, _, -, g1⟩ := gv_pi_some g
    obtain ⟨_, _, -, g2⟩ := gv_pr_some g1
    obtain ⟨-, g3⟩ := gv_gd_some g2
    have e := gv_go_some g3
    cases e
  | bastore =>
    obtain ⟨_, _, -, g⟩ := gv_pi_some h
    obtain ⟨_, _, -, g1⟩ := gv_pi_some g
    obtain ⟨_, _, -, g2⟩ := gv_pr_some g1
    obtain ⟨-, g3⟩ := gv_gd_some g2
    have e := gv_go_some g3
    cases e
  | lastore =>
    obtain ⟨_, _, -, g⟩ := gv_pl_some h
    obtain ⟨_, _, -, g1⟩ := gv_pi_some g
    obtain ⟨_, _, -, g2⟩ := gv_pr_some g1
    obtain ⟨-, g3⟩ := gv_gd_some g2
    have e := gv_go_some g3
    cases e
  | aastore =>
    obtain ⟨_, _, -, g⟩ := gv_pr_some h
    obtain ⟨_, _, -, g1⟩ := gv_pi_some g
    obtain ⟨_, _, -, g2⟩ := gv_pr_some g1
    obtain ⟨-, g3⟩ := gv_gd_some g2
    have e := gv_go_some g3
    cases e
  | arraylength =>
    dsimp only at h
    split at h
    · have e := gv_go_some h
      cases e
    · obtain ⟨-, g1⟩ := gv_gd_some h
      have e := gv_go_some g1
      cases e
    · cases h
  | new _ =>
    dsimp only at h
    split at h
    · obtain ⟨-, g1⟩ := gv_gd_some h
      cases g1
    · obtain ⟨-, g1⟩ := gv_gd_some h
      have e := gv_go_some g1
      cases e
  | newarray _ =>
    obtain ⟨_, _, -, g⟩ := gv_pi_some h
    obtain ⟨-, g1⟩ := gv_gd_some g
    have e := gv_go_some g1
    cases e
  | anewarray _ =>
    obtain ⟨_, _, -, g⟩ := gv_pi_some h
    obtain ⟨-, g1⟩ := gv_gd_some g
    have e := gv_go_some g1
    cases e
  | invokevirtual _ =>
    dsimp only at h
    split at h
    · split at h
      · obtain ⟨_, _, -, g⟩ := gv_px_some h
        obtain ⟨-, g1⟩ := gv_gd_some g
        have e := gv_go_some g1
        cases e
      · obtain ⟨_, _, -, g⟩ := gv_pi_some h
        obtain ⟨_, _, -, g0⟩ := gv_px_some g
        obtain ⟨-, g1⟩ := gv_gd_some g0
        have e := gv_go_some g1
        cases e
    · rename_i h99
      obtain ⟨_, _, -, -, g⟩ := gv_args_some h
      obtain ⟨_, _, -, g0⟩ := gv_pr_some g
      obtain ⟨-, g1⟩ := gv_gd_some g0
      cases g1
      exact (ok.2 (Nat.lt_of_not_le fun z => absurd (Nat.ble_eq_true_of_le z) (by rw [h99]; decide))).2.2.2.2.2.2
  | invokespecial _ =>
    dsimp only at h
    split at h
    · obtain ⟨_, _, -, g⟩ := gv_pr_some h
      obtain ⟨-, g1⟩ := gv_gd_some g
      have e := gv_go_some g1
      cases e
    · obtain ⟨_, _, -, -, g⟩ := gv_args_some h
      obtain ⟨_, _, -, g0⟩ := gv_pr_some g
      obtain ⟨-, g1⟩ := gv_gd_some g0
      cases g1
  | invokestatic _ =>
    dsimp only at h
    split at h
    · obtain ⟨_, _, -, g⟩ := gv_pi_some h
      obtain ⟨_, _, -, g0⟩ := gv_pi_some g
      obtain ⟨_, _, -, g1⟩ := gv_pr_some g0
      obtain ⟨_, _, -, g2⟩ := gv_pi_some g1
      obtain ⟨_, _, -, g3⟩ := gv_pr_some g2
      obtain ⟨-, g4⟩ := gv_gd_some g3
      have e := gv_go_some g4
      cases e
    · obtain ⟨_, _, -, -, g⟩ := gv_args_some h
      obtain ⟨-, g1⟩ := gv_gd_some g
      cases g1
  | ireturn =>
    unfold gv_iret at h
    dsimp only at h
    split at h
    · split at h
      · cases h
      · obtain ⟨-, g⟩ := gv_gd_some h
        cases g
      · cases h
    · cases h
  | lreturn =>
    dsimp only at h
    split at h
    · cases h
    · cases h
  | return_ =>
    dsimp only at h
    split at h
    · cases h
    · cases h
  | _ => cases h
