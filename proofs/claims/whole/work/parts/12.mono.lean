/-! the counts grow -/
theorem gv_jmp_some {pc : Nat} {off : Int} {lo : gv_L} {st : List Value} {S : gv_S} {x : gv_A} (h : gv_jmp pc off lo st S = some x) : ∃ pc', x = .inl (pc', lo, st, S) := by
  obtain ⟨-, h⟩ := gv_gd_some h
  exact ⟨_, gv_go_some h⟩
def gv_leq (S S' : gv_S) : Prop := S.2.2.2.1 ≤ S'.2.2.2.1 ∧ S.2.2.2.2 ≤ S'.2.2.2.2 ∧ (S'.2.2.1 = 0 → S.2.2.1 = 0 ∧ S'.2.2.2.1 + S.1.1 = S.2.2.2.1 + S'.1.1) ∧ S.1.1 ≤ S'.1.1
theorem gv_leq_rf {S : gv_S} : gv_leq S S := ⟨Nat.le_refl _, Nat.le_refl _, fun h => ⟨h, rfl⟩, Nat.le_refl _⟩
theorem gv_leq_tr {S S' S'' : gv_S} (h1 : gv_leq S S') (h2 : gv_leq S' S'') : gv_leq S S'' := by
  obtain ⟨a1, a2, a3, a4⟩ := h1
  obtain ⟨b1, b2, b3, b4⟩ := h2
  refine ⟨Nat.le_trans a1 b1, Nat.le_trans a2 b2, fun h => ?_, Nat.le_trans a4 b4⟩
  obtain ⟨c1, c2⟩ := b3 h
  obtain ⟨d1, d2⟩ := a3 c1
  exact ⟨d1, by omega⟩
theorem gv_leq_new {S : gv_S} {k n sl : Nat} : gv_leq S (gv_new S k n sl) := ⟨Nat.le_succ _, Nat.le_add_right _ _, fun h => ⟨h, by show S.2.2.2.1 + 1 + S.1.1 = S.2.2.2.1 + (S.1.1 + 1); omega⟩, Nat.le_succ _⟩
theorem gv_leq_ex {S : gv_S} : gv_leq S (gv_ex S) := ⟨Nat.le_succ _, Nat.le_add_right _ _, fun h => absurd h (by show ¬ (1 = 0); decide), Nat.le_refl _⟩
set_option maxHeartbeats 4000000 in
set_option maxRecDepth 100000 in
theorem gv_step_leq {fk : List (List Nat)} {tx : List (List Int32)} {X : gv_X} {M : gv_Mt} {pc : Nat} {lo : gv_L} {st : List Value} {S : gv_S} {pc' : Nat} {lo' : gv_L} {st' : List Value} {S' : gv_S} (h : gv_step fk tx X M pc lo st S = some (.inl (pc', lo', st', S'))) : gv_leq S S' := by
  unfold gv_step at h
  rcases hE : M.2.2.2.2.2 pc with ⟨i, a, b, k⟩
  rw [hE] at h
  cases i with
  | iconst _ =>
    have e := gv_go_some h
    cases e
    exact gv_leq_rf
  | bipush _ =>
    have e := gv_go_some h
    cases e
    exact gv_leq_rf
  | sipush _ =>
    have e := gv_go_some h
    cases e
    exact gv_leq_rf
  | lconst _ =>
    have e := gv_go_some h
    cases e
    exact gv_leq_rf
  | ldc2_w _ =>
    have e := gv_go_some h
    cases e
    exact gv_leq_rf
  | goto _ =>
    have e := gv_go_some h
    cases e
    exact gv_leq_rf
  | ldc _ =>
    dsimp only at h
    split at h
    · have e := gv_go_some h
      cases e
      exact gv_leq_rf
    · have e := gv_go_some h
      cases e
      exact gv_leq_rf
  | ldc_w _ =>
    dsimp only at h
    split at h
    · have e := gv_go_some h
      cases e
      exact gv_leq_rf
    · have e := gv_go_some h
      cases e
      exact gv_leq_rf
  | iload_n _ =>
    obtain ⟨_, -, g⟩ := gv_li_some h
    have e := gv_go_some g
    cases e
    exact gv_leq_rf
  | iload _ =>
    obtain ⟨_, -, g⟩ := gv_li_some h
    have e := gv_go_some g
    cases e
    exact gv_leq_rf
  | lload_n _ =>
    obtain ⟨_, -, g⟩ := gv_ll_some h
    have e := gv_go_some g
    cases e
    exact gv_leq_rf
  | lload _ =>
    obtain ⟨_, -, g⟩ := gv_ll_some h
    have e := gv_go_some g
    cases e
    exact gv_leq_rf
  | aload_n _ =>
    obtain ⟨_, -, -, g⟩ := gv_la_some h
    have e := gv_go_some g
    cases e
    exact gv_leq_rf
  | aload _ =>
    obtain ⟨_, -, -, g⟩ := gv_la_some h
    have e := gv_go_some g
    cases e
    exact gv_leq_rf
  | istore_n _ =>
    obtain ⟨_, _, -, g⟩ := gv_pi_some h
    obtain ⟨-, -, g1⟩ := gv_sto_some g
    have e := gv_go_some g1
    cases e
    exact gv_leq_rf
  | istore _ =>
    obtain ⟨_, _, -, g⟩ := gv_pi_some h
    obtain ⟨-, -, g1⟩ := gv_sto_some g
    have e := gv_go_some g1
    cases e
    exact gv_leq_rf
  | lstore_n _ =>
    obtain ⟨_, _, -, g⟩ := gv_pl_some h
    obtain ⟨-, -, g1⟩ := gv_sto2_some g
    have e := gv_go_some g1
    cases e
    exact gv_leq_rf
  | lstore _ =>
    obtain ⟨_, _, -, g⟩ := gv_pl_some h
    obtain ⟨-, -, g1⟩ := gv_sto2_some g
    have e := gv_go_some g1
    cases e
    exact gv_leq_rf
  | astore_n _ =>
    obtain ⟨_, _, -, -, g⟩ := gv_pa_some h
    obtain ⟨-, -, g1⟩ := gv_sto_some g
    have e := gv_go_some g1
    cases e
    exact gv_leq_rf
  | astore _ =>
    obtain ⟨_, _, -, -, g⟩ := gv_pa_some h
    obtain ⟨-, -, g1⟩ := gv_sto_some g
    have e := gv_go_some g1
    cases e
    exact gv_leq_rf
  | iinc _ _ =>
    obtain ⟨_, -, g⟩ := gv_li_some h
    obtain ⟨-, -, g1⟩ := gv_sto_some g
    have e := gv_go_some g1
    cases e
    exact gv_leq_rf
  | iadd =>
    obtain ⟨_, _, -, g⟩ := gv_pi_some h
    obtain ⟨_, _, -, g1⟩ := gv_pi_some g
    have e := gv_go_some g1
    cases e
    exact gv_leq_rf
  | isub =>
    obtain ⟨_, _, -, g⟩ := gv_pi_some h
    obtain ⟨_, _, -, g1⟩ := gv_pi_some g
    have e := gv_go_some g1
    cases e
    exact gv_leq_rf
  | imul =>
    obtain ⟨_, _, -, g⟩ := gv_pi_some h
    obtain ⟨_, _, -, g1⟩ := gv_pi_some g
    have e := gv_go_some g1
    cases e
    exact gv_leq_rf
  | iand =>
    obtain ⟨_, _, -, g⟩ := gv_pi_some h
    obtain ⟨_, _, -, g1⟩ := gv_pi_some g
    have e := gv_go_some g1
    cases e
    exact gv_leq_rf
  | ior =>
    obtain ⟨_, _, -, g⟩ := gv_pi_some h
    obtain ⟨_, _, -, g1⟩ := gv_pi_some g
    have e := gv_go_some g1
    cases e
    exact gv_leq_rf
  | ixor =>
    obtain ⟨_, _, -, g⟩ := gv_pi_some h
    obtain ⟨_, _, -, g1⟩ := gv_pi_some g
    have e := gv_go_some g1
    cases e
    exact gv_leq_rf
  | ishl =>
    obtain ⟨_, _, -, g⟩ := gv_pi_some h
    obtain ⟨_, _, -, g1⟩ := gv_pi_some g
    have e := gv_go_some g1
    cases e
    exact gv_leq_rf
  | ishr =>
    obtain ⟨_, _, -, g⟩ := gv_pi_some h
    obtain ⟨_, _, -, g1⟩ := gv_pi_some g
    have e := gv_go_some g1
    cases e
    exact gv_leq_rf
  | iushr =>
    obtain ⟨_, _, -, g⟩ := gv_pi_some h
    obtain ⟨_, _, -, g1⟩ := gv_pi_some g
    have e := gv_go_some g1
    cases e
    exact gv_leq_rf
  | idiv =>
    obtain ⟨_, _, -, g⟩ := gv_pi_some h
    obtain ⟨_, _, -, g1⟩ := gv_pi_some g
    obtain ⟨-, g2⟩ := gv_gd_some g1
    have e := gv_go_some g2
    cases e
    exact gv_leq_rf
  | irem =>
    obtain ⟨_, _, -, g⟩ := gv_pi_some h
    obtain ⟨_, _, -, g1⟩ := gv_pi_some g
    obtain ⟨-, g2⟩ := gv_gd_some g1
    have e := gv_go_some g2
    cases e
    exact gv_leq_rf
  | ineg =>
    obtain ⟨_, _, -, g⟩ := gv_pi_some h
    have e := gv_go_some g
    cases e
    exact gv_leq_rf
  | i2l =>
    obtain ⟨_, _, -, g⟩ := gv_pi_some h
    have e := gv_go_some g
    cases e
    exact gv_leq_rf
  | i2b =>
    obtain ⟨_, _, -, g⟩ := gv_pi_some h
    have e := gv_go_some g
    cases e
    exact gv_leq_rf
  | l2i =>
    obtain ⟨_, _, -, g⟩ := gv_pl_some h
    have e := gv_go_some g
    cases e
    exact gv_leq_rf
  | ladd =>
    obtain ⟨_, _, -, g⟩ := gv_pl_some h
    obtain ⟨_, _, -, g1⟩ := gv_pl_some g
    have e := gv_go_some g1
    cases e
    exact gv_leq_rf
  | lmul =>
    obtain ⟨_, _, -, g⟩ := gv_pl_some h
    obtain ⟨_, _, -, g1⟩ := gv_pl_some g
    have e := gv_go_some g1
    cases e
    exact gv_leq_rf
  | lcmp =>
    obtain ⟨_, _, -, g⟩ := gv_pl_some h
    obtain ⟨_, _, -, g1⟩ := gv_pl_some g
    have e := gv_go_some g1
    cases e
    exact gv_leq_rf
  | ldiv =>
    obtain ⟨_, _, -, g⟩ := gv_pl_some h
    obtain ⟨_, _, -, g1⟩ := gv_pl_some g
    obtain ⟨-, g2⟩ := gv_gd_some g1
    have e := gv_go_some g2
    cases e
    exact gv_leq_rf
  | dup =>
    match st, h with
    | v :: r, h =>
      obtain ⟨-, g⟩ := gv_gd_some h
      have e := gv_go_some g
      cases e
      exact gv_leq_rf
  | pop =>
    match st, h with
    | v :: r, h =>
      obtain ⟨-, g⟩ := gv_gd_some h
      have e := gv_go_some g
      cases e
      exact gv_leq_rf
  | dup2 =>
    match st, h with
    | v :: w :: r, h =>
      obtain ⟨-, g⟩ := gv_gd_some h
      have e := gv_go_some g
      cases e
      exact gv_leq_rf
  | ifCond _ _ =>
    obtain ⟨_, _, -, g⟩ := gv_pi_some h
    cases g
  | if_icmp _ _ =>
    obtain ⟨_, _, -, g⟩ := gv_pi_some h
    obtain ⟨_, _, -, g1⟩ := gv_pi_some g
    cases g1
  | tableswitch _ _ _ os =>
    obtain ⟨_, _, -, g⟩ := gv_pi_some h
    split at g
    · obtain ⟨_, e⟩ := gv_jmp_some g
      cases e
      exact gv_leq_rf
    · split at g
      · obtain ⟨_, e⟩ := gv_jmp_some g
        cases e
        exact gv_leq_rf
      · cases g
  | lookupswitch _ _ =>
    obtain ⟨_, _, -, g⟩ := gv_pi_some h
    obtain ⟨_, e⟩ := gv_jmp_some g
    cases e
    exact gv_leq_rf
  | getfield _ =>
    obtain ⟨_, _, -, g⟩ := gv_pr_some h
    obtain ⟨-, g1⟩ := gv_gd_some g
    split at g1
    · split at g1
      · have e := gv_go_some g1
        cases e
        exact gv_leq_rf
      · cases g1
    · cases g1
    · have e := gv_go_some g1
      cases e
      exact gv_leq_rf
  | putfield _ =>
    dsimp only at h
    split at h
    · obtain ⟨_, _, -, g⟩ := gv_pi_some h
      obtain ⟨_, _, -, g1⟩ := gv_pr_some g
      obtain ⟨-, g2⟩ := gv_gd_some g1
      have e := gv_go_some g2
      cases e
      exact gv_leq_rf
    · obtain ⟨_, _, -, g⟩ := gv_pi_some h
      obtain ⟨_, _, -, g1⟩ := gv_pr_some g
      obtain ⟨-, g2⟩ := gv_gd_some g1
      have e := gv_go_some g2
      cases e
      exact gv_leq_rf
    · obtain ⟨_, _, -, g⟩ := gv_pr_some h
      obtain ⟨_, _, -, g1⟩ := gv_pr_some g
      obtain ⟨-, g2⟩ := gv_gd_some g1
      have e := gv_go_some g2
      cases e
      exact gv_leq_rf
    · cases h
  | iaload =>
    obtain ⟨_, _, -, g⟩ := gv_pi_some h
    split at g
    · obtain ⟨-, g1⟩ := gv_gd_some g
      have e := gv_go_some g1
      cases e
      exact gv_leq_rf
    · obtain ⟨-, g1⟩ := gv_gd_some g
      have e := gv_go_some g1
      cases e
      exact gv_leq_rf
    · cases g
  | baload =>
    obtain ⟨_, _, -, g⟩ := gv_pi_some h
    obtain ⟨_, _, -, g1⟩ := gv_pr_some g
    obtain ⟨-, g2⟩ := gv_gd_some g1
    have e := gv_go_some g2
    cases e
    exact gv_leq_rf
  | laload =>
    obtain ⟨_, _, -, g⟩ := gv_pi_some h
    obtain ⟨_, _, -, g1⟩ := gv_pr_some g
    obtain ⟨-, g2⟩ := gv_gd_some g1
    have e := gv_go_some g2
    cases e
    exact gv_leq_rf
  | aaload =>
    obtain ⟨_, _, -, g⟩ := gv_pi_some h
    obtain ⟨_, _, -, g1⟩ := gv_pr_some g
    obtain ⟨-, g2⟩ := gv_gd_some g1
    split at g2
    · have e := gv_go_some g2
      cases e
      exact gv_leq_rf
    · cases g2
  | iastore =>
    obtain ⟨_, _, -, g⟩ := gv_pi_some h
    obtain ⟨_, _, -, g1⟩ := gv_pi_some g
    obtain ⟨_, _, -, g2⟩ := gv_pr_some g1
    obtain ⟨-, g3⟩ := gv_gd_some g2
    have e := gv_go_some g3
    cases e
    exact gv_leq_rf
  | bastore =>
    obtain ⟨_, _, -, g⟩ := gv_pi_some h
    obtain ⟨_, _, -, g1⟩ := gv_pi_some g
    obtain ⟨_, _, -, g2⟩ := gv_pr_some g1
    obtain ⟨-, g3⟩ := gv_gd_some g2
    have e := gv_go_some g3
    cases e
    exact gv_leq_rf
  | lastore =>
    obtain ⟨_, _, -, g⟩ := gv_pl_some h
    obtain ⟨_, _, -, g1⟩ := gv_pi_some g
    obtain ⟨_, _, -, g2⟩ := gv_pr_some g1
    obtain ⟨-, g3⟩ := gv_gd_some g2
    have e := gv_go_some g3
    cases e
    exact gv_leq_rf
  | aastore =>
    obtain ⟨_, _, -, g⟩ := gv_pr_some h
    obtain ⟨_, _, -, g1⟩ := gv_pi_some g
    obtain ⟨_, _, -, g2⟩ := gv_pr_some g1
    obtain ⟨-, g3⟩ := gv_gd_some g2
    have e := gv_go_some g3
    cases e
    exact gv_leq_rf
  | arraylength =>
    dsimp only at h
    split at h
    · have e := gv_go_some h
      cases e
      exact gv_leq_rf
    · obtain ⟨-, g1⟩ := gv_gd_some h
      have e := gv_go_some g1
      cases e
      exact gv_leq_rf
    · cases h
  | new _ =>
    dsimp only at h
    split at h
    · obtain ⟨-, g1⟩ := gv_gd_some h
      cases g1
    · obtain ⟨-, g1⟩ := gv_gd_some h
      have e := gv_go_some g1
      cases e
      exact gv_leq_new
  | newarray _ =>
    obtain ⟨_, _, -, g⟩ := gv_pi_some h
    obtain ⟨-, g1⟩ := gv_gd_some g
    have e := gv_go_some g1
    cases e
    exact gv_leq_new
  | anewarray _ =>
    obtain ⟨_, _, -, g⟩ := gv_pi_some h
    obtain ⟨-, g1⟩ := gv_gd_some g
    have e := gv_go_some g1
    cases e
    exact gv_leq_new
  | invokevirtual _ =>
    dsimp only at h
    split at h
    · split at h
      · obtain ⟨_, _, -, g⟩ := gv_px_some h
        obtain ⟨-, g1⟩ := gv_gd_some g
        have e := gv_go_some g1
        cases e
        exact gv_leq_rf
      · obtain ⟨_, _, -, g⟩ := gv_pi_some h
        obtain ⟨_, _, -, g0⟩ := gv_px_some g
        obtain ⟨-, g1⟩ := gv_gd_some g0
        have e := gv_go_some g1
        cases e
        exact gv_leq_rf
    · obtain ⟨_, _, -, -, g⟩ := gv_args_some h
      obtain ⟨_, _, -, g0⟩ := gv_pr_some g
      obtain ⟨-, g1⟩ := gv_gd_some g0
      cases g1
  | invokespecial _ =>
    dsimp only at h
    split at h
    · obtain ⟨_, _, -, g⟩ := gv_pr_some h
      obtain ⟨-, g1⟩ := gv_gd_some g
      have e := gv_go_some g1
      cases e
      exact gv_leq_rf
    · obtain ⟨_, _, -, -, g⟩ := gv_args_some h
      obtain ⟨_, _, -, g0⟩ := gv_pr_some g
      obtain ⟨-, g1⟩ := gv_gd_some g0
      cases g1
  | invokestatic _ =>
    dsimp only at h
    split at h
    · obtain ⟨_, _, -, g⟩ := gv_pi_some h
      obtain ⟨_, _, -, g0⟩ := gv_pi_some g
      obtain ⟨_, _, -, g1⟩ := gv_pr_some g0
      obtain ⟨_, _, -, g2⟩ := gv_pi_some g1
      obtain ⟨_, _, -, g3⟩ := gv_pr_some g2
      obtain ⟨-, g4⟩ := gv_gd_some g3
      have e := gv_go_some g4
      cases e
      exact gv_leq_rf
    · obtain ⟨_, _, -, -, g⟩ := gv_args_some h
      obtain ⟨-, g1⟩ := gv_gd_some g
      cases g1
  | ireturn =>
    unfold gv_iret at h
    dsimp only at h
    split at h
    · split at h
      · cases h
      · obtain ⟨-, g⟩ := gv_gd_some h
        cases g
      · cases h
    · cases h
  | lreturn =>
    dsimp only at h
    split at h
    · cases h
    · cases h
  | return_ =>
    dsimp only at h
    split at h
    · cases h
    · cases h
  | _ => cases h
theorem gv_run_leq {fk : List (List Nat)} {tx : List (List Int32)} {P : Nat → gv_Mt} {X : gv_X} : ∀ (n d : Nat) (M : gv_Mt) (pc : Nat) (lo : gv_L) (st : List Value) (S : gv_S) (o : gv_O) (S' : gv_S), gv_run fk tx P X n d M pc lo st S = some (o, S') → gv_leq S S' := by
  intro n
  induction n with
  | zero => intro d M pc lo st S o S' h; cases h
  | succ n ih =>
    intro d M pc lo st S o S' h
    unfold gv_run at h
    split at h
    · cases h
    · rename_i pc' lo' st' S1 hs
      exact gv_leq_tr (gv_step_leq hs) (ih _ _ _ _ _ _ _ _ h)
    · split at h
      · exact ih _ _ _ _ _ _ _ _ h
      · exact ih _ _ _ _ _ _ _ _ h
    · split at h
      · cases h
      · split at h
        · cases h
        · rename_i hc
          exact gv_leq_tr (ih _ _ _ _ _ _ _ _ (gv_gd_some hc).2) (ih _ _ _ _ _ _ _ _ h)
        · rename_i hc
          have hc := (gv_gd_some hc).2
          split at h
          · cases h
          · split at h
            · split at h
              · cases h
                exact ih _ _ _ _ _ _ _ _ hc
              · cases h
            · split at h
              · cases h
              · exact gv_leq_tr (ih _ _ _ _ _ _ _ _ hc) (ih _ _ _ _ _ _ _ _ h)
    · cases h
      exact gv_leq_rf
    · cases h
      exact gv_leq_ex
