/-! ints as naturals, memory of naturals -/
def mI (A : Nat → Nat → Nat) : Nat → Nat → Int32 := fun q k => nI (A q k)
theorem mI_gu (A : Nat → Nat → Nat) (q k v : Nat) : gu (mI A) q k (nI v) = mI (gu A q k v) := by
  funext a b
  simp only [gu, mI]
  by_cases h : a = q
  · subst h; simp only [if_pos]; by_cases h2 : b = k <;> simp [h2, mI]
  · simp only [if_neg h]; rfl
theorem mI_gw (A : Nat → Nat → Nat) (q : Nat) (q0 sp dp n : Nat) : gw (mI A) q (va_cpy (mI A q0) (mI A q) sp dp n) = mI (gw A q (va_cpy (A q0) (A q) sp dp n)) := by
  funext a b
  simp only [gw, mI]
  by_cases h : a = q
  · subst h
    simp only [if_pos]
    by_cases h2 : dp ≤ b ∧ b < dp + n
    · rw [pk_cpy_in h2.1 h2.2, pk_cpy_in h2.1 h2.2]; rfl
    · rw [pk_cpy_out (by omega), pk_cpy_out (by omega)]; rfl
  · simp only [if_neg h]; rfl
theorem nn_t (a : Nat) : (nI a).toBitVec.toNat = a % 4294967296 := BitVec.toNat_ofNat a 32
theorem nn_i (a : Nat) : (nI a).toInt = ((a + 2147483648) % 4294967296 : Nat) - (2147483648 : Int) := by
  show (BitVec.ofNat 32 a).toInt = _
  rw [BitVec.toInt_eq_toNat_bmod, BitVec.toNat_ofNat]
  simp only [Int.bmod]
  split <;> omega
theorem nn_lt (a b : Nat) : nI a < nI b ↔ (a + 2147483648) % 4294967296 < (b + 2147483648) % 4294967296 := by
  rw [Int32.lt_iff_toInt_lt, nn_i, nn_i]; omega
theorem nn_le (a b : Nat) : nI a ≤ nI b ↔ (a + 2147483648) % 4294967296 ≤ (b + 2147483648) % 4294967296 := by
  rw [Int32.le_iff_toInt_le, nn_i, nn_i]; omega
theorem nn_eq (a b : Nat) : nI a = nI b ↔ a % 4294967296 = b % 4294967296 := by
  rw [← Int32.toInt_inj, nn_i, nn_i]; omega
theorem nn_mod (a : Nat) : nI (a % 4294967296) = nI a := (nn_eq _ _).mpr (by omega)
theorem nn_of (x : Int32) : ∃ a, a < 4294967296 ∧ x = nI a := ⟨(x.toInt + 4294967296).toNat % 4294967296, by omega, by
  have h1 := Int32.le_toInt x
  have h2 := Int32.toInt_lt x
  rw [← Int32.toInt_inj, nn_i]; omega⟩
theorem nn_eqs {a b : Nat} (ha : a < 4294967296) (hb : b < 4294967296) : nI a = nI b ↔ a = b := by rw [nn_eq]; omega
theorem nn_ge (a b : Nat) (h : b ≤ a) : nI a - nI b = nI (a - b) := pk_sub h
theorem nn_sub (a b : Nat) (h : b ≤ 4294967296) : nI a - nI b = nI (a + 4294967296 - b) := by
  rw [← pk_sub (by omega : b ≤ a + 4294967296), show nI (a + 4294967296) = nI a from (nn_eq _ _).mpr (by omega)]
theorem nn_neg (a : Nat) (h : a ≤ 4294967296) : - nI a = nI (4294967296 - a) := by
  have := nn_sub 0 a h
  rw [show nI 0 = 0 from rfl] at this
  rw [← Int32.zero_sub, this, Nat.zero_add]
theorem nn_in {a n : Nat} (h : a < n) (hn : n < 2147483648) : gv_in (nI a) n = true := by
  unfold gv_in
  rw [nI_clamp (by omega)]
  have : ¬ nI a < 0 := nI_pos (by omega)
  simp only [this, decide_false, Bool.not_false, Bool.true_and]
  exact Nat.blt_eq.mpr h
theorem nn_and (a : Nat) {b : Nat} : nI a &&& nI b = nI (a &&& b) := by
  apply Int32.toBitVec_inj.mp
  apply BitVec.eq_of_toNat_eq
  show (BitVec.ofNat 32 a &&& BitVec.ofNat 32 b).toNat = (BitVec.ofNat 32 (a &&& b)).toNat
  rw [BitVec.toNat_and, BitVec.toNat_ofNat, BitVec.toNat_ofNat, BitVec.toNat_ofNat, Nat.and_mod_two_pow]
theorem nn_or (a : Nat) {b : Nat} : nI a ||| nI b = nI (a ||| b) := by
  apply Int32.toBitVec_inj.mp
  apply BitVec.eq_of_toNat_eq
  show (BitVec.ofNat 32 a ||| BitVec.ofNat 32 b).toNat = (BitVec.ofNat 32 (a ||| b)).toNat
  rw [BitVec.toNat_or, BitVec.toNat_ofNat, BitVec.toNat_ofNat, BitVec.toNat_ofNat, Nat.or_mod_two_pow]
theorem nn_xor (a : Nat) {b : Nat} : nI a ^^^ nI b = nI (a ^^^ b) := by
  apply Int32.toBitVec_inj.mp
  apply BitVec.eq_of_toNat_eq
  show (BitVec.ofNat 32 a ^^^ BitVec.ofNat 32 b).toNat = (BitVec.ofNat 32 (a ^^^ b)).toNat
  rw [BitVec.toNat_xor, BitVec.toNat_ofNat, BitVec.toNat_ofNat, BitVec.toNat_ofNat, Nat.xor_mod_two_pow]
theorem nn_s {s : Nat} (h : s < 32) : ((nI s &&& 31).toBitVec.smod 32).toNat = s := by
  have : ∀ s : Fin 32, ((nI s.val &&& 31).toBitVec.smod 32).toNat = s.val := by decide +kernel
  exact this ⟨s, h⟩
theorem nn_us {s : Nat} (h : s < 32) : (((nI s).toUInt32 &&& Int32.toUInt32 31).toBitVec % 32).toNat = s := by
  have : ∀ s : Fin 32, (((nI s.val).toUInt32 &&& Int32.toUInt32 31).toBitVec % 32).toNat = s.val := by decide +kernel
  exact this ⟨s, h⟩
theorem nn_shl (a : Nat) {s : Nat} (h : s < 32) : nI a <<< (nI s &&& 31) = nI (a * 2 ^ s) := by
  apply Int32.toBitVec_inj.mp
  apply BitVec.eq_of_toNat_eq
  rw [pk_shl _ _ s (nn_s h), nn_t, nn_t]
  show a % 4294967296 * 2 ^ s % 4294967296 = _
  rw [Nat.mod_mul_mod]
theorem nn_shr {a s : Nat} (ha : a < 2147483648) (h : s < 32) : nI a >>> (nI s &&& 31) = nI (a / 2 ^ s) := pk_shrN ha _ s (nn_s h)
theorem nn_ushr {a s : Nat} (ha : a < 4294967296) (h : s < 32) : ((nI a).toUInt32 >>> ((nI s).toUInt32 &&& Int32.toUInt32 31)).toInt32 = nI (a / 2 ^ s) := pk_ushrN ha _ s (nn_us h)
theorem gu_hit {α : Type} (A : Nat → Nat → α) (q k : Nat) (v : α) : gu A q k v q k = v := by simp [gu]
theorem gu_k {α : Type} {A : Nat → Nat → α} {q k k' : Nat} {v x : α} (h : k' ≠ k) (e : A q k' = x) : gu A q k v q k' = x := by simp [gu, h, e]
theorem gu_q {α : Type} {A : Nat → Nat → α} {q q' k k' : Nat} {v x : α} (h : q' ≠ q) (e : A q' k' = x) : gu A q k v q' k' = x := by simp [gu, h, e]
theorem gw_q {α : Type} {A : Nat → Nat → α} {q q' k' : Nat} {v : Nat → α} {x : α} (h : q' ≠ q) (e : A q' k' = x) : gw A q v q' k' = x := by simp [gw, h, e]
theorem gu_row {α : Type} {A : Nat → Nat → α} {q q' k : Nat} {v : α} (h : q' ≠ q) : gu A q k v q' = A q' := by simp [gu, h]
theorem gw_row {α : Type} {A : Nat → Nat → α} {q q' : Nat} {v : Nat → α} (h : q' ≠ q) : gw A q v q' = A q' := by simp [gw, h]
theorem nsw_cases {P : Prop} (u h : Nat) (hd : h < u → P) (hi : ∀ i, i ≤ h → u = i → P) : P := by
  by_cases e : h < u
  · exact hd e
  · exact hi u (by omega) rfl
/-- the byte of an int -/
def by8 (x : Int32) : Nat := (vp_nar .byte x).toBitVec.toNat
theorem nI_tn (x : Int32) : nI x.toBitVec.toNat = x := by
  apply Int32.toBitVec_inj.mp
  apply BitVec.eq_of_toNat_eq
  rw [nn_t]
  exact Nat.mod_eq_of_lt x.toBitVec.isLt
/-- a character of a constant -/
def chN (q i : Nat) : Nat := ((gv_str gv_txT q).getD i 0).toBitVec.toNat
theorem str_all : gv_txT.all (fun s => Nat.blt s.length 1000) = true := by decide +kernel
theorem str_len (q : Nat) : (gv_str gv_txT q).length < 1000 := by
  unfold gv_str
  rw [List.getD_eq_getElem?_getD]
  rcases h : gv_txT[q - 1]? with _ | s
  · simp
  · have := List.all_eq_true.mp str_all s (List.mem_of_getElem? h)
    simpa using this
def hq (i : Nat) : Nat := 78 + 15 * i
def oHA (G : gv_Sh) : Prop := G.2.1 77 = (103, 12) ∧ ∀ i, i < 12 → G.2.2 77 i = some (78 + 15 * i) ∧ oX10 G (78 + 15 * i)
theorem oHq {G : gv_Sh} {i : Nat} (h : oHA G) (hi : i < 12) : oX10 G (hq i) := (h.2 i hi).2
section EVN
variable {X : gv_X} {d : Nat} {M : gv_Mt} {pc : Nat} {lo : gv_L} {st : List Value} {S : gv_S} {r : gv_O × gv_S} {a b : Nat} {z : Int32} {u v : Nat}
theorem en_iconst {i} (h : M.2.2.2.2.2 pc = (.iconst i, a, b, z)) (hz : z = nI u) (k : Ev X d M (pc + 1) lo (.int (nI u) :: st) S r) : Ev X d M pc lo st S r := ev_iconst h (by rw [hz]; exact k)
theorem en_bipush {i} (h : M.2.2.2.2.2 pc = (.bipush i, a, b, z)) (hz : z = nI u) (k : Ev X d M (pc + 2) lo (.int (nI u) :: st) S r) : Ev X d M pc lo st S r := ev_bipush h (by rw [hz]; exact k)
theorem en_sipush {i} (h : M.2.2.2.2.2 pc = (.sipush i, a, b, z)) (hz : z = nI u) (k : Ev X d M (pc + 3) lo (.int (nI u) :: st) S r) : Ev X d M pc lo st S r := ev_sipush h (by rw [hz]; exact k)
theorem en_ldc {i} (h : M.2.2.2.2.2 pc = (.ldc i, a, 0, z)) (hz : z = nI u) (k : Ev X d M (pc + 2) lo (.int (nI u) :: st) S r) : Ev X d M pc lo st S r := ev_ldc h (by rw [hz]; exact k)
theorem en_ldc_w {i} (h : M.2.2.2.2.2 pc = (.ldc_w i, a, 0, z)) (hz : z = nI u) (k : Ev X d M (pc + 3) lo (.int (nI u) :: st) S r) : Ev X d M pc lo st S r := ev_ldc_w h (by rw [hz]; exact k)
theorem en_iinc {i y} (h : M.2.2.2.2.2 pc = (.iinc i y, a, b, z)) (hz : z = nI v) (hl : lo[i]? = some (some (.int (nI u)))) (ho : (gv_ok lo i && Nat.blt i lo.length) = true) (k : Ev X d M (pc + 3) (lo.set i (some (.int (nI (u + v))))) st S r) : Ev X d M pc lo st S r := ev_iinc h hl ho (by rw [hz, nI_add]; exact k)
theorem en_idec {i y} (h : M.2.2.2.2.2 pc = (.iinc i y, a, b, z)) (hz : z = - nI v) (hv : v ≤ u) (hl : lo[i]? = some (some (.int (nI u)))) (ho : (gv_ok lo i && Nat.blt i lo.length) = true) (k : Ev X d M (pc + 3) (lo.set i (some (.int (nI (u - v))))) st S r) : Ev X d M pc lo st S r := ev_iinc h hl ho (by rw [hz, ← Int32.sub_eq_add_neg, pk_sub hv]; exact k)
theorem en_idecw {i y} (h : M.2.2.2.2.2 pc = (.iinc i y, a, b, z)) (hz : z = - nI v) (hv : v ≤ 4294967296) (hl : lo[i]? = some (some (.int (nI u)))) (ho : (gv_ok lo i && Nat.blt i lo.length) = true) (k : Ev X d M (pc + 3) (lo.set i (some (.int (nI ((u + 4294967296 - v) % 4294967296))))) st S r) : Ev X d M pc lo st S r := ev_iinc h hl ho (by rw [hz, ← Int32.sub_eq_add_neg, nn_sub _ _ hv, ← nn_mod]; exact k)
theorem en_iadd (h : M.2.2.2.2.2 pc = (.iadd, a, b, z))  (k : Ev X d M (pc + 1) lo (.int (nI (u + v)) :: st) S r) : Ev X d M pc lo (.int (nI v) :: .int (nI u) :: st) S r := ev_iadd h (by rw [nI_add]; exact k)
theorem en_iaddw (h : M.2.2.2.2.2 pc = (.iadd, a, b, z))  (k : Ev X d M (pc + 1) lo (.int (nI ((u + v) % 4294967296)) :: st) S r) : Ev X d M pc lo (.int (nI v) :: .int (nI u) :: st) S r := ev_iadd h (by rw [nI_add, ← nn_mod]; exact k)
theorem en_imul (h : M.2.2.2.2.2 pc = (.imul, a, b, z))  (k : Ev X d M (pc + 1) lo (.int (nI (u * v)) :: st) S r) : Ev X d M pc lo (.int (nI v) :: .int (nI u) :: st) S r := ev_imul h (by rw [pk_mul]; exact k)
theorem en_imulw (h : M.2.2.2.2.2 pc = (.imul, a, b, z))  (k : Ev X d M (pc + 1) lo (.int (nI (u * v % 4294967296)) :: st) S r) : Ev X d M pc lo (.int (nI v) :: .int (nI u) :: st) S r := ev_imul h (by rw [pk_mul, ← nn_mod]; exact k)
theorem en_isub (h : M.2.2.2.2.2 pc = (.isub, a, b, z)) (hv : v ≤ u) (k : Ev X d M (pc + 1) lo (.int (nI (u - v)) :: st) S r) : Ev X d M pc lo (.int (nI v) :: .int (nI u) :: st) S r := ev_isub h (by rw [pk_sub hv]; exact k)
theorem en_isubw (h : M.2.2.2.2.2 pc = (.isub, a, b, z)) (hv : v ≤ 4294967296) (k : Ev X d M (pc + 1) lo (.int (nI ((u + 4294967296 - v) % 4294967296)) :: st) S r) : Ev X d M pc lo (.int (nI v) :: .int (nI u) :: st) S r := ev_isub h (by rw [nn_sub _ _ hv, ← nn_mod]; exact k)
theorem en_iand (h : M.2.2.2.2.2 pc = (.iand, a, b, z))  (k : Ev X d M (pc + 1) lo (.int (nI (u &&& v)) :: st) S r) : Ev X d M pc lo (.int (nI v) :: .int (nI u) :: st) S r := ev_iand h (by rw [nn_and]; exact k)
theorem en_ior (h : M.2.2.2.2.2 pc = (.ior, a, b, z))  (k : Ev X d M (pc + 1) lo (.int (nI (u ||| v)) :: st) S r) : Ev X d M pc lo (.int (nI v) :: .int (nI u) :: st) S r := ev_ior h (by rw [nn_or]; exact k)
theorem en_ixor (h : M.2.2.2.2.2 pc = (.ixor, a, b, z))  (k : Ev X d M (pc + 1) lo (.int (nI (u ^^^ v)) :: st) S r) : Ev X d M pc lo (.int (nI v) :: .int (nI u) :: st) S r := ev_ixor h (by rw [nn_xor]; exact k)
theorem en_ishl (h : M.2.2.2.2.2 pc = (.ishl, a, b, z)) (hv : v < 32) (k : Ev X d M (pc + 1) lo (.int (nI (u * 2 ^ v)) :: st) S r) : Ev X d M pc lo (.int (nI v) :: .int (nI u) :: st) S r := ev_ishl h (by rw [nn_shl _ hv]; exact k)
theorem en_ishr (h : M.2.2.2.2.2 pc = (.ishr, a, b, z)) (hu : u < 2147483648) (hv : v < 32) (k : Ev X d M (pc + 1) lo (.int (nI (u / 2 ^ v)) :: st) S r) : Ev X d M pc lo (.int (nI v) :: .int (nI u) :: st) S r := ev_ishr h (by rw [nn_shr hu hv]; exact k)
theorem en_iushr (h : M.2.2.2.2.2 pc = (.iushr, a, b, z)) (hu : u < 4294967296) (hv : v < 32) (k : Ev X d M (pc + 1) lo (.int (nI (u / 2 ^ v)) :: st) S r) : Ev X d M pc lo (.int (nI v) :: .int (nI u) :: st) S r := ev_iushr h (by rw [nn_ushr hu hv]; exact k)
theorem en_idiv (h : M.2.2.2.2.2 pc = (.idiv, a, b, z)) (hu : u < 2147483648) (h0 : 0 < v) (hv : v < 2147483648) (k : Ev X d M (pc + 1) lo (.int (nI (u / v)) :: st) S r) : Ev X d M pc lo (.int (nI v) :: .int (nI u) :: st) S r := ev_idiv h (nI_ne0 h0 hv) (by rw [pk_div hu h0 hv]; exact k)
theorem en_irem (h : M.2.2.2.2.2 pc = (.irem, a, b, z)) (hu : u < 2147483648) (h0 : 0 < v) (hv : v < 2147483648) (k : Ev X d M (pc + 1) lo (.int (nI (u % v)) :: st) S r) : Ev X d M pc lo (.int (nI v) :: .int (nI u) :: st) S r := ev_irem h (nI_ne0 h0 hv) (by rw [pk_rem hu h0 hv]; exact k)
theorem en_ineg (h : M.2.2.2.2.2 pc = (.ineg, a, b, z)) (hu : u ≤ 4294967296) (k : Ev X d M (pc + 1) lo (.int (nI ((4294967296 - u) % 4294967296)) :: st) S r) : Ev X d M pc lo (.int (nI u) :: st) S r := ev_ineg h (by rw [nn_neg _ hu, ← nn_mod]; exact k)
theorem en_if_eq {i} (h : M.2.2.2.2.2 pc = (.ifCond .eq i, a, b, z)) (hu : u < 4294967296) (kt : u = 0 → Ev X d M a lo st S r) (kf : ¬ u = 0 → Ev X d M (pc + 3) lo st S r) : Ev X d M pc lo (.int (nI u) :: st) S r := ev_if_eq h (fun e => kt (by rw [← nI_0, nn_eq] at e; omega)) (fun e => kf (by rw [← nI_0, nn_eq] at e; omega))
theorem en_if_ne {i} (h : M.2.2.2.2.2 pc = (.ifCond .ne i, a, b, z)) (hu : u < 4294967296) (kt : ¬ u = 0 → Ev X d M a lo st S r) (kf : u = 0 → Ev X d M (pc + 3) lo st S r) : Ev X d M pc lo (.int (nI u) :: st) S r := ev_if_ne h (fun e => kt (by rw [← nI_0, nn_eq] at e; omega)) (fun e => kf (by rw [← nI_0, nn_eq] at e; omega))
theorem en_if_lt {i} (h : M.2.2.2.2.2 pc = (.ifCond .lt i, a, b, z)) (hu : u < 4294967296) (kt : 2147483648 ≤ u → Ev X d M a lo st S r) (kf : u < 2147483648 → Ev X d M (pc + 3) lo st S r) : Ev X d M pc lo (.int (nI u) :: st) S r := ev_if_lt h (fun e => kt (by rw [← nI_0, nn_lt] at e; omega)) (fun e => kf (by rw [← nI_0, nn_lt] at e; omega))
theorem en_if_ge {i} (h : M.2.2.2.2.2 pc = (.ifCond .ge i, a, b, z)) (hu : u < 4294967296) (kt : u < 2147483648 → Ev X d M a lo st S r) (kf : 2147483648 ≤ u → Ev X d M (pc + 3) lo st S r) : Ev X d M pc lo (.int (nI u) :: st) S r := ev_if_ge h (fun e => kt (by rw [← nI_0, nn_le] at e; omega)) (fun e => kf (by rw [← nI_0, nn_le] at e; omega))
theorem en_if_gt {i} (h : M.2.2.2.2.2 pc = (.ifCond .gt i, a, b, z)) (hu : u < 4294967296) (kt : 0 < u ∧ u < 2147483648 → Ev X d M a lo st S r) (kf : u = 0 ∨ 2147483648 ≤ u → Ev X d M (pc + 3) lo st S r) : Ev X d M pc lo (.int (nI u) :: st) S r := ev_if_gt h (fun e => kt (by rw [← nI_0, nn_lt] at e; omega)) (fun e => kf (by rw [← nI_0, nn_lt] at e; omega))
theorem en_if_le {i} (h : M.2.2.2.2.2 pc = (.ifCond .le i, a, b, z)) (hu : u < 4294967296) (kt : u = 0 ∨ 2147483648 ≤ u → Ev X d M a lo st S r) (kf : 0 < u ∧ u < 2147483648 → Ev X d M (pc + 3) lo st S r) : Ev X d M pc lo (.int (nI u) :: st) S r := ev_if_le h (fun e => kt (by rw [← nI_0, nn_le] at e; omega)) (fun e => kf (by rw [← nI_0, nn_le] at e; omega))
theorem en_ic_eq {i} (h : M.2.2.2.2.2 pc = (.if_icmp .eq i, a, b, z)) (hu : u < 4294967296) (hv : v < 4294967296) (kt : u = v → Ev X d M a lo st S r) (kf : ¬ u = v → Ev X d M (pc + 3) lo st S r) : Ev X d M pc lo (.int (nI v) :: .int (nI u) :: st) S r := ev_ic_eq h (fun e => kt (by rw [nn_eq] at e; omega)) (fun e => kf (by rw [nn_eq] at e; omega))
theorem en_ic_ne {i} (h : M.2.2.2.2.2 pc = (.if_icmp .ne i, a, b, z)) (hu : u < 4294967296) (hv : v < 4294967296) (kt : ¬ u = v → Ev X d M a lo st S r) (kf : u = v → Ev X d M (pc + 3) lo st S r) : Ev X d M pc lo (.int (nI v) :: .int (nI u) :: st) S r := ev_ic_ne h (fun e => kt (by rw [nn_eq] at e; omega)) (fun e => kf (by rw [nn_eq] at e; omega))
theorem en_ic_lt {i} (h : M.2.2.2.2.2 pc = (.if_icmp .lt i, a, b, z)) (hu : u < 2147483648) (hv : v < 2147483648) (kt : u < v → Ev X d M a lo st S r) (kf : v ≤ u → Ev X d M (pc + 3) lo st S r) : Ev X d M pc lo (.int (nI v) :: .int (nI u) :: st) S r := ev_ic_lt h (fun e => kt (by rw [nn_lt] at e; omega)) (fun e => kf (by rw [nn_lt] at e; omega))
theorem en_ic_ltw {i} (h : M.2.2.2.2.2 pc = (.if_icmp .lt i, a, b, z)) (kt : (u + 2147483648) % 4294967296 < (v + 2147483648) % 4294967296 → Ev X d M a lo st S r) (kf : (v + 2147483648) % 4294967296 ≤ (u + 2147483648) % 4294967296 → Ev X d M (pc + 3) lo st S r) : Ev X d M pc lo (.int (nI v) :: .int (nI u) :: st) S r := ev_ic_lt h (fun e => kt (by rw [nn_lt] at e; omega)) (fun e => kf (by rw [nn_lt] at e; omega))
theorem en_ic_ge {i} (h : M.2.2.2.2.2 pc = (.if_icmp .ge i, a, b, z)) (hu : u < 2147483648) (hv : v < 2147483648) (kt : v ≤ u → Ev X d M a lo st S r) (kf : u < v → Ev X d M (pc + 3) lo st S r) : Ev X d M pc lo (.int (nI v) :: .int (nI u) :: st) S r := ev_ic_ge h (fun e => kt (by rw [nn_le] at e; omega)) (fun e => kf (by rw [nn_le] at e; omega))
theorem en_ic_gew {i} (h : M.2.2.2.2.2 pc = (.if_icmp .ge i, a, b, z)) (kt : (v + 2147483648) % 4294967296 ≤ (u + 2147483648) % 4294967296 → Ev X d M a lo st S r) (kf : (u + 2147483648) % 4294967296 < (v + 2147483648) % 4294967296 → Ev X d M (pc + 3) lo st S r) : Ev X d M pc lo (.int (nI v) :: .int (nI u) :: st) S r := ev_ic_ge h (fun e => kt (by rw [nn_le] at e; omega)) (fun e => kf (by rw [nn_le] at e; omega))
theorem en_ic_gt {i} (h : M.2.2.2.2.2 pc = (.if_icmp .gt i, a, b, z)) (hu : u < 2147483648) (hv : v < 2147483648) (kt : v < u → Ev X d M a lo st S r) (kf : u ≤ v → Ev X d M (pc + 3) lo st S r) : Ev X d M pc lo (.int (nI v) :: .int (nI u) :: st) S r := ev_ic_gt h (fun e => kt (by rw [nn_lt] at e; omega)) (fun e => kf (by rw [nn_lt] at e; omega))
theorem en_ic_gtw {i} (h : M.2.2.2.2.2 pc = (.if_icmp .gt i, a, b, z)) (kt : (v + 2147483648) % 4294967296 < (u + 2147483648) % 4294967296 → Ev X d M a lo st S r) (kf : (u + 2147483648) % 4294967296 ≤ (v + 2147483648) % 4294967296 → Ev X d M (pc + 3) lo st S r) : Ev X d M pc lo (.int (nI v) :: .int (nI u) :: st) S r := ev_ic_gt h (fun e => kt (by rw [nn_lt] at e; omega)) (fun e => kf (by rw [nn_lt] at e; omega))
theorem en_ic_le {i} (h : M.2.2.2.2.2 pc = (.if_icmp .le i, a, b, z)) (hu : u < 2147483648) (hv : v < 2147483648) (kt : u ≤ v → Ev X d M a lo st S r) (kf : v < u → Ev X d M (pc + 3) lo st S r) : Ev X d M pc lo (.int (nI v) :: .int (nI u) :: st) S r := ev_ic_le h (fun e => kt (by rw [nn_le] at e; omega)) (fun e => kf (by rw [nn_le] at e; omega))
theorem en_ic_lew {i} (h : M.2.2.2.2.2 pc = (.if_icmp .le i, a, b, z)) (kt : (u + 2147483648) % 4294967296 ≤ (v + 2147483648) % 4294967296 → Ev X d M a lo st S r) (kf : (v + 2147483648) % 4294967296 < (u + 2147483648) % 4294967296 → Ev X d M (pc + 3) lo st S r) : Ev X d M pc lo (.int (nI v) :: .int (nI u) :: st) S r := ev_ic_le h (fun e => kt (by rw [nn_le] at e; omega)) (fun e => kf (by rw [nn_le] at e; omega))
variable {G : gv_Sh} {A : Nat → Nat → Nat} {j : Nat → Nat → Int64} {cc : gv_Rs}
theorem en_getI {i q : Nat} (h : M.2.2.2.2.2 pc = (.getfield i, a, b, z)) (hf : gv_fk gv_fkT a b = 0) (hk : (G.2.1 q).1 = a) (hv : A q b = v) (k : Ev X d M (pc + 3) lo (.int (nI v) :: st) (G, (mI A, j), cc) r) : Ev X d M pc lo (.ref q :: st) (G, (mI A, j), cc) r := ev_getI h hf hk (by subst hv; exact k)
theorem en_getZ {i q : Nat} (h : M.2.2.2.2.2 pc = (.getfield i, a, b, z)) (hf : gv_fk gv_fkT a b = 1) (hk : (G.2.1 q).1 = a) (hv : A q b = v) (k : Ev X d M (pc + 3) lo (.int (nI v) :: st) (G, (mI A, j), cc) r) : Ev X d M pc lo (.ref q :: st) (G, (mI A, j), cc) r := ev_getZ h hf hk (by subst hv; exact k)
theorem en_putI {i q : Nat} (h : M.2.2.2.2.2 pc = (.putfield i, a, b, z)) (hf : gv_fk gv_fkT a b = 0) (hk : (G.2.1 q).1 = a) (k : Ev X d M (pc + 3) lo st (G, (mI (gu A q b u), j), cc) r) : Ev X d M pc lo (.int (nI u) :: .ref q :: st) (G, (mI A, j), cc) r := ev_putI h hf hk (by rw [mI_gu]; exact k)
theorem zo_n (y : Bool) : zo y = nI y.toNat := by cases y <;> rfl
theorem en_putZ {i q : Nat} (h : M.2.2.2.2.2 pc = (.putfield i, a, b, z)) (hf : gv_fk gv_fkT a b = 1) (hk : (G.2.1 q).1 = a) (hu : u < 2) (k : Ev X d M (pc + 3) lo st (G, (mI (gu A q b u), j), cc) r) : Ev X d M pc lo (.int (nI u) :: .ref q :: st) (G, (mI A, j), cc) r := ev_putZ h hf hk (by rcases (by omega : u = 0 ∨ u = 1) with rfl | rfl; exact Or.inl rfl; exact Or.inr rfl) (by rw [mI_gu]; exact k)
theorem en_putz {i q : Nat} {y : Bool} (h : M.2.2.2.2.2 pc = (.putfield i, a, b, z)) (hf : gv_fk gv_fkT a b = 1) (hk : (G.2.1 q).1 = a) (k : Ev X d M (pc + 3) lo st (G, (mI (gu A q b y.toNat), j), cc) r) : Ev X d M pc lo (.int (zo y) :: .ref q :: st) (G, (mI A, j), cc) r := ev_putZ h hf hk (zo_b y) (by rw [zo_n, mI_gu]; exact k)
theorem en_iald {q n : Nat} (h : M.2.2.2.2.2 pc = (.iaload, a, b, z)) (hk : G.2.1 q = (100, n)) (hn : n < 2147483648) (hi : u < n) (hv : A q u = v) (k : Ev X d M (pc + 1) lo (.int (nI v) :: st) (G, (mI A, j), cc) r) : Ev X d M pc lo (.int (nI u) :: .ref q :: st) (G, (mI A, j), cc) r := ev_iald h hk (nn_in hi hn) (by subst hv; rw [nI_clamp (by omega)]; exact k)
theorem en_bald {q n : Nat} (h : M.2.2.2.2.2 pc = (.baload, a, b, z)) (hk : G.2.1 q = (101, n)) (hn : n < 2147483648) (hi : u < n) (hv : A q u = v) (k : Ev X d M (pc + 1) lo (.int (nI v) :: st) (G, (mI A, j), cc) r) : Ev X d M pc lo (.int (nI u) :: .ref q :: st) (G, (mI A, j), cc) r := ev_bald h hk (nn_in hi hn) (by subst hv; rw [nI_clamp (by omega)]; exact k)
theorem en_iast {q n : Nat} (h : M.2.2.2.2.2 pc = (.iastore, a, b, z)) (hk : G.2.1 q = (100, n)) (hn : n < 2147483648) (hi : u < n) (k : Ev X d M (pc + 1) lo st (G, (mI (gu A q u v), j), cc) r) : Ev X d M pc lo (.int (nI v) :: .int (nI u) :: .ref q :: st) (G, (mI A, j), cc) r := ev_iast h hk (nn_in hi hn) (by rw [nI_clamp (by omega), mI_gu]; exact k)
theorem en_copy {i q0 q1 n0 n1 s p n : Nat} (h : M.2.2.2.2.2 pc = (.invokestatic i, a, b, z)) (ha : Nat.ble 990000 a = true) (hk0 : G.2.1 q0 = (100, n0)) (hk1 : G.2.1 q1 = (100, n1)) (hn0 : n0 < 2147483648) (hn1 : n1 < 2147483648) (h0 : s + n ≤ n0) (h1 : p + n ≤ n1) (hc : Nat.ble (gv_cat st) 8 = true) (k : Ev X d M (pc + 3) lo st (G, (mI (gw A q1 (va_cpy (A q0) (A q1) s p n)), j), cc) r) : Ev X d M pc lo (.int (nI n) :: .int (nI p) :: .ref q1 :: .int (nI s) :: .ref q0 :: st) (G, (mI A, j), cc) r := by
  have e1 : ¬ nI s < 0 := nI_pos (by omega)
  have e2 : ¬ nI p < 0 := nI_pos (by omega)
  have e3 : ¬ nI n < 0 := nI_pos (by omega)
  refine ev_copy h ha hk0 hk1 ?_ ?_
  · rw [nI_clamp (by omega), nI_clamp (by omega), nI_clamp (by omega)]
    simp only [e1, e2, e3, decide_false, Bool.not_false, Bool.true_and, hc, Bool.and_true, Bool.and_eq_true, Nat.ble_eq]
    exact ⟨h0, h1⟩
  · rw [nI_clamp (by omega), nI_clamp (by omega), nI_clamp (by omega), mI_gw]
    exact k
theorem en_tsw {df lw hg : Int} {os : Array Int} (i t : Nat) {o : Int} (h : M.2.2.2.2.2 pc = (.tableswitch df lw hg os, a, b, z)) (hw : lw = 0) (hh : hg < 2147483648) (hi : (i : Int) ≤ hg) (hu : u = i) (ho : os[i]? = some o) (ht : (pc : Int) + o = (t : Nat)) (k : Ev X d M t lo st S r) : Ev X d M pc lo (.int (nI u) :: st) S r := by
  subst hw
  have e : (nI u).toInt = (i : Int) := by rw [nI_toInt (by omega), hu]
  refine ev_tsw i h ?_ ?_ ho ?_ ?_
  · rw [e]; simp only [Bool.or_eq_false_iff, decide_eq_false_iff_not]; omega
  · rw [e]; omega
  · rw [ht]; exact decide_eq_true (by omega)
  · rw [ht]; exact k
theorem en_tswD {df lw hg : Int} {os : Array Int} (n t : Nat) (h : M.2.2.2.2.2 pc = (.tableswitch df lw hg os, a, b, z)) (hw : lw = 0) (hx : hg = (n : Nat)) (hh : n < 2147483648) (hu : u < 4294967296) (hd : n < u) (ht : (pc : Int) + df = (t : Nat)) (k : Ev X d M t lo st S r) : Ev X d M pc lo (.int (nI u) :: st) S r := by
  subst hw
  refine ev_tswD h ?_ ?_ ?_
  · rw [nn_i, hx]; simp only [Bool.or_eq_true, decide_eq_true_eq]; omega
  · rw [ht]; exact decide_eq_true (by omega)
  · rw [ht]; exact k
theorem en_iandm (k n : Nat) (h : M.2.2.2.2.2 pc = (.iand, a, b, z)) (hv : v = 2 ^ k - 1) (hn : n = 2 ^ k) (kk : Ev X d M (pc + 1) lo (.int (nI (u % n)) :: st) S r) : Ev X d M pc lo (.int (nI v) :: .int (nI u) :: st) S r := en_iand h (by rw [hv, Nat.and_two_pow_sub_one_eq_mod, ← hn]; exact kk)
theorem en_ishl1 (h : M.2.2.2.2.2 pc = (.ishl, a, b, z)) (hv : v < 32) (k : Ev X d M (pc + 1) lo (.int (nI (2 ^ v)) :: st) S r) : Ev X d M pc lo (.int (nI v) :: .int (nI 1) :: st) S r := en_ishl h hv (by rw [Nat.one_mul]; exact k)
theorem zo_inj {x y : Bool} : zo x = zo y ↔ x = y := by cases x <;> cases y <;> decide
theorem en_iz_eq {i} {x y : Bool} (h : M.2.2.2.2.2 pc = (.if_icmp .eq i, a, b, z)) (kt : x = y → Ev X d M a lo st S r) (kf : ¬ x = y → Ev X d M (pc + 3) lo st S r) : Ev X d M pc lo (.int (zo y) :: .int (zo x) :: st) S r := ev_ic_eq h (fun e => kt (zo_inj.mp e)) (fun e => kf (fun q => e (zo_inj.mpr q)))
theorem en_iz_ne {i} {x y : Bool} (h : M.2.2.2.2.2 pc = (.if_icmp .ne i, a, b, z)) (kt : ¬ x = y → Ev X d M a lo st S r) (kf : x = y → Ev X d M (pc + 3) lo st S r) : Ev X d M pc lo (.int (zo y) :: .int (zo x) :: st) S r := ev_ic_ne h (fun e => kt (fun q => e (zo_inj.mpr q))) (fun e => kf (zo_inj.mp e))
theorem en_script (h : M.2.2.2.2.2 pc = (.iaload, a, b, z)) (hi : u < X.2) (hn : X.2 < 2147483648) (k : Ev X d M (pc + 1) lo (.int (X.1 u) :: st) S r) : Ev X d M pc lo (.int (nI u) :: .retAddr 0 :: st) S r := ev_script h (nn_in hi hn) (by rw [nI_clamp (by omega)]; exact k)
theorem en_lald {q n : Nat} {m : Nat → Nat → Int32} (h : M.2.2.2.2.2 pc = (.laload, a, b, z)) (hk : G.2.1 q = (102, n)) (hn : n < 2147483648) (hi : u < n) (k : Ev X d M (pc + 1) lo (.long (j q u) :: st) (G, (m, j), cc) r) : Ev X d M pc lo (.int (nI u) :: .ref q :: st) (G, (m, j), cc) r := ev_lald h hk (nn_in hi hn) (by rw [nI_clamp (by omega)]; exact k)
theorem en_last {q n : Nat} {m : Nat → Nat → Int32} {x : Int64} (h : M.2.2.2.2.2 pc = (.lastore, a, b, z)) (hk : G.2.1 q = (102, n)) (hn : n < 2147483648) (hi : u < n) (k : Ev X d M (pc + 1) lo st (G, (m, gu j q u x), cc) r) : Ev X d M pc lo (.long x :: .int (nI u) :: .ref q :: st) (G, (m, j), cc) r := ev_last h hk (nn_in hi hn) (by rw [nI_clamp (by omega)]; exact k)
theorem en_aald {m : Nat → Nat → Int32} (h : M.2.2.2.2.2 pc = (.aaload, a, b, z)) (hk : oHA G) (hi : u < 12) (k : Ev X d M (pc + 1) lo (.ref (hq u) :: st) (G, (m, j), cc) r) : Ev X d M pc lo (.int (nI u) :: .ref 77 :: st) (G, (m, j), cc) r := ev_aald h hk.1 (nn_in hi (by decide)) (by rw [nI_clamp (by omega)]; exact (hk.2 u hi).1) k
theorem en_bast {q n : Nat} {x : Int32} (h : M.2.2.2.2.2 pc = (.bastore, a, b, z)) (hk : G.2.1 q = (101, n)) (hn : n < 2147483648) (hi : u < n) (k : Ev X d M (pc + 1) lo st (G, (mI (gu A q u (by8 x)), j), cc) r) : Ev X d M pc lo (.int x :: .int (nI u) :: .ref q :: st) (G, (mI A, j), cc) r := ev_bast h hk (nn_in hi hn) (by rw [nI_clamp (by omega)]; rw [← mI_gu] at k; unfold by8 at k; rw [nI_tn] at k; exact k)
theorem en_slen {i q : Nat} (h : M.2.2.2.2.2 pc = (.invokevirtual i, 990001, b, z)) (hq : 1 ≤ q ∧ q - 1 < gv_txT.length) (hc : Nat.ble (gv_cat st) 8 = true) (k : Ev X d M (pc + 3) lo (.int (nI (gv_str gv_txT q).length) :: st) S r) : Ev X d M pc lo (.retAddr q :: st) S r := ev_slen h (by simp only [hc, Bool.and_true, Bool.and_eq_true, Nat.ble_eq, Nat.blt_eq]; exact hq) k
theorem en_schar {i q : Nat} (h : M.2.2.2.2.2 pc = (.invokevirtual i, 990002, b, z)) (hq : 1 ≤ q ∧ q - 1 < gv_txT.length) (hi : u < (gv_str gv_txT q).length) (hc : Nat.ble (gv_cat st) 8 = true) (k : Ev X d M (pc + 3) lo (.int (nI (chN q u)) :: st) S r) : Ev X d M pc lo (.int (nI u) :: .retAddr q :: st) S r := ev_schar h (by rw [nn_in hi (by have := str_len q; omega)]; simp only [hc, Bool.and_true, Bool.and_eq_true, Nat.ble_eq, Nat.blt_eq]; exact hq) (by rw [nI_clamp (by have := str_len q; omega)]; unfold chN at k; rw [nI_tn] at k; exact k)
end EVN
