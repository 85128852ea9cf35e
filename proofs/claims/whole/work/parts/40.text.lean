/-! THE TEXT: its methods -/
def b2 (p : Bool) : Int32 := if p = true then 1 else 0
theorem b2_t : b2 true = 1 := rfl
theorem b2_f : b2 false = 0 := rfl
def dgB (b : Int32) : Bool := !(decide (b < 48)) && !(decide (57 < b))
def wB (b : Int32) : Bool := (!(decide (b < 97)) && !(decide (122 < b))) || (!(decide (b < 48)) && !(decide (57 < b))) || decide (b = 33) || decide (b = 42) || decide (b = 43) || decide (b = 45) || decide (b = 47) || decide (b = 60) || decide (b = 61) || decide (b = 62) || decide (b = 63)
theorem vin_lt {p : Int32} {n : Nat} (h0 : ¬ p < 0) (h : p < nI n) (hn : n < 2 ^ 31) : vp_in p n := by
  obtain ⟨j, hj, rfl⟩ := nI_of h0
  exact vp_in_nI ((nI_ltI hj hn).mp h) hn
def f_at (M : aM) (p : Int32) : Int32 := if p < 0 then -1 else if p < M 1 1 then (if p < 400 then M 2 p.toNatClampNeg else -1) else -1
def sp_Text_at : aS := fun as M K => match as with
  | [.ref a, .int p] => a = 1 ∧ K (some (.int (f_at M p))) M
  | _ => False
set_option maxRecDepth 20000 in
theorem ok_Text_at {G : aG} (hG : am_ok G) {d : Nat} : am_Sp G Y_Text_at d sp_Text_at := by
  intro as M K h
  unfold sp_Text_at at h
  split at h
  · next a p =>
    obtain ⟨rfl, h⟩ := h
    refine am_entry hG (by decide +kernel) (Nat.le_of_ble_eq_true rfl) ?_
    refine am_go (cuts := k_Text_at) tb_Text_at 60 _ _ _ _ ?_
    show am_run c_Text_at k_Text_at (am_X G Y_Text_at d K) K 60 0 [some (.ref 1), some (.int p)] [] M
    simp only [r_Text_at_0, r_Text_at_1, r_Text_at_4, r_Text_at_5, r_Text_at_6, r_Text_at_9, r_Text_at_12, r_Text_at_13, r_Text_at_16, r_Text_at_19, r_Text_at_20, r_Text_at_23, r_Text_at_24, r_Text_at_25, r_Text_at_28, r_Text_at_29, ai_const, ai_lconst, ai_iload, ai_aload, ai_lload, ai_istore, ai_astore, ai_lstore, ai_iinc, ai_bin, ai_iadd, ai_isub, ai_imul, ai_iand, ai_ior, ai_idiv, ai_irem, ai_ineg, ai_lbin, ai_lor, ai_land, ai_ladd, ai_lushr, ai_lshl, ai_lshr, ai_ishl, ai_ishr, ai_i2l, ai_l2i, ai_dup, ai_dup2, ai_dup_x1, ai_dup_x2, ai_pop, ai_ifeq, ai_ifne, ai_iflt, ai_ifge, ai_ifgt, ai_ifle, ai_cmpeq, ai_cmpne, ai_cmplt, ai_cmpge, ai_cmpgt, ai_cmple, ai_lcmp, ai_goto, ai_switch, am_sw, ai_getf, ai_putf, ai_iald, ai_iast, ai_alen, ai_xald, ai_xlen, ai_gets, ai_callv1, ai_callv2, ai_callv3, ai_callv4, ai_calls1, ai_calls2, ai_min, ai_iret, ai_zret, ai_lret, ai_vret, am_push, am_few, am_cut_0, am_cut_s, am_c1, kd_0, fd_0_0, fd_0_1, fd_0_2, fd_0_3, fd_0_4, kd_1, fd_1_0, fd_1_1, ln_2, kd_3, fd_3_0, fd_3_1, fd_3_2, fd_3_3, fd_3_4, fd_3_5, fd_3_6, fd_3_7, fd_3_8, fd_3_9, ln_4, ln_5, ln_6, ln_7, ln_8, ln_9, ln_10, kd_11, fd_11_0, fd_11_1, fd_11_2, fd_11_3, fd_11_4, kd_12, fd_12_0, fd_12_1, fd_12_2, fd_12_3, ln_13, ln_14, ln_15, kd_16, fd_16_0, fd_16_1, fd_16_2, ln_17, kd_18, fd_18_0, fd_18_1, kd_19, fd_19_0, fd_19_1, fd_19_2, fd_19_3, fd_19_4, fd_19_5, fd_19_6, fd_19_7, fd_19_8, fd_19_9, fd_19_10, fd_19_11, fd_19_12, fd_19_13, fd_19_14, fd_19_15, fd_19_16, fd_19_17, fd_19_18, fd_19_19, fd_19_20, ln_20, ln_21, ln_22, ln_23, ln_24, ln_25, ln_26, ln_27, ln_28, ln_29, ln_30, ln_31, ln_32, List.getElem?_cons_zero, List.getElem?_cons_succ, List.set_cons_zero, List.set_cons_succ, true_and, and_true, ↓reduceIte, Int32.reduceLT, Int32.reduceLE, li_10, or_true, true_or]
    unfold f_at at h
    split
    · next h1 => rw [if_pos h1] at h; exact h
    · next h1 =>
      rw [if_neg h1] at h
      split
      · next h2 =>
        rw [if_pos h2] at h
        split
        · next h3 => rw [if_pos h3] at h; exact ⟨vin_lt h1 h3 (by decide), h⟩
        · next h3 => rw [if_neg h3] at h; exact h
      · next h2 => rw [if_neg h2] at h; exact h
  · cases h
def sp_Text_isDigit : aS := fun as M K => match as with
  | [.int b] => K (some (.int (b2 (dgB b)))) M
  | _ => False
set_option maxRecDepth 20000 in
theorem ok_Text_isDigit {G : aG} (hG : am_ok G) {d : Nat} : am_Sp G Y_Text_isDigit d sp_Text_isDigit := by
  intro as M K h
  unfold sp_Text_isDigit at h
  split at h
  · next b =>
    refine am_entry hG (by decide +kernel) (Nat.le_of_ble_eq_true rfl) ?_
    refine am_go (cuts := k_Text_isDigit) tb_Text_isDigit 60 _ _ _ _ ?_
    show am_run c_Text_isDigit k_Text_isDigit (am_X G Y_Text_isDigit d K) K 60 0 [some (.int b)] [] M
    simp only [r_Text_isDigit_0, r_Text_isDigit_1, r_Text_isDigit_3, r_Text_isDigit_6, r_Text_isDigit_7, r_Text_isDigit_9, r_Text_isDigit_12, r_Text_isDigit_13, r_Text_isDigit_16, r_Text_isDigit_17, ai_const, ai_lconst, ai_iload, ai_aload, ai_lload, ai_istore, ai_astore, ai_lstore, ai_iinc, ai_bin, ai_iadd, ai_isub, ai_imul, ai_iand, ai_ior, ai_idiv, ai_irem, ai_ineg, ai_lbin, ai_lor, ai_land, ai_ladd, ai_lushr, ai_lshl, ai_lshr, ai_ishl, ai_ishr, ai_i2l, ai_l2i, ai_dup, ai_dup2, ai_dup_x1, ai_dup_x2, ai_pop, ai_ifeq, ai_ifne, ai_iflt, ai_ifge, ai_ifgt, ai_ifle, ai_cmpeq, ai_cmpne, ai_cmplt, ai_cmpge, ai_cmpgt, ai_cmple, ai_lcmp, ai_goto, ai_switch, am_sw, ai_getf, ai_putf, ai_iald, ai_iast, ai_alen, ai_xald, ai_xlen, ai_gets, ai_callv1, ai_callv2, ai_callv3, ai_callv4, ai_calls1, ai_calls2, ai_min, ai_iret, ai_zret, ai_lret, ai_vret, am_push, am_few, am_cut_0, am_cut_s, am_c1, kd_0, fd_0_0, fd_0_1, fd_0_2, fd_0_3, fd_0_4, kd_1, fd_1_0, fd_1_1, ln_2, kd_3, fd_3_0, fd_3_1, fd_3_2, fd_3_3, fd_3_4, fd_3_5, fd_3_6, fd_3_7, fd_3_8, fd_3_9, ln_4, ln_5, ln_6, ln_7, ln_8, ln_9, ln_10, kd_11, fd_11_0, fd_11_1, fd_11_2, fd_11_3, fd_11_4, kd_12, fd_12_0, fd_12_1, fd_12_2, fd_12_3, ln_13, ln_14, ln_15, kd_16, fd_16_0, fd_16_1, fd_16_2, ln_17, kd_18, fd_18_0, fd_18_1, kd_19, fd_19_0, fd_19_1, fd_19_2, fd_19_3, fd_19_4, fd_19_5, fd_19_6, fd_19_7, fd_19_8, fd_19_9, fd_19_10, fd_19_11, fd_19_12, fd_19_13, fd_19_14, fd_19_15, fd_19_16, fd_19_17, fd_19_18, fd_19_19, fd_19_20, ln_20, ln_21, ln_22, ln_23, ln_24, ln_25, ln_26, ln_27, ln_28, ln_29, ln_30, ln_31, ln_32, List.getElem?_cons_zero, List.getElem?_cons_succ, List.set_cons_zero, List.set_cons_succ, true_and, and_true, ↓reduceIte, Int32.reduceLT, Int32.reduceLE, li_10, or_true, true_or]
    unfold dgB at h
    (repeat' split) <;> simp_all [b2]
  · cases h
def sp_Text_isWordByte : aS := fun as M K => match as with
  | [.int b] => K (some (.int (b2 (wB b)))) M
  | _ => False
set_option maxRecDepth 100000 in
set_option maxHeartbeats 4000000 in
theorem ok_Text_isWordByte {G : aG} (hG : am_ok G) {d : Nat} : am_Sp G Y_Text_isWordByte d sp_Text_isWordByte := by
  intro as M K h
  unfold sp_Text_isWordByte at h
  split at h
  · next b =>
    refine am_entry hG (by decide +kernel) (Nat.le_of_ble_eq_true rfl) ?_
    refine am_go (cuts := k_Text_isWordByte) tb_Text_isWordByte 60 _ _ _ _ ?_
    show am_run c_Text_isWordByte k_Text_isWordByte (am_X G Y_Text_isWordByte d K) K 60 0 [some (.int b)] [] M
    simp only [r_Text_isWordByte_0, r_Text_isWordByte_1, r_Text_isWordByte_3, r_Text_isWordByte_6, r_Text_isWordByte_7, r_Text_isWordByte_9, r_Text_isWordByte_12, r_Text_isWordByte_13, r_Text_isWordByte_15, r_Text_isWordByte_18, r_Text_isWordByte_19, r_Text_isWordByte_21, r_Text_isWordByte_24, r_Text_isWordByte_25, r_Text_isWordByte_26, r_Text_isWordByte_27, r_Text_isWordByte_164, r_Text_isWordByte_165, r_Text_isWordByte_166, r_Text_isWordByte_167, ai_const, ai_lconst, ai_iload, ai_aload, ai_lload, ai_istore, ai_astore, ai_lstore, ai_iinc, ai_bin, ai_iadd, ai_isub, ai_imul, ai_iand, ai_ior, ai_idiv, ai_irem, ai_ineg, ai_lbin, ai_lor, ai_land, ai_ladd, ai_lushr, ai_lshl, ai_lshr, ai_ishl, ai_ishr, ai_i2l, ai_l2i, ai_dup, ai_dup2, ai_dup_x1, ai_dup_x2, ai_pop, ai_ifeq, ai_ifne, ai_iflt, ai_ifge, ai_ifgt, ai_ifle, ai_cmpeq, ai_cmpne, ai_cmplt, ai_cmpge, ai_cmpgt, ai_cmple, ai_lcmp, ai_goto, ai_switch, am_sw, ai_getf, ai_putf, ai_iald, ai_iast, ai_alen, ai_xald, ai_xlen, ai_gets, ai_callv1, ai_callv2, ai_callv3, ai_callv4, ai_calls1, ai_calls2, ai_min, ai_iret, ai_zret, ai_lret, ai_vret, am_push, am_few, am_cut_0, am_cut_s, am_c1, kd_0, fd_0_0, fd_0_1, fd_0_2, fd_0_3, fd_0_4, kd_1, fd_1_0, fd_1_1, ln_2, kd_3, fd_3_0, fd_3_1, fd_3_2, fd_3_3, fd_3_4, fd_3_5, fd_3_6, fd_3_7, fd_3_8, fd_3_9, ln_4, ln_5, ln_6, ln_7, ln_8, ln_9, ln_10, kd_11, fd_11_0, fd_11_1, fd_11_2, fd_11_3, fd_11_4, kd_12, fd_12_0, fd_12_1, fd_12_2, fd_12_3, ln_13, ln_14, ln_15, kd_16, fd_16_0, fd_16_1, fd_16_2, ln_17, kd_18, fd_18_0, fd_18_1, kd_19, fd_19_0, fd_19_1, fd_19_2, fd_19_3, fd_19_4, fd_19_5, fd_19_6, fd_19_7, fd_19_8, fd_19_9, fd_19_10, fd_19_11, fd_19_12, fd_19_13, fd_19_14, fd_19_15, fd_19_16, fd_19_17, fd_19_18, fd_19_19, fd_19_20, ln_20, ln_21, ln_22, ln_23, ln_24, ln_25, ln_26, ln_27, ln_28, ln_29, ln_30, ln_31, ln_32, List.getElem?_cons_zero, List.getElem?_cons_succ, List.set_cons_zero, List.set_cons_succ, true_and, and_true, ↓reduceIte, Int32.reduceLT, Int32.reduceLE, li_10, or_true, true_or]
    by_cases s : b = 33 ∨ b = 42 ∨ b = 43 ∨ b = 45 ∨ b = 47 ∨ b = 60 ∨ b = 61 ∨ b = 62 ∨ b = 63
    · rcases s with rfl | rfl | rfl | rfl | rfl | rfl | rfl | rfl | rfl <;> exact h
    · simp only [not_or] at s
      obtain ⟨s1, s2, s3, s4, s5, s6, s7, s8, s9⟩ := s
      simp only [s1, s2, s3, s4, s5, s6, s7, s8, s9, ↓reduceIte, ite_self]
      by_cases c1 : b < 97
      · by_cases c2 : b < 48
        · rw [show wB b = false by simp only [wB, c1, c2, s1, s2, s3, s4, s5, s6, s7, s8, s9]; rfl] at h
          rw [if_pos c1, if_pos c2]; exact h
        · by_cases c3 : 57 < b
          · rw [show wB b = false by simp only [wB, c1, c2, c3, s1, s2, s3, s4, s5, s6, s7, s8, s9]; rfl] at h
            rw [if_pos c1, if_neg c2, if_pos c3]; exact h
          · rw [show wB b = true by simp only [wB, c1, c2, c3, s1, s2, s3, s4, s5, s6, s7, s8, s9]; rfl] at h
            rw [if_pos c1, if_neg c2, if_neg c3]; exact h
      · by_cases c0 : 122 < b
        · by_cases c2 : b < 48
          · rw [show wB b = false by simp only [wB, c0, c1, c2, s1, s2, s3, s4, s5, s6, s7, s8, s9]; rfl] at h
            rw [if_neg c1, if_pos c0, if_pos c2]; exact h
          · by_cases c3 : 57 < b
            · rw [show wB b = false by simp only [wB, c0, c1, c2, c3, s1, s2, s3, s4, s5, s6, s7, s8, s9]; rfl] at h
              rw [if_neg c1, if_pos c0, if_neg c2, if_pos c3]; exact h
            · rw [show wB b = true by simp only [wB, c0, c1, c2, c3, s1, s2, s3, s4, s5, s6, s7, s8, s9]; rfl] at h
              rw [if_neg c1, if_pos c0, if_neg c2, if_neg c3]; exact h
        · rw [show wB b = true by simp only [wB, c0, c1]; rfl] at h
          rw [if_neg c1, if_neg c0]; exact h
  · cases h
/-- where the blanks and remarks from i on end; k: how many bytes are left; cm: in a remark -/
def skB (t : Nat → Int32) : Nat → Bool → Nat → Nat
  | 0, _, i => i
  | k + 1, cm, i => if (decide (t i = 59) || (cm && !decide (t i = 10))) = true then skB t k true (i + 1) else if t i = 10 ∨ t i = 32 then skB t k false (i + 1) else i
theorem skB_le (t : Nat → Int32) : ∀ (k : Nat) (cm : Bool) (i : Nat), i ≤ skB t k cm i ∧ skB t k cm i ≤ i + k
  | 0, _, i => ⟨Nat.le_refl i, Nat.le_refl i⟩
  | k + 1, cm, i => by
    have h1 := skB_le t k true (i + 1)
    have h2 := skB_le t k false (i + 1)
    simp only [skB]
    split
    · omega
    · split <;> omega
def tx_ok (M : aM) (n : Nat) : Prop := M 1 1 = nI n ∧ n ≤ 400
theorem f_at_nI {M : aM} {n i : Nat} (h : tx_ok M n) (hi : i < 2 ^ 31) : f_at M (nI i) = if i < n then M 2 i else -1 := by
  obtain ⟨h1, h2⟩ := h
  unfold f_at
  rw [if_neg (nI_pos hi), h1]
  by_cases q : i < n
  · rw [if_pos ((nI_ltI hi (by omega)).mpr q), if_pos q, if_pos (show nI i < 400 from (nI_ltI (b := 400) hi (by decide)).mpr (by omega)), nI_clamp hi]
  · rw [if_neg (fun z => q ((nI_ltI hi (by omega)).mp z)), if_neg q]
def sp_Text_skipBlanks : aS := fun as M K => match as with
  | [.ref a, .int p] => a = 1 ∧ ∃ n i, tx_ok M n ∧ p = nI i ∧ i ≤ n ∧ K (some (.int (nI (skB (M 2) (n - i) false i)))) M
  | _ => False
set_option maxRecDepth 20000 in
theorem lp_Text_skipBlanks {G : aG} (hG : am_ok G) {K : aR} {M : aM} {n : Nat} (hn : tx_ok M n) {p : Int32} : ∀ (k i : Nat) (cm : Bool) (o : Option Value), i + k = n → K (some (.int (nI (skB (M 2) k cm i)))) M → am_X G Y_Text_skipBlanks 1 K 4 [some (.ref 1), some (.int p), some (.int (b2 cm)), some (.int (nI i)), o] [] M := by
  intro k
  induction k with
  | zero =>
    intro i cm o hk h
    refine am_from (tb_Text_skipBlanks (ok_Text_at hG (d := 0)) (by decide)) k_Text_skipBlanks 80 ?_
    have e1 : ¬ nI i < M 1 1 := by rw [hn.1]; exact nI_nlt (by omega) (by have := hn.2; omega)
    simp only [q_Text_skipBlanks_4, r_Text_skipBlanks_0, r_Text_skipBlanks_1, r_Text_skipBlanks_2, r_Text_skipBlanks_3, r_Text_skipBlanks_4, r_Text_skipBlanks_5, r_Text_skipBlanks_6, r_Text_skipBlanks_9, r_Text_skipBlanks_12, r_Text_skipBlanks_13, r_Text_skipBlanks_14, r_Text_skipBlanks_17, r_Text_skipBlanks_19, r_Text_skipBlanks_21, r_Text_skipBlanks_23, r_Text_skipBlanks_26, r_Text_skipBlanks_27, r_Text_skipBlanks_30, r_Text_skipBlanks_32, r_Text_skipBlanks_34, r_Text_skipBlanks_37, r_Text_skipBlanks_38, r_Text_skipBlanks_41, r_Text_skipBlanks_42, r_Text_skipBlanks_43, r_Text_skipBlanks_44, r_Text_skipBlanks_47, r_Text_skipBlanks_49, r_Text_skipBlanks_51, r_Text_skipBlanks_54, r_Text_skipBlanks_56, r_Text_skipBlanks_58, r_Text_skipBlanks_61, r_Text_skipBlanks_62, r_Text_skipBlanks_63, r_Text_skipBlanks_66, r_Text_skipBlanks_69, r_Text_skipBlanks_70, ai_const, ai_lconst, ai_iload, ai_aload, ai_lload, ai_istore, ai_astore, ai_lstore, ai_iinc, ai_bin, ai_iadd, ai_isub, ai_imul, ai_iand, ai_ior, ai_idiv, ai_irem, ai_ineg, ai_lbin, ai_lor, ai_land, ai_ladd, ai_lushr, ai_lshl, ai_lshr, ai_ishl, ai_ishr, ai_i2l, ai_l2i, ai_dup, ai_dup2, ai_dup_x1, ai_dup_x2, ai_pop, ai_ifeq, ai_ifne, ai_iflt, ai_ifge, ai_ifgt, ai_ifle, ai_cmpeq, ai_cmpne, ai_cmplt, ai_cmpge, ai_cmpgt, ai_cmple, ai_lcmp, ai_goto, ai_switch, am_sw, ai_getf, ai_putf, ai_iald, ai_iast, ai_alen, ai_xald, ai_xlen, ai_gets, ai_callv1, ai_callv2, ai_callv3, ai_callv4, ai_calls1, ai_calls2, ai_min, ai_iret, ai_zret, ai_lret, ai_vret, am_push, am_few, am_cut_0, am_cut_s, am_c1, kd_0, fd_0_0, fd_0_1, fd_0_2, fd_0_3, fd_0_4, kd_1, fd_1_0, fd_1_1, ln_2, kd_3, fd_3_0, fd_3_1, fd_3_2, fd_3_3, fd_3_4, fd_3_5, fd_3_6, fd_3_7, fd_3_8, fd_3_9, ln_4, ln_5, ln_6, ln_7, ln_8, ln_9, ln_10, kd_11, fd_11_0, fd_11_1, fd_11_2, fd_11_3, fd_11_4, kd_12, fd_12_0, fd_12_1, fd_12_2, fd_12_3, ln_13, ln_14, ln_15, kd_16, fd_16_0, fd_16_1, fd_16_2, ln_17, kd_18, fd_18_0, fd_18_1, kd_19, fd_19_0, fd_19_1, fd_19_2, fd_19_3, fd_19_4, fd_19_5, fd_19_6, fd_19_7, fd_19_8, fd_19_9, fd_19_10, fd_19_11, fd_19_12, fd_19_13, fd_19_14, fd_19_15, fd_19_16, fd_19_17, fd_19_18, fd_19_19, fd_19_20, ln_20, ln_21, ln_22, ln_23, ln_24, ln_25, ln_26, ln_27, ln_28, ln_29, ln_30, ln_31, ln_32, List.getElem?_cons_zero, List.getElem?_cons_succ, List.set_cons_zero, List.set_cons_succ, true_and, and_true, ↓reduceIte, Int32.reduceLT, Int32.reduceLE, li_10, or_true, true_or, ↓sp_Text_at, e1]
    exact h
  | succ k ih =>
    intro i cm o hk h
    have hn2 := hn.2
    refine am_from (tb_Text_skipBlanks (ok_Text_at hG (d := 0)) (by decide)) k_Text_skipBlanks 80 ?_
    have e1 : nI i < M 1 1 := by rw [hn.1]; exact nI_lt (by omega) (by omega)
    have e2 : f_at M (nI i) = M 2 i := by rw [f_at_nI hn (by omega), if_pos (by omega)]
    simp only [q_Text_skipBlanks_4, r_Text_skipBlanks_0, r_Text_skipBlanks_1, r_Text_skipBlanks_2, r_Text_skipBlanks_3, r_Text_skipBlanks_4, r_Text_skipBlanks_5, r_Text_skipBlanks_6, r_Text_skipBlanks_9, r_Text_skipBlanks_12, r_Text_skipBlanks_13, r_Text_skipBlanks_14, r_Text_skipBlanks_17, r_Text_skipBlanks_19, r_Text_skipBlanks_21, r_Text_skipBlanks_23, r_Text_skipBlanks_26, r_Text_skipBlanks_27, r_Text_skipBlanks_30, r_Text_skipBlanks_32, r_Text_skipBlanks_34, r_Text_skipBlanks_37, r_Text_skipBlanks_38, r_Text_skipBlanks_41, r_Text_skipBlanks_42, r_Text_skipBlanks_43, r_Text_skipBlanks_44, r_Text_skipBlanks_47, r_Text_skipBlanks_49, r_Text_skipBlanks_51, r_Text_skipBlanks_54, r_Text_skipBlanks_56, r_Text_skipBlanks_58, r_Text_skipBlanks_61, r_Text_skipBlanks_62, r_Text_skipBlanks_63, r_Text_skipBlanks_66, r_Text_skipBlanks_69, r_Text_skipBlanks_70, ai_const, ai_lconst, ai_iload, ai_aload, ai_lload, ai_istore, ai_astore, ai_lstore, ai_iinc, ai_bin, ai_iadd, ai_isub, ai_imul, ai_iand, ai_ior, ai_idiv, ai_irem, ai_ineg, ai_lbin, ai_lor, ai_land, ai_ladd, ai_lushr, ai_lshl, ai_lshr, ai_ishl, ai_ishr, ai_i2l, ai_l2i, ai_dup, ai_dup2, ai_dup_x1, ai_dup_x2, ai_pop, ai_ifeq, ai_ifne, ai_iflt, ai_ifge, ai_ifgt, ai_ifle, ai_cmpeq, ai_cmpne, ai_cmplt, ai_cmpge, ai_cmpgt, ai_cmple, ai_lcmp, ai_goto, ai_switch, am_sw, ai_getf, ai_putf, ai_iald, ai_iast, ai_alen, ai_xald, ai_xlen, ai_gets, ai_callv1, ai_callv2, ai_callv3, ai_callv4, ai_calls1, ai_calls2, ai_min, ai_iret, ai_zret, ai_lret, ai_vret, am_push, am_few, am_cut_0, am_cut_s, am_c1, kd_0, fd_0_0, fd_0_1, fd_0_2, fd_0_3, fd_0_4, kd_1, fd_1_0, fd_1_1, ln_2, kd_3, fd_3_0, fd_3_1, fd_3_2, fd_3_3, fd_3_4, fd_3_5, fd_3_6, fd_3_7, fd_3_8, fd_3_9, ln_4, ln_5, ln_6, ln_7, ln_8, ln_9, ln_10, kd_11, fd_11_0, fd_11_1, fd_11_2, fd_11_3, fd_11_4, kd_12, fd_12_0, fd_12_1, fd_12_2, fd_12_3, ln_13, ln_14, ln_15, kd_16, fd_16_0, fd_16_1, fd_16_2, ln_17, kd_18, fd_18_0, fd_18_1, kd_19, fd_19_0, fd_19_1, fd_19_2, fd_19_3, fd_19_4, fd_19_5, fd_19_6, fd_19_7, fd_19_8, fd_19_9, fd_19_10, fd_19_11, fd_19_12, fd_19_13, fd_19_14, fd_19_15, fd_19_16, fd_19_17, fd_19_18, fd_19_19, fd_19_20, ln_20, ln_21, ln_22, ln_23, ln_24, ln_25, ln_26, ln_27, ln_28, ln_29, ln_30, ln_31, ln_32, List.getElem?_cons_zero, List.getElem?_cons_succ, List.set_cons_zero, List.set_cons_succ, true_and, and_true, ↓reduceIte, Int32.reduceLT, Int32.reduceLE, li_10, or_true, true_or, ↓sp_Text_at, e1, e2, nI_1]
    simp only [skB] at h
    have g1 := ih (i + 1) true (some (.int (M 2 i))) (by omega)
    have g2 := ih (i + 1) false (some (.int (M 2 i))) (by omega)
    cases cm <;> by_cases c1 : M 2 i = 59 <;> by_cases c2 : M 2 i = 10 <;> by_cases c3 : M 2 i = 32 <;> simp [c1, c2, c3, b2] at h g1 g2 ⊢ <;> first | exact h | exact g1 h | exact g2 h
set_option maxRecDepth 20000 in
theorem ok_Text_skipBlanks {G : aG} (hG : am_ok G) : am_Sp G Y_Text_skipBlanks 1 sp_Text_skipBlanks := by
  intro as M K h
  unfold sp_Text_skipBlanks at h
  split at h
  · next a p =>
    obtain ⟨rfl, n, i, hn, rfl, hi, h⟩ := h
    refine am_entry hG (by decide +kernel) (Nat.le_of_ble_eq_true rfl) ?_
    refine am_go (cuts := k_Text_skipBlanks) (tb_Text_skipBlanks (ok_Text_at hG (d := 0)) (by decide)) 80 _ _ _ _ ?_
    show am_run (c_Text_skipBlanks sp_Text_at) k_Text_skipBlanks (am_X G Y_Text_skipBlanks 1 K) K 80 0 [some (.ref 1), some (.int (nI i)), none, none, none] [] M
    simp only [q_Text_skipBlanks_4, r_Text_skipBlanks_0, r_Text_skipBlanks_1, r_Text_skipBlanks_2, r_Text_skipBlanks_3, r_Text_skipBlanks_4, r_Text_skipBlanks_5, r_Text_skipBlanks_6, r_Text_skipBlanks_9, r_Text_skipBlanks_12, r_Text_skipBlanks_13, r_Text_skipBlanks_14, r_Text_skipBlanks_17, r_Text_skipBlanks_19, r_Text_skipBlanks_21, r_Text_skipBlanks_23, r_Text_skipBlanks_26, r_Text_skipBlanks_27, r_Text_skipBlanks_30, r_Text_skipBlanks_32, r_Text_skipBlanks_34, r_Text_skipBlanks_37, r_Text_skipBlanks_38, r_Text_skipBlanks_41, r_Text_skipBlanks_42, r_Text_skipBlanks_43, r_Text_skipBlanks_44, r_Text_skipBlanks_47, r_Text_skipBlanks_49, r_Text_skipBlanks_51, r_Text_skipBlanks_54, r_Text_skipBlanks_56, r_Text_skipBlanks_58, r_Text_skipBlanks_61, r_Text_skipBlanks_62, r_Text_skipBlanks_63, r_Text_skipBlanks_66, r_Text_skipBlanks_69, r_Text_skipBlanks_70, ai_const, ai_lconst, ai_iload, ai_aload, ai_lload, ai_istore, ai_astore, ai_lstore, ai_iinc, ai_bin, ai_iadd, ai_isub, ai_imul, ai_iand, ai_ior, ai_idiv, ai_irem, ai_ineg, ai_lbin, ai_lor, ai_land, ai_ladd, ai_lushr, ai_lshl, ai_lshr, ai_ishl, ai_ishr, ai_i2l, ai_l2i, ai_dup, ai_dup2, ai_dup_x1, ai_dup_x2, ai_pop, ai_ifeq, ai_ifne, ai_iflt, ai_ifge, ai_ifgt, ai_ifle, ai_cmpeq, ai_cmpne, ai_cmplt, ai_cmpge, ai_cmpgt, ai_cmple, ai_lcmp, ai_goto, ai_switch, am_sw, ai_getf, ai_putf, ai_iald, ai_iast, ai_alen, ai_xald, ai_xlen, ai_gets, ai_callv1, ai_callv2, ai_callv3, ai_callv4, ai_calls1, ai_calls2, ai_min, ai_iret, ai_zret, ai_lret, ai_vret, am_push, am_few, am_cut_0, am_cut_s, am_c1, kd_0, fd_0_0, fd_0_1, fd_0_2, fd_0_3, fd_0_4, kd_1, fd_1_0, fd_1_1, ln_2, kd_3, fd_3_0, fd_3_1, fd_3_2, fd_3_3, fd_3_4, fd_3_5, fd_3_6, fd_3_7, fd_3_8, fd_3_9, ln_4, ln_5, ln_6, ln_7, ln_8, ln_9, ln_10, kd_11, fd_11_0, fd_11_1, fd_11_2, fd_11_3, fd_11_4, kd_12, fd_12_0, fd_12_1, fd_12_2, fd_12_3, ln_13, ln_14, ln_15, kd_16, fd_16_0, fd_16_1, fd_16_2, ln_17, kd_18, fd_18_0, fd_18_1, kd_19, fd_19_0, fd_19_1, fd_19_2, fd_19_3, fd_19_4, fd_19_5, fd_19_6, fd_19_7, fd_19_8, fd_19_9, fd_19_10, fd_19_11, fd_19_12, fd_19_13, fd_19_14, fd_19_15, fd_19_16, fd_19_17, fd_19_18, fd_19_19, fd_19_20, ln_20, ln_21, ln_22, ln_23, ln_24, ln_25, ln_26, ln_27, ln_28, ln_29, ln_30, ln_31, ln_32, List.getElem?_cons_zero, List.getElem?_cons_succ, List.set_cons_zero, List.set_cons_succ, true_and, and_true, ↓reduceIte, Int32.reduceLT, Int32.reduceLE, li_10, or_true, true_or]
    exact lp_Text_skipBlanks hG hn (n - i) i false none (by omega) h
  · cases h
/-- where the word from i on ends -/
def wE (t : Nat → Int32) : Nat → Nat → Nat
  | 0, i => i
  | k + 1, i => if wB (t i) = true then wE t k (i + 1) else i
theorem wE_le (t : Nat → Int32) : ∀ (k i : Nat), i ≤ wE t k i ∧ wE t k i ≤ i + k
  | 0, i => ⟨Nat.le_refl i, Nat.le_refl i⟩
  | k + 1, i => by
    have h1 := wE_le t k (i + 1)
    simp only [wE]
    split <;> omega
def sp_Text_wordEnd : aS := fun as M K => match as with
  | [.ref a, .int p] => a = 1 ∧ ∃ n i, tx_ok M n ∧ p = nI i ∧ i ≤ 401 ∧ K (some (.int (nI (wE (M 2) (n - i) i)))) M
  | _ => False
set_option maxRecDepth 20000 in
theorem lp_Text_wordEnd {G : aG} (hG : am_ok G) {K : aR} {M : aM} {n : Nat} (hn : tx_ok M n) {p : Int32} : ∀ (k i : Nat), n - i = k → i ≤ 401 → K (some (.int (nI (wE (M 2) k i)))) M → am_X G Y_Text_wordEnd 1 K 2 [some (.ref 1), some (.int p), some (.int (nI i))] [] M := by
  intro k
  have hn2 := hn.2
  induction k with
  | zero =>
    intro i hk hi h
    refine am_from (tb_Text_wordEnd (ok_Text_at hG (d := 0)) (by decide) (ok_Text_isWordByte hG (d := 0)) (by decide)) k_Text_wordEnd 80 ?_
    have e1 : ¬ nI i < M 1 1 := by rw [hn.1]; exact nI_nlt (by omega) (by omega)
    simp only [q_Text_wordEnd_2, r_Text_wordEnd_0, r_Text_wordEnd_1, r_Text_wordEnd_2, r_Text_wordEnd_3, r_Text_wordEnd_4, r_Text_wordEnd_7, r_Text_wordEnd_10, r_Text_wordEnd_11, r_Text_wordEnd_12, r_Text_wordEnd_15, r_Text_wordEnd_18, r_Text_wordEnd_21, r_Text_wordEnd_24, r_Text_wordEnd_27, r_Text_wordEnd_28, ai_const, ai_lconst, ai_iload, ai_aload, ai_lload, ai_istore, ai_astore, ai_lstore, ai_iinc, ai_bin, ai_iadd, ai_isub, ai_imul, ai_iand, ai_ior, ai_idiv, ai_irem, ai_ineg, ai_lbin, ai_lor, ai_land, ai_ladd, ai_lushr, ai_lshl, ai_lshr, ai_ishl, ai_ishr, ai_i2l, ai_l2i, ai_dup, ai_dup2, ai_dup_x1, ai_dup_x2, ai_pop, ai_ifeq, ai_ifne, ai_iflt, ai_ifge, ai_ifgt, ai_ifle, ai_cmpeq, ai_cmpne, ai_cmplt, ai_cmpge, ai_cmpgt, ai_cmple, ai_lcmp, ai_goto, ai_switch, am_sw, ai_getf, ai_putf, ai_iald, ai_iast, ai_alen, ai_xald, ai_xlen, ai_gets, ai_callv1, ai_callv2, ai_callv3, ai_callv4, ai_calls1, ai_calls2, ai_min, ai_iret, ai_zret, ai_lret, ai_vret, am_push, am_few, am_cut_0, am_cut_s, am_c1, kd_0, fd_0_0, fd_0_1, fd_0_2, fd_0_3, fd_0_4, kd_1, fd_1_0, fd_1_1, ln_2, kd_3, fd_3_0, fd_3_1, fd_3_2, fd_3_3, fd_3_4, fd_3_5, fd_3_6, fd_3_7, fd_3_8, fd_3_9, ln_4, ln_5, ln_6, ln_7, ln_8, ln_9, ln_10, kd_11, fd_11_0, fd_11_1, fd_11_2, fd_11_3, fd_11_4, kd_12, fd_12_0, fd_12_1, fd_12_2, fd_12_3, ln_13, ln_14, ln_15, kd_16, fd_16_0, fd_16_1, fd_16_2, ln_17, kd_18, fd_18_0, fd_18_1, kd_19, fd_19_0, fd_19_1, fd_19_2, fd_19_3, fd_19_4, fd_19_5, fd_19_6, fd_19_7, fd_19_8, fd_19_9, fd_19_10, fd_19_11, fd_19_12, fd_19_13, fd_19_14, fd_19_15, fd_19_16, fd_19_17, fd_19_18, fd_19_19, fd_19_20, ln_20, ln_21, ln_22, ln_23, ln_24, ln_25, ln_26, ln_27, ln_28, ln_29, ln_30, ln_31, ln_32, List.getElem?_cons_zero, List.getElem?_cons_succ, List.set_cons_zero, List.set_cons_succ, true_and, and_true, ↓reduceIte, Int32.reduceLT, Int32.reduceLE, li_10, or_true, true_or, e1]
    exact h
  | succ k ih =>
    intro i hk hi h
    refine am_from (tb_Text_wordEnd (ok_Text_at hG (d := 0)) (by decide) (ok_Text_isWordByte hG (d := 0)) (by decide)) k_Text_wordEnd 80 ?_
    have e1 : nI i < M 1 1 := by rw [hn.1]; exact nI_lt (by omega) (by omega)
    have e2 : f_at M (nI i) = M 2 i := by rw [f_at_nI hn (by omega), if_pos (by omega)]
    simp only [q_Text_wordEnd_2, r_Text_wordEnd_0, r_Text_wordEnd_1, r_Text_wordEnd_2, r_Text_wordEnd_3, r_Text_wordEnd_4, r_Text_wordEnd_7, r_Text_wordEnd_10, r_Text_wordEnd_11, r_Text_wordEnd_12, r_Text_wordEnd_15, r_Text_wordEnd_18, r_Text_wordEnd_21, r_Text_wordEnd_24, r_Text_wordEnd_27, r_Text_wordEnd_28, ai_const, ai_lconst, ai_iload, ai_aload, ai_lload, ai_istore, ai_astore, ai_lstore, ai_iinc, ai_bin, ai_iadd, ai_isub, ai_imul, ai_iand, ai_ior, ai_idiv, ai_irem, ai_ineg, ai_lbin, ai_lor, ai_land, ai_ladd, ai_lushr, ai_lshl, ai_lshr, ai_ishl, ai_ishr, ai_i2l, ai_l2i, ai_dup, ai_dup2, ai_dup_x1, ai_dup_x2, ai_pop, ai_ifeq, ai_ifne, ai_iflt, ai_ifge, ai_ifgt, ai_ifle, ai_cmpeq, ai_cmpne, ai_cmplt, ai_cmpge, ai_cmpgt, ai_cmple, ai_lcmp, ai_goto, ai_switch, am_sw, ai_getf, ai_putf, ai_iald, ai_iast, ai_alen, ai_xald, ai_xlen, ai_gets, ai_callv1, ai_callv2, ai_callv3, ai_callv4, ai_calls1, ai_calls2, ai_min, ai_iret, ai_zret, ai_lret, ai_vret, am_push, am_few, am_cut_0, am_cut_s, am_c1, kd_0, fd_0_0, fd_0_1, fd_0_2, fd_0_3, fd_0_4, kd_1, fd_1_0, fd_1_1, ln_2, kd_3, fd_3_0, fd_3_1, fd_3_2, fd_3_3, fd_3_4, fd_3_5, fd_3_6, fd_3_7, fd_3_8, fd_3_9, ln_4, ln_5, ln_6, ln_7, ln_8, ln_9, ln_10, kd_11, fd_11_0, fd_11_1, fd_11_2, fd_11_3, fd_11_4, kd_12, fd_12_0, fd_12_1, fd_12_2, fd_12_3, ln_13, ln_14, ln_15, kd_16, fd_16_0, fd_16_1, fd_16_2, ln_17, kd_18, fd_18_0, fd_18_1, kd_19, fd_19_0, fd_19_1, fd_19_2, fd_19_3, fd_19_4, fd_19_5, fd_19_6, fd_19_7, fd_19_8, fd_19_9, fd_19_10, fd_19_11, fd_19_12, fd_19_13, fd_19_14, fd_19_15, fd_19_16, fd_19_17, fd_19_18, fd_19_19, fd_19_20, ln_20, ln_21, ln_22, ln_23, ln_24, ln_25, ln_26, ln_27, ln_28, ln_29, ln_30, ln_31, ln_32, List.getElem?_cons_zero, List.getElem?_cons_succ, List.set_cons_zero, List.set_cons_succ, true_and, and_true, ↓reduceIte, Int32.reduceLT, Int32.reduceLE, li_10, or_true, true_or, ↓sp_Text_at, ↓sp_Text_isWordByte, e1, e2, nI_1]
    simp only [wE] at h
    have g1 := ih (i + 1) (by omega) (by omega)
    cases c1 : wB (M 2 i) <;> simp only [c1, b2, ↓reduceIte, li_10, Bool.false_eq_true] at h ⊢
    · exact h
    · exact g1 h
set_option maxRecDepth 20000 in
theorem ok_Text_wordEnd {G : aG} (hG : am_ok G) : am_Sp G Y_Text_wordEnd 1 sp_Text_wordEnd := by
  intro as M K h
  unfold sp_Text_wordEnd at h
  split at h
  · next a p =>
    obtain ⟨rfl, n, i, hn, rfl, hi, h⟩ := h
    refine am_entry hG (by decide +kernel) (Nat.le_of_ble_eq_true rfl) ?_
    refine am_go (cuts := k_Text_wordEnd) (tb_Text_wordEnd (ok_Text_at hG (d := 0)) (by decide) (ok_Text_isWordByte hG (d := 0)) (by decide)) 80 _ _ _ _ ?_
    show am_run (c_Text_wordEnd sp_Text_at sp_Text_isWordByte) k_Text_wordEnd (am_X G Y_Text_wordEnd 1 K) K 80 0 [some (.ref 1), some (.int (nI i)), none] [] M
    simp only [q_Text_wordEnd_2, r_Text_wordEnd_0, r_Text_wordEnd_1, r_Text_wordEnd_2, r_Text_wordEnd_3, r_Text_wordEnd_4, r_Text_wordEnd_7, r_Text_wordEnd_10, r_Text_wordEnd_11, r_Text_wordEnd_12, r_Text_wordEnd_15, r_Text_wordEnd_18, r_Text_wordEnd_21, r_Text_wordEnd_24, r_Text_wordEnd_27, r_Text_wordEnd_28, ai_const, ai_lconst, ai_iload, ai_aload, ai_lload, ai_istore, ai_astore, ai_lstore, ai_iinc, ai_bin, ai_iadd, ai_isub, ai_imul, ai_iand, ai_ior, ai_idiv, ai_irem, ai_ineg, ai_lbin, ai_lor, ai_land, ai_ladd, ai_lushr, ai_lshl, ai_lshr, ai_ishl, ai_ishr, ai_i2l, ai_l2i, ai_dup, ai_dup2, ai_dup_x1, ai_dup_x2, ai_pop, ai_ifeq, ai_ifne, ai_iflt, ai_ifge, ai_ifgt, ai_ifle, ai_cmpeq, ai_cmpne, ai_cmplt, ai_cmpge, ai_cmpgt, ai_cmple, ai_lcmp, ai_goto, ai_switch, am_sw, ai_getf, ai_putf, ai_iald, ai_iast, ai_alen, ai_xald, ai_xlen, ai_gets, ai_callv1, ai_callv2, ai_callv3, ai_callv4, ai_calls1, ai_calls2, ai_min, ai_iret, ai_zret, ai_lret, ai_vret, am_push, am_few, am_cut_0, am_cut_s, am_c1, kd_0, fd_0_0, fd_0_1, fd_0_2, fd_0_3, fd_0_4, kd_1, fd_1_0, fd_1_1, ln_2, kd_3, fd_3_0, fd_3_1, fd_3_2, fd_3_3, fd_3_4, fd_3_5, fd_3_6, fd_3_7, fd_3_8, fd_3_9, ln_4, ln_5, ln_6, ln_7, ln_8, ln_9, ln_10, kd_11, fd_11_0, fd_11_1, fd_11_2, fd_11_3, fd_11_4, kd_12, fd_12_0, fd_12_1, fd_12_2, fd_12_3, ln_13, ln_14, ln_15, kd_16, fd_16_0, fd_16_1, fd_16_2, ln_17, kd_18, fd_18_0, fd_18_1, kd_19, fd_19_0, fd_19_1, fd_19_2, fd_19_3, fd_19_4, fd_19_5, fd_19_6, fd_19_7, fd_19_8, fd_19_9, fd_19_10, fd_19_11, fd_19_12, fd_19_13, fd_19_14, fd_19_15, fd_19_16, fd_19_17, fd_19_18, fd_19_19, fd_19_20, ln_20, ln_21, ln_22, ln_23, ln_24, ln_25, ln_26, ln_27, ln_28, ln_29, ln_30, ln_31, ln_32, List.getElem?_cons_zero, List.getElem?_cons_succ, List.set_cons_zero, List.set_cons_succ, true_and, and_true, ↓reduceIte, Int32.reduceLT, Int32.reduceLE, li_10, or_true, true_or]
    exact lp_Text_wordEnd hG hn (n - i) i rfl hi h
  · cases h
