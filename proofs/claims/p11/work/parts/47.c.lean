section
/-! READING, as functions of the memory -/
def stp (e i : Int32) : Nat := (e.toInt - i.toInt).toNat
theorem stp_lt (e i : Int32) : (i < e) = (0 < stp e i) := by
  unfold stp
  apply propext
  rw [Int32.lt_iff_toInt_lt]
  omega
theorem toInt_s {i e : Int32} (h : i < e) : (i + 1).toInt = i.toInt + 1 := by
  have h1 := Int32.toInt_lt e
  have h2 := Int32.le_toInt i
  rw [Int32.lt_iff_toInt_lt] at h
  rw [Int32.toInt_add, show (1 : Int32).toInt = 1 from rfl]
  apply Int.bmod_eq_of_le <;> omega
theorem stp_s {e i : Int32} (h : i < e) : stp e (i + 1) + 1 = stp e i := by
  unfold stp
  rw [toInt_s h]
  rw [Int32.lt_iff_toInt_lt] at h
  omega
def r_fltM (M : aM) : aM := am_up M 11 4 (tk M 14 (-1) (M 11 3))
def sp_Reader_fault : aS := fun as M K => match as with
  | [.ref a] => a = 11 ∧ K (some (.int (-1))) (r_fltM M)
  | _ => False
set_option maxRecDepth 100000 in
set_option maxHeartbeats 4000000 in
theorem ok_Reader_fault {G : aG} (hG : am_ok G) : am_Sp G Y_Reader_fault 1 sp_Reader_fault := by
  intro as M K h
  unfold sp_Reader_fault at h
  split at h
  · next a =>
    obtain ⟨rfl, h⟩ := h
    refine am_entry hG (by decide +kernel) (Nat.le_of_ble_eq_true rfl) ?_
    refine am_go (cuts := k_Reader_fault) (tb_Reader_fault (ok_Tokens_startOf hG) (by decide)) 400 _ _ _ _ ?_
    change am_run _ _ _ _ _ _ [some (.ref 11)] [] _
    simp only [r_Reader_fault_0, r_Reader_fault_1, r_Reader_fault_2, r_Reader_fault_5, r_Reader_fault_6, r_Reader_fault_9, r_Reader_fault_12, r_Reader_fault_15, r_Reader_fault_16, ai_aload, ai_getf, ai_callv2, am_push, am_few, ai_putf, ai_const, ai_iret, kd_0, fd_0_0, fd_0_1, fd_0_2, fd_0_3, fd_0_4, kd_1, fd_1_0, fd_1_1, ln_2, kd_3, fd_3_0, fd_3_1, fd_3_2, fd_3_3, fd_3_4, fd_3_5, fd_3_6, fd_3_7, fd_3_8, fd_3_9, ln_4, ln_5, ln_6, ln_7, ln_8, ln_9, ln_10, kd_11, fd_11_0, fd_11_1, fd_11_2, fd_11_3, fd_11_4, kd_12, fd_12_0, fd_12_1, fd_12_2, fd_12_3, ln_13, ln_14, ln_15, kd_16, fd_16_0, fd_16_1, fd_16_2, ln_17, kd_18, fd_18_0, fd_18_1, kd_19, fd_19_0, fd_19_1, fd_19_2, fd_19_3, fd_19_4, fd_19_5, fd_19_6, fd_19_7, fd_19_8, fd_19_9, fd_19_10, fd_19_11, fd_19_12, fd_19_13, fd_19_14, fd_19_15, fd_19_16, fd_19_17, fd_19_18, fd_19_19, fd_19_20, ln_20, ln_21, ln_22, ln_23, ln_24, ln_25, ln_26, ln_27, ln_28, ln_29, ln_30, ln_31, ln_32, List.getElem?_cons_zero, List.getElem?_cons_succ, List.set_cons_zero, List.set_cons_succ, true_and, and_true, ↓reduceIte, Int32.reduceLT, Int32.reduceLE, li_10, or_true, true_or, ↓sp_Tokens_startOf]
    exact h
  · cases h
def r_add (M : aM) (k : Int32) : Int32 × aM := if (n_add M k).1 = -1 then (-1, r_fltM (n_add M k).2) else n_add M k
def sp_Reader_add : aS := fun as M K => match as with
  | [.ref a, .int k] => a = 11 ∧ K (some (.int (r_add M k).1)) (r_add M k).2
  | _ => False
set_option maxRecDepth 100000 in
set_option maxHeartbeats 4000000 in
theorem ok_Reader_add {G : aG} (hG : am_ok G) : am_Sp G Y_Reader_add 2 sp_Reader_add := by
  intro as M K h
  unfold sp_Reader_add at h
  split at h
  · next a k =>
    obtain ⟨rfl, h⟩ := h
    unfold r_add at h
    refine am_entry hG (by decide +kernel) (Nat.le_of_ble_eq_true rfl) ?_
    refine am_go (cuts := k_Reader_add) (tb_Reader_add (ok_Nodes_add hG) (by decide) (ok_Reader_fault hG) (by decide)) 400 _ _ _ _ ?_
    change am_run _ _ _ _ _ _ [some (.ref 11), some (.int k), none] [] _
    simp only [r_Reader_add_0, r_Reader_add_1, r_Reader_add_4, r_Reader_add_5, r_Reader_add_8, r_Reader_add_9, r_Reader_add_10, r_Reader_add_11, r_Reader_add_14, r_Reader_add_15, r_Reader_add_18, r_Reader_add_21, r_Reader_add_22, ai_aload, ai_getf, ai_iload, ai_callv2, am_push, am_few, ai_istore, am_cut_0, am_cut_s, am_c1, ai_const, ai_cmpne, ai_callv1, ai_goto, ai_iret, kd_0, fd_0_0, fd_0_1, fd_0_2, fd_0_3, fd_0_4, kd_1, fd_1_0, fd_1_1, ln_2, kd_3, fd_3_0, fd_3_1, fd_3_2, fd_3_3, fd_3_4, fd_3_5, fd_3_6, fd_3_7, fd_3_8, fd_3_9, ln_4, ln_5, ln_6, ln_7, ln_8, ln_9, ln_10, kd_11, fd_11_0, fd_11_1, fd_11_2, fd_11_3, fd_11_4, kd_12, fd_12_0, fd_12_1, fd_12_2, fd_12_3, ln_13, ln_14, ln_15, kd_16, fd_16_0, fd_16_1, fd_16_2, ln_17, kd_18, fd_18_0, fd_18_1, kd_19, fd_19_0, fd_19_1, fd_19_2, fd_19_3, fd_19_4, fd_19_5, fd_19_6, fd_19_7, fd_19_8, fd_19_9, fd_19_10, fd_19_11, fd_19_12, fd_19_13, fd_19_14, fd_19_15, fd_19_16, fd_19_17, fd_19_18, fd_19_19, fd_19_20, ln_20, ln_21, ln_22, ln_23, ln_24, ln_25, ln_26, ln_27, ln_28, ln_29, ln_30, ln_31, ln_32, List.getElem?_cons_zero, List.getElem?_cons_succ, List.set_cons_zero, List.set_cons_succ, true_and, and_true, ↓reduceIte, Int32.reduceLT, Int32.reduceLE, li_10, or_true, true_or, ↓sp_Nodes_add, ↓sp_Reader_fault]
    by_cases c : (n_add M k).1 = -1
    · rw [if_pos c] at h ⊢; exact h
    · rw [if_neg c] at h ⊢; exact h
  · cases h
/-- the next token -/
def r_nx (M : aM) : aM := am_up M 11 3 (M 11 3 + 1)
def tkS (M : aM) : Int32 := tk M 13 11 (M 11 3)
def nmA (M : aM) (e : Int32) : Nat → Int32 → Int32 → Int32
  | 0, _, acc => acc
  | k + 1, i, acc => if i < e then nmA M e k (i + 1) (acc * 10 + (f_at M i - 48)) else acc
def r_beg (M : aM) : Int32 := tk M 14 (-1) (M 11 3)
def r_end (M : aM) : Int32 := tk M 15 (-1) (M 11 3)
def r_numV (M : aM) : Int32 := if f_at M (r_beg M) = 45 then -(nmA M (r_end M) (stp (r_end M) (r_beg M + 1)) (r_beg M + 1) 0) else nmA M (r_end M) (stp (r_end M) (r_beg M)) (r_beg M) 0
def r_num (M : aM) : Int32 × aM := ((r_add M 1).1, n_set 5 (r_add M 1).2 (r_add M 1).1 (r_numV M))
def sp_Reader_readNumber : aS := fun as M K => match as with
  | [.ref a] => a = 11 ∧ K (some (.int (r_num M).1)) (r_num M).2
  | _ => False
set_option maxRecDepth 100000 in
set_option maxHeartbeats 4000000 in
theorem lp_Reader_readNumber {G : aG} (hG : am_ok G) {K : aR} {M : aM} {e b ng : Int32} : ∀ (k : Nat) (i acc : Int32), stp e i ≤ k → K (some (.int (r_add M 1).1)) (n_set 5 (r_add M 1).2 (r_add M 1).1 (if ng = 0 then nmA M e k i acc else -(nmA M e k i acc))) → am_X G Y_Reader_readNumber 3 K 59 [some (.ref 11), some (.int e), some (.int b), some (.int ng), some (.int acc), some (.int i)] [] M := by
  intro k
  induction k with
  | zero =>
    intro i acc hk h
    have e1 : ¬ i < e := by rw [stp_lt]; omega
    refine am_from (tb_Reader_readNumber (ok_Tokens_endOf hG) (by decide) (ok_Tokens_startOf hG) (by decide) (ok_Text_at hG) (by decide) (ok_Reader_add hG) (by decide) (ok_Nodes_setAmount hG) (by decide)) k_Reader_readNumber 400 ?_
    simp only [q_Reader_readNumber_59, r_Reader_readNumber_0, r_Reader_readNumber_1, r_Reader_readNumber_4, r_Reader_readNumber_5, r_Reader_readNumber_8, r_Reader_readNumber_11, r_Reader_readNumber_12, r_Reader_readNumber_13, r_Reader_readNumber_16, r_Reader_readNumber_17, r_Reader_readNumber_20, r_Reader_readNumber_23, r_Reader_readNumber_24, r_Reader_readNumber_25, r_Reader_readNumber_28, r_Reader_readNumber_29, r_Reader_readNumber_32, r_Reader_readNumber_34, r_Reader_readNumber_37, r_Reader_readNumber_38, r_Reader_readNumber_41, r_Reader_readNumber_42, r_Reader_readNumber_43, r_Reader_readNumber_44, r_Reader_readNumber_46, r_Reader_readNumber_47, r_Reader_readNumber_50, r_Reader_readNumber_51, r_Reader_readNumber_52, r_Reader_readNumber_53, r_Reader_readNumber_56, r_Reader_readNumber_57, r_Reader_readNumber_59, r_Reader_readNumber_61, r_Reader_readNumber_62, r_Reader_readNumber_65, r_Reader_readNumber_67, r_Reader_readNumber_69, r_Reader_readNumber_70, r_Reader_readNumber_71, r_Reader_readNumber_74, r_Reader_readNumber_76, r_Reader_readNumber_79, r_Reader_readNumber_81, r_Reader_readNumber_82, r_Reader_readNumber_83, r_Reader_readNumber_85, r_Reader_readNumber_88, r_Reader_readNumber_91, r_Reader_readNumber_92, r_Reader_readNumber_93, r_Reader_readNumber_96, r_Reader_readNumber_98, r_Reader_readNumber_99, r_Reader_readNumber_102, r_Reader_readNumber_104, r_Reader_readNumber_105, r_Reader_readNumber_108, r_Reader_readNumber_110, r_Reader_readNumber_111, r_Reader_readNumber_114, r_Reader_readNumber_116, r_Reader_readNumber_119, r_Reader_readNumber_121, ai_aload, ai_getf, ai_callv2, am_push, am_few, ai_istore, am_cut_0, am_cut_s, am_c1, ai_iload, ai_const, ai_cmpne, ai_goto, ai_ifeq, ai_iadd, ai_bin, ai_cmpge, ai_imul, ai_isub, ai_iinc, ai_ineg, ai_callv3, ai_iret, kd_0, fd_0_0, fd_0_1, fd_0_2, fd_0_3, fd_0_4, kd_1, fd_1_0, fd_1_1, ln_2, kd_3, fd_3_0, fd_3_1, fd_3_2, fd_3_3, fd_3_4, fd_3_5, fd_3_6, fd_3_7, fd_3_8, fd_3_9, ln_4, ln_5, ln_6, ln_7, ln_8, ln_9, ln_10, kd_11, fd_11_0, fd_11_1, fd_11_2, fd_11_3, fd_11_4, kd_12, fd_12_0, fd_12_1, fd_12_2, fd_12_3, ln_13, ln_14, ln_15, kd_16, fd_16_0, fd_16_1, fd_16_2, ln_17, kd_18, fd_18_0, fd_18_1, kd_19, fd_19_0, fd_19_1, fd_19_2, fd_19_3, fd_19_4, fd_19_5, fd_19_6, fd_19_7, fd_19_8, fd_19_9, fd_19_10, fd_19_11, fd_19_12, fd_19_13, fd_19_14, fd_19_15, fd_19_16, fd_19_17, fd_19_18, fd_19_19, fd_19_20, ln_20, ln_21, ln_22, ln_23, ln_24, ln_25, ln_26, ln_27, ln_28, ln_29, ln_30, ln_31, ln_32, List.getElem?_cons_zero, List.getElem?_cons_succ, List.set_cons_zero, List.set_cons_succ, true_and, and_true, ↓reduceIte, Int32.reduceLT, Int32.reduceLE, li_10, or_true, true_or, ↓sp_Reader_add, ↓sp_Nodes_setAmount, e1]
    simp only [nmA] at h
    by_cases c : ng = 0
    · rw [if_pos c] at h ⊢; exact h
    · rw [if_neg c] at h ⊢; exact h
  | succ k ih =>
    intro i acc hk h
    simp only [nmA] at h
    by_cases c0 : i < e
    · rw [if_pos c0] at h
      have hs := stp_s c0
      refine am_from (tb_Reader_readNumber (ok_Tokens_endOf hG) (by decide) (ok_Tokens_startOf hG) (by decide) (ok_Text_at hG) (by decide) (ok_Reader_add hG) (by decide) (ok_Nodes_setAmount hG) (by decide)) k_Reader_readNumber 400 ?_
      simp only [q_Reader_readNumber_59, r_Reader_readNumber_0, r_Reader_readNumber_1, r_Reader_readNumber_4, r_Reader_readNumber_5, r_Reader_readNumber_8, r_Reader_readNumber_11, r_Reader_readNumber_12, r_Reader_readNumber_13, r_Reader_readNumber_16, r_Reader_readNumber_17, r_Reader_readNumber_20, r_Reader_readNumber_23, r_Reader_readNumber_24, r_Reader_readNumber_25, r_Reader_readNumber_28, r_Reader_readNumber_29, r_Reader_readNumber_32, r_Reader_readNumber_34, r_Reader_readNumber_37, r_Reader_readNumber_38, r_Reader_readNumber_41, r_Reader_readNumber_42, r_Reader_readNumber_43, r_Reader_readNumber_44, r_Reader_readNumber_46, r_Reader_readNumber_47, r_Reader_readNumber_50, r_Reader_readNumber_51, r_Reader_readNumber_52, r_Reader_readNumber_53, r_Reader_readNumber_56, r_Reader_readNumber_57, r_Reader_readNumber_59, r_Reader_readNumber_61, r_Reader_readNumber_62, r_Reader_readNumber_65, r_Reader_readNumber_67, r_Reader_readNumber_69, r_Reader_readNumber_70, r_Reader_readNumber_71, r_Reader_readNumber_74, r_Reader_readNumber_76, r_Reader_readNumber_79, r_Reader_readNumber_81, r_Reader_readNumber_82, r_Reader_readNumber_83, r_Reader_readNumber_85, r_Reader_readNumber_88, r_Reader_readNumber_91, r_Reader_readNumber_92, r_Reader_readNumber_93, r_Reader_readNumber_96, r_Reader_readNumber_98, r_Reader_readNumber_99, r_Reader_readNumber_102, r_Reader_readNumber_104, r_Reader_readNumber_105, r_Reader_readNumber_108, r_Reader_readNumber_110, r_Reader_readNumber_111, r_Reader_readNumber_114, r_Reader_readNumber_116, r_Reader_readNumber_119, r_Reader_readNumber_121, ai_aload, ai_getf, ai_callv2, am_push, am_few, ai_istore, am_cut_0, am_cut_s, am_c1, ai_iload, ai_const, ai_cmpne, ai_goto, ai_ifeq, ai_iadd, ai_bin, ai_cmpge, ai_imul, ai_isub, ai_iinc, ai_ineg, ai_callv3, ai_iret, kd_0, fd_0_0, fd_0_1, fd_0_2, fd_0_3, fd_0_4, kd_1, fd_1_0, fd_1_1, ln_2, kd_3, fd_3_0, fd_3_1, fd_3_2, fd_3_3, fd_3_4, fd_3_5, fd_3_6, fd_3_7, fd_3_8, fd_3_9, ln_4, ln_5, ln_6, ln_7, ln_8, ln_9, ln_10, kd_11, fd_11_0, fd_11_1, fd_11_2, fd_11_3, fd_11_4, kd_12, fd_12_0, fd_12_1, fd_12_2, fd_12_3, ln_13, ln_14, ln_15, kd_16, fd_16_0, fd_16_1, fd_16_2, ln_17, kd_18, fd_18_0, fd_18_1, kd_19, fd_19_0, fd_19_1, fd_19_2, fd_19_3, fd_19_4, fd_19_5, fd_19_6, fd_19_7, fd_19_8, fd_19_9, fd_19_10, fd_19_11, fd_19_12, fd_19_13, fd_19_14, fd_19_15, fd_19_16, fd_19_17, fd_19_18, fd_19_19, fd_19_20, ln_20, ln_21, ln_22, ln_23, ln_24, ln_25, ln_26, ln_27, ln_28, ln_29, ln_30, ln_31, ln_32, List.getElem?_cons_zero, List.getElem?_cons_succ, List.set_cons_zero, List.set_cons_succ, true_and, and_true, ↓reduceIte, Int32.reduceLT, Int32.reduceLE, li_10, or_true, true_or, ↓sp_Text_at, c0]
      exact ih (i + 1) _ (by omega) h
    · rw [if_neg c0] at h
      refine am_from (tb_Reader_readNumber (ok_Tokens_endOf hG) (by decide) (ok_Tokens_startOf hG) (by decide) (ok_Text_at hG) (by decide) (ok_Reader_add hG) (by decide) (ok_Nodes_setAmount hG) (by decide)) k_Reader_readNumber 400 ?_
      simp only [q_Reader_readNumber_59, r_Reader_readNumber_0, r_Reader_readNumber_1, r_Reader_readNumber_4, r_Reader_readNumber_5, r_Reader_readNumber_8, r_Reader_readNumber_11, r_Reader_readNumber_12, r_Reader_readNumber_13, r_Reader_readNumber_16, r_Reader_readNumber_17, r_Reader_readNumber_20, r_Reader_readNumber_23, r_Reader_readNumber_24, r_Reader_readNumber_25, r_Reader_readNumber_28, r_Reader_readNumber_29, r_Reader_readNumber_32, r_Reader_readNumber_34, r_Reader_readNumber_37, r_Reader_readNumber_38, r_Reader_readNumber_41, r_Reader_readNumber_42, r_Reader_readNumber_43, r_Reader_readNumber_44, r_Reader_readNumber_46, r_Reader_readNumber_47, r_Reader_readNumber_50, r_Reader_readNumber_51, r_Reader_readNumber_52, r_Reader_readNumber_53, r_Reader_readNumber_56, r_Reader_readNumber_57, r_Reader_readNumber_59, r_Reader_readNumber_61, r_Reader_readNumber_62, r_Reader_readNumber_65, r_Reader_readNumber_67, r_Reader_readNumber_69, r_Reader_readNumber_70, r_Reader_readNumber_71, r_Reader_readNumber_74, r_Reader_readNumber_76, r_Reader_readNumber_79, r_Reader_readNumber_81, r_Reader_readNumber_82, r_Reader_readNumber_83, r_Reader_readNumber_85, r_Reader_readNumber_88, r_Reader_readNumber_91, r_Reader_readNumber_92, r_Reader_readNumber_93, r_Reader_readNumber_96, r_Reader_readNumber_98, r_Reader_readNumber_99, r_Reader_readNumber_102, r_Reader_readNumber_104, r_Reader_readNumber_105, r_Reader_readNumber_108, r_Reader_readNumber_110, r_Reader_readNumber_111, r_Reader_readNumber_114, r_Reader_readNumber_116, r_Reader_readNumber_119, r_Reader_readNumber_121, ai_aload, ai_getf, ai_callv2, am_push, am_few, ai_istore, am_cut_0, am_cut_s, am_c1, ai_iload, ai_const, ai_cmpne, ai_goto, ai_ifeq, ai_iadd, ai_bin, ai_cmpge, ai_imul, ai_isub, ai_iinc, ai_ineg, ai_callv3, ai_iret, kd_0, fd_0_0, fd_0_1, fd_0_2, fd_0_3, fd_0_4, kd_1, fd_1_0, fd_1_1, ln_2, kd_3, fd_3_0, fd_3_1, fd_3_2, fd_3_3, fd_3_4, fd_3_5, fd_3_6, fd_3_7, fd_3_8, fd_3_9, ln_4, ln_5, ln_6, ln_7, ln_8, ln_9, ln_10, kd_11, fd_11_0, fd_11_1, fd_11_2, fd_11_3, fd_11_4, kd_12, fd_12_0, fd_12_1, fd_12_2, fd_12_3, ln_13, ln_14, ln_15, kd_16, fd_16_0, fd_16_1, fd_16_2, ln_17, kd_18, fd_18_0, fd_18_1, kd_19, fd_19_0, fd_19_1, fd_19_2, fd_19_3, fd_19_4, fd_19_5, fd_19_6, fd_19_7, fd_19_8, fd_19_9, fd_19_10, fd_19_11, fd_19_12, fd_19_13, fd_19_14, fd_19_15, fd_19_16, fd_19_17, fd_19_18, fd_19_19, fd_19_20, ln_20, ln_21, ln_22, ln_23, ln_24, ln_25, ln_26, ln_27, ln_28, ln_29, ln_30, ln_31, ln_32, List.getElem?_cons_zero, List.getElem?_cons_succ, List.set_cons_zero, List.set_cons_succ, true_and, and_true, ↓reduceIte, Int32.reduceLT, Int32.reduceLE, li_10, or_true, true_or, ↓sp_Reader_add, ↓sp_Nodes_setAmount, c0]
      by_cases c : ng = 0
      · rw [if_pos c] at h ⊢; exact h
      · rw [if_neg c] at h ⊢; exact h
set_option maxRecDepth 100000 in
set_option maxHeartbeats 4000000 in
theorem ok_Reader_readNumber {G : aG} (hG : am_ok G) : am_Sp G Y_Reader_readNumber 3 sp_Reader_readNumber := by
  intro as M K h
  unfold sp_Reader_readNumber at h
  split at h
  · next a =>
    obtain ⟨rfl, h⟩ := h
    unfold r_num r_numV at h
    by_cases c : f_at M (r_beg M) = 45
    · have c' : (f_at M (tk M 14 (-1) (M 11 3)) = 45) = True := eq_true c
      rw [if_pos c] at h
      refine am_entry hG (by decide +kernel) (Nat.le_of_ble_eq_true rfl) ?_
      refine am_go (cuts := k_Reader_readNumber) (tb_Reader_readNumber (ok_Tokens_endOf hG) (by decide) (ok_Tokens_startOf hG) (by decide) (ok_Text_at hG) (by decide) (ok_Reader_add hG) (by decide) (ok_Nodes_setAmount hG) (by decide)) 400 _ _ _ _ ?_
      change am_run _ _ _ _ _ _ [some (.ref 11), none, none, none, none, none] [] _
      simp only [q_Reader_readNumber_59, r_Reader_readNumber_0, r_Reader_readNumber_1, r_Reader_readNumber_4, r_Reader_readNumber_5, r_Reader_readNumber_8, r_Reader_readNumber_11, r_Reader_readNumber_12, r_Reader_readNumber_13, r_Reader_readNumber_16, r_Reader_readNumber_17, r_Reader_readNumber_20, r_Reader_readNumber_23, r_Reader_readNumber_24, r_Reader_readNumber_25, r_Reader_readNumber_28, r_Reader_readNumber_29, r_Reader_readNumber_32, r_Reader_readNumber_34, r_Reader_readNumber_37, r_Reader_readNumber_38, r_Reader_readNumber_41, r_Reader_readNumber_42, r_Reader_readNumber_43, r_Reader_readNumber_44, r_Reader_readNumber_46, r_Reader_readNumber_47, r_Reader_readNumber_50, r_Reader_readNumber_51, r_Reader_readNumber_52, r_Reader_readNumber_53, r_Reader_readNumber_56, r_Reader_readNumber_57, r_Reader_readNumber_59, r_Reader_readNumber_61, r_Reader_readNumber_62, r_Reader_readNumber_65, r_Reader_readNumber_67, r_Reader_readNumber_69, r_Reader_readNumber_70, r_Reader_readNumber_71, r_Reader_readNumber_74, r_Reader_readNumber_76, r_Reader_readNumber_79, r_Reader_readNumber_81, r_Reader_readNumber_82, r_Reader_readNumber_83, r_Reader_readNumber_85, r_Reader_readNumber_88, r_Reader_readNumber_91, r_Reader_readNumber_92, r_Reader_readNumber_93, r_Reader_readNumber_96, r_Reader_readNumber_98, r_Reader_readNumber_99, r_Reader_readNumber_102, r_Reader_readNumber_104, r_Reader_readNumber_105, r_Reader_readNumber_108, r_Reader_readNumber_110, r_Reader_readNumber_111, r_Reader_readNumber_114, r_Reader_readNumber_116, r_Reader_readNumber_119, r_Reader_readNumber_121, ai_aload, ai_getf, ai_callv2, am_push, am_few, ai_istore, am_cut_0, am_cut_s, am_c1, ai_iload, ai_const, ai_cmpne, ai_goto, ai_ifeq, ai_iadd, ai_bin, ai_cmpge, ai_imul, ai_isub, ai_iinc, ai_ineg, ai_callv3, ai_iret, kd_0, fd_0_0, fd_0_1, fd_0_2, fd_0_3, fd_0_4, kd_1, fd_1_0, fd_1_1, ln_2, kd_3, fd_3_0, fd_3_1, fd_3_2, fd_3_3, fd_3_4, fd_3_5, fd_3_6, fd_3_7, fd_3_8, fd_3_9, ln_4, ln_5, ln_6, ln_7, ln_8, ln_9, ln_10, kd_11, fd_11_0, fd_11_1, fd_11_2, fd_11_3, fd_11_4, kd_12, fd_12_0, fd_12_1, fd_12_2, fd_12_3, ln_13, ln_14, ln_15, kd_16, fd_16_0, fd_16_1, fd_16_2, ln_17, kd_18, fd_18_0, fd_18_1, kd_19, fd_19_0, fd_19_1, fd_19_2, fd_19_3, fd_19_4, fd_19_5, fd_19_6, fd_19_7, fd_19_8, fd_19_9, fd_19_10, fd_19_11, fd_19_12, fd_19_13, fd_19_14, fd_19_15, fd_19_16, fd_19_17, fd_19_18, fd_19_19, fd_19_20, ln_20, ln_21, ln_22, ln_23, ln_24, ln_25, ln_26, ln_27, ln_28, ln_29, ln_30, ln_31, ln_32, List.getElem?_cons_zero, List.getElem?_cons_succ, List.set_cons_zero, List.set_cons_succ, true_and, and_true, ↓reduceIte, Int32.reduceLT, Int32.reduceLE, li_10, or_true, true_or, ↓sp_Text_at, ↓sp_Tokens_endOf, ↓sp_Tokens_startOf, c']
      refine lp_Reader_readNumber hG _ _ _ (Nat.le_refl _) ?_
      rw [if_neg (by decide)]
      exact h
    · have c' : ¬ f_at M (tk M 14 (-1) (M 11 3)) = 45 := c
      rw [if_neg c] at h
      refine am_entry hG (by decide +kernel) (Nat.le_of_ble_eq_true rfl) ?_
      refine am_go (cuts := k_Reader_readNumber) (tb_Reader_readNumber (ok_Tokens_endOf hG) (by decide) (ok_Tokens_startOf hG) (by decide) (ok_Text_at hG) (by decide) (ok_Reader_add hG) (by decide) (ok_Nodes_setAmount hG) (by decide)) 400 _ _ _ _ ?_
      change am_run _ _ _ _ _ _ [some (.ref 11), none, none, none, none, none] [] _
      simp only [q_Reader_readNumber_59, r_Reader_readNumber_0, r_Reader_readNumber_1, r_Reader_readNumber_4, r_Reader_readNumber_5, r_Reader_readNumber_8, r_Reader_readNumber_11, r_Reader_readNumber_12, r_Reader_readNumber_13, r_Reader_readNumber_16, r_Reader_readNumber_17, r_Reader_readNumber_20, r_Reader_readNumber_23, r_Reader_readNumber_24, r_Reader_readNumber_25, r_Reader_readNumber_28, r_Reader_readNumber_29, r_Reader_readNumber_32, r_Reader_readNumber_34, r_Reader_readNumber_37, r_Reader_readNumber_38, r_Reader_readNumber_41, r_Reader_readNumber_42, r_Reader_readNumber_43, r_Reader_readNumber_44, r_Reader_readNumber_46, r_Reader_readNumber_47, r_Reader_readNumber_50, r_Reader_readNumber_51, r_Reader_readNumber_52, r_Reader_readNumber_53, r_Reader_readNumber_56, r_Reader_readNumber_57, r_Reader_readNumber_59, r_Reader_readNumber_61, r_Reader_readNumber_62, r_Reader_readNumber_65, r_Reader_readNumber_67, r_Reader_readNumber_69, r_Reader_readNumber_70, r_Reader_readNumber_71, r_Reader_readNumber_74, r_Reader_readNumber_76, r_Reader_readNumber_79, r_Reader_readNumber_81, r_Reader_readNumber_82, r_Reader_readNumber_83, r_Reader_readNumber_85, r_Reader_readNumber_88, r_Reader_readNumber_91, r_Reader_readNumber_92, r_Reader_readNumber_93, r_Reader_readNumber_96, r_Reader_readNumber_98, r_Reader_readNumber_99, r_Reader_readNumber_102, r_Reader_readNumber_104, r_Reader_readNumber_105, r_Reader_readNumber_108, r_Reader_readNumber_110, r_Reader_readNumber_111, r_Reader_readNumber_114, r_Reader_readNumber_116, r_Reader_readNumber_119, r_Reader_readNumber_121, ai_aload, ai_getf, ai_callv2, am_push, am_few, ai_istore, am_cut_0, am_cut_s, am_c1, ai_iload, ai_const, ai_cmpne, ai_goto, ai_ifeq, ai_iadd, ai_bin, ai_cmpge, ai_imul, ai_isub, ai_iinc, ai_ineg, ai_callv3, ai_iret, kd_0, fd_0_0, fd_0_1, fd_0_2, fd_0_3, fd_0_4, kd_1, fd_1_0, fd_1_1, ln_2, kd_3, fd_3_0, fd_3_1, fd_3_2, fd_3_3, fd_3_4, fd_3_5, fd_3_6, fd_3_7, fd_3_8, fd_3_9, ln_4, ln_5, ln_6, ln_7, ln_8, ln_9, ln_10, kd_11, fd_11_0, fd_11_1, fd_11_2, fd_11_3, fd_11_4, kd_12, fd_12_0, fd_12_1, fd_12_2, fd_12_3, ln_13, ln_14, ln_15, kd_16, fd_16_0, fd_16_1, fd_16_2, ln_17, kd_18, fd_18_0, fd_18_1, kd_19, fd_19_0, fd_19_1, fd_19_2, fd_19_3, fd_19_4, fd_19_5, fd_19_6, fd_19_7, fd_19_8, fd_19_9, fd_19_10, fd_19_11, fd_19_12, fd_19_13, fd_19_14, fd_19_15, fd_19_16, fd_19_17, fd_19_18, fd_19_19, fd_19_20, ln_20, ln_21, ln_22, ln_23, ln_24, ln_25, ln_26, ln_27, ln_28, ln_29, ln_30, ln_31, ln_32, List.getElem?_cons_zero, List.getElem?_cons_succ, List.set_cons_zero, List.set_cons_succ, true_and, and_true, ↓reduceIte, Int32.reduceLT, Int32.reduceLE, li_10, or_true, true_or, ↓sp_Text_at, ↓sp_Tokens_endOf, ↓sp_Tokens_startOf, c']
      refine lp_Reader_readNumber hG _ _ _ (Nat.le_refl _) ?_
      rw [if_pos rfl]
      exact h
  · cases h
def nmL (nd e : Int32) : Nat → Int32 → aM → aM
  | 0, _, M => M
  | k + 1, i, M => if i < e then nmL nd e k (i + 1) (n_ltr M nd (f_at M i)) else M
def r_name (M : aM) : Int32 × aM := ((r_add M 2).1, nmL (r_add M 2).1 (r_end M) (stp (r_end M) (r_beg (r_add M 2).2)) (r_beg (r_add M 2).2) (r_add M 2).2)
def sp_Reader_readName : aS := fun as M K => match as with
  | [.ref a] => a = 11 ∧ K (some (.int (r_name M).1)) (r_name M).2
  | _ => False
set_option maxRecDepth 100000 in
set_option maxHeartbeats 4000000 in
theorem lp_Reader_readName {G : aG} (hG : am_ok G) {K : aR} {e nd : Int32} : ∀ (k : Nat) (i : Int32) (M : aM), stp e i ≤ k → K (some (.int nd)) (nmL nd e k i M) → am_X G Y_Reader_readName 3 K 30 [some (.ref 11), some (.int e), some (.int nd), some (.int i)] [] M := by
  intro k
  induction k with
  | zero =>
    intro i M hk h
    have e1 : ¬ i < e := by rw [stp_lt]; omega
    refine am_from (tb_Reader_readName (ok_Tokens_endOf hG) (by decide) (ok_Reader_add hG) (by decide) (ok_Tokens_startOf hG) (by decide) (ok_Text_at hG) (by decide) (ok_Nodes_addLetter hG) (by decide)) k_Reader_readName 400 ?_
    simp only [q_Reader_readName_30, r_Reader_readName_0, r_Reader_readName_1, r_Reader_readName_4, r_Reader_readName_5, r_Reader_readName_8, r_Reader_readName_11, r_Reader_readName_12, r_Reader_readName_13, r_Reader_readName_14, r_Reader_readName_17, r_Reader_readName_18, r_Reader_readName_19, r_Reader_readName_22, r_Reader_readName_23, r_Reader_readName_26, r_Reader_readName_29, r_Reader_readName_30, r_Reader_readName_31, r_Reader_readName_32, r_Reader_readName_35, r_Reader_readName_36, r_Reader_readName_39, r_Reader_readName_40, r_Reader_readName_41, r_Reader_readName_44, r_Reader_readName_45, r_Reader_readName_48, r_Reader_readName_51, r_Reader_readName_54, r_Reader_readName_57, r_Reader_readName_58, ai_aload, ai_getf, ai_callv2, am_push, am_few, ai_istore, am_cut_0, am_cut_s, am_c1, ai_const, ai_iload, ai_cmpge, ai_callv3, ai_iinc, ai_goto, ai_iret, kd_0, fd_0_0, fd_0_1, fd_0_2, fd_0_3, fd_0_4, kd_1, fd_1_0, fd_1_1, ln_2, kd_3, fd_3_0, fd_3_1, fd_3_2, fd_3_3, fd_3_4, fd_3_5, fd_3_6, fd_3_7, fd_3_8, fd_3_9, ln_4, ln_5, ln_6, ln_7, ln_8, ln_9, ln_10, kd_11, fd_11_0, fd_11_1, fd_11_2, fd_11_3, fd_11_4, kd_12, fd_12_0, fd_12_1, fd_12_2, fd_12_3, ln_13, ln_14, ln_15, kd_16, fd_16_0, fd_16_1, fd_16_2, ln_17, kd_18, fd_18_0, fd_18_1, kd_19, fd_19_0, fd_19_1, fd_19_2, fd_19_3, fd_19_4, fd_19_5, fd_19_6, fd_19_7, fd_19_8, fd_19_9, fd_19_10, fd_19_11, fd_19_12, fd_19_13, fd_19_14, fd_19_15, fd_19_16, fd_19_17, fd_19_18, fd_19_19, fd_19_20, ln_20, ln_21, ln_22, ln_23, ln_24, ln_25, ln_26, ln_27, ln_28, ln_29, ln_30, ln_31, ln_32, List.getElem?_cons_zero, List.getElem?_cons_succ, List.set_cons_zero, List.set_cons_succ, true_and, and_true, ↓reduceIte, Int32.reduceLT, Int32.reduceLE, li_10, or_true, true_or, e1]
    exact h
  | succ k ih =>
    intro i M hk h
    simp only [nmL] at h
    by_cases c0 : i < e
    · rw [if_pos c0] at h
      have hs := stp_s c0
      refine am_from (tb_Reader_readName (ok_Tokens_endOf hG) (by decide) (ok_Reader_add hG) (by decide) (ok_Tokens_startOf hG) (by decide) (ok_Text_at hG) (by decide) (ok_Nodes_addLetter hG) (by decide)) k_Reader_readName 400 ?_
      simp only [q_Reader_readName_30, r_Reader_readName_0, r_Reader_readName_1, r_Reader_readName_4, r_Reader_readName_5, r_Reader_readName_8, r_Reader_readName_11, r_Reader_readName_12, r_Reader_readName_13, r_Reader_readName_14, r_Reader_readName_17, r_Reader_readName_18, r_Reader_readName_19, r_Reader_readName_22, r_Reader_readName_23, r_Reader_readName_26, r_Reader_readName_29, r_Reader_readName_30, r_Reader_readName_31, r_Reader_readName_32, r_Reader_readName_35, r_Reader_readName_36, r_Reader_readName_39, r_Reader_readName_40, r_Reader_readName_41, r_Reader_readName_44, r_Reader_readName_45, r_Reader_readName_48, r_Reader_readName_51, r_Reader_readName_54, r_Reader_readName_57, r_Reader_readName_58, ai_aload, ai_getf, ai_callv2, am_push, am_few, ai_istore, am_cut_0, am_cut_s, am_c1, ai_const, ai_iload, ai_cmpge, ai_callv3, ai_iinc, ai_goto, ai_iret, kd_0, fd_0_0, fd_0_1, fd_0_2, fd_0_3, fd_0_4, kd_1, fd_1_0, fd_1_1, ln_2, kd_3, fd_3_0, fd_3_1, fd_3_2, fd_3_3, fd_3_4, fd_3_5, fd_3_6, fd_3_7, fd_3_8, fd_3_9, ln_4, ln_5, ln_6, ln_7, ln_8, ln_9, ln_10, kd_11, fd_11_0, fd_11_1, fd_11_2, fd_11_3, fd_11_4, kd_12, fd_12_0, fd_12_1, fd_12_2, fd_12_3, ln_13, ln_14, ln_15, kd_16, fd_16_0, fd_16_1, fd_16_2, ln_17, kd_18, fd_18_0, fd_18_1, kd_19, fd_19_0, fd_19_1, fd_19_2, fd_19_3, fd_19_4, fd_19_5, fd_19_6, fd_19_7, fd_19_8, fd_19_9, fd_19_10, fd_19_11, fd_19_12, fd_19_13, fd_19_14, fd_19_15, fd_19_16, fd_19_17, fd_19_18, fd_19_19, fd_19_20, ln_20, ln_21, ln_22, ln_23, ln_24, ln_25, ln_26, ln_27, ln_28, ln_29, ln_30, ln_31, ln_32, List.getElem?_cons_zero, List.getElem?_cons_succ, List.set_cons_zero, List.set_cons_succ, true_and, and_true, ↓reduceIte, Int32.reduceLT, Int32.reduceLE, li_10, or_true, true_or, ↓sp_Text_at, ↓sp_Nodes_addLetter, c0]
      exact ih (i + 1) _ (by omega) h
    · rw [if_neg c0] at h
      refine am_from (tb_Reader_readName (ok_Tokens_endOf hG) (by decide) (ok_Reader_add hG) (by decide) (ok_Tokens_startOf hG) (by decide) (ok_Text_at hG) (by decide) (ok_Nodes_addLetter hG) (by decide)) k_Reader_readName 400 ?_
      simp only [q_Reader_readName_30, r_Reader_readName_0, r_Reader_readName_1, r_Reader_readName_4, r_Reader_readName_5, r_Reader_readName_8, r_Reader_readName_11, r_Reader_readName_12, r_Reader_readName_13, r_Reader_readName_14, r_Reader_readName_17, r_Reader_readName_18, r_Reader_readName_19, r_Reader_readName_22, r_Reader_readName_23, r_Reader_readName_26, r_Reader_readName_29, r_Reader_readName_30, r_Reader_readName_31, r_Reader_readName_32, r_Reader_readName_35, r_Reader_readName_36, r_Reader_readName_39, r_Reader_readName_40, r_Reader_readName_41, r_Reader_readName_44, r_Reader_readName_45, r_Reader_readName_48, r_Reader_readName_51, r_Reader_readName_54, r_Reader_readName_57, r_Reader_readName_58, ai_aload, ai_getf, ai_callv2, am_push, am_few, ai_istore, am_cut_0, am_cut_s, am_c1, ai_const, ai_iload, ai_cmpge, ai_callv3, ai_iinc, ai_goto, ai_iret, kd_0, fd_0_0, fd_0_1, fd_0_2, fd_0_3, fd_0_4, kd_1, fd_1_0, fd_1_1, ln_2, kd_3, fd_3_0, fd_3_1, fd_3_2, fd_3_3, fd_3_4, fd_3_5, fd_3_6, fd_3_7, fd_3_8, fd_3_9, ln_4, ln_5, ln_6, ln_7, ln_8, ln_9, ln_10, kd_11, fd_11_0, fd_11_1, fd_11_2, fd_11_3, fd_11_4, kd_12, fd_12_0, fd_12_1, fd_12_2, fd_12_3, ln_13, ln_14, ln_15, kd_16, fd_16_0, fd_16_1, fd_16_2, ln_17, kd_18, fd_18_0, fd_18_1, kd_19, fd_19_0, fd_19_1, fd_19_2, fd_19_3, fd_19_4, fd_19_5, fd_19_6, fd_19_7, fd_19_8, fd_19_9, fd_19_10, fd_19_11, fd_19_12, fd_19_13, fd_19_14, fd_19_15, fd_19_16, fd_19_17, fd_19_18, fd_19_19, fd_19_20, ln_20, ln_21, ln_22, ln_23, ln_24, ln_25, ln_26, ln_27, ln_28, ln_29, ln_30, ln_31, ln_32, List.getElem?_cons_zero, List.getElem?_cons_succ, List.set_cons_zero, List.set_cons_succ, true_and, and_true, ↓reduceIte, Int32.reduceLT, Int32.reduceLE, li_10, or_true, true_or, c0]
      exact h
set_option maxRecDepth 100000 in
set_option maxHeartbeats 4000000 in
theorem ok_Reader_readName {G : aG} (hG : am_ok G) : am_Sp G Y_Reader_readName 3 sp_Reader_readName := by
  intro as M K h
  unfold sp_Reader_readName at h
  split at h
  · next a =>
    obtain ⟨rfl, h⟩ := h
    unfold r_name at h
    refine am_entry hG (by decide +kernel) (Nat.le_of_ble_eq_true rfl) ?_
    refine am_go (cuts := k_Reader_readName) (tb_Reader_readName (ok_Tokens_endOf hG) (by decide) (ok_Reader_add hG) (by decide) (ok_Tokens_startOf hG) (by decide) (ok_Text_at hG) (by decide) (ok_Nodes_addLetter hG) (by decide)) 400 _ _ _ _ ?_
    change am_run _ _ _ _ _ _ [some (.ref 11), none, none, none] [] _
    simp only [q_Reader_readName_30, r_Reader_readName_0, r_Reader_readName_1, r_Reader_readName_4, r_Reader_readName_5, r_Reader_readName_8, r_Reader_readName_11, r_Reader_readName_12, r_Reader_readName_13, r_Reader_readName_14, r_Reader_readName_17, r_Reader_readName_18, r_Reader_readName_19, r_Reader_readName_22, r_Reader_readName_23, r_Reader_readName_26, r_Reader_readName_29, r_Reader_readName_30, r_Reader_readName_31, r_Reader_readName_32, r_Reader_readName_35, r_Reader_readName_36, r_Reader_readName_39, r_Reader_readName_40, r_Reader_readName_41, r_Reader_readName_44, r_Reader_readName_45, r_Reader_readName_48, r_Reader_readName_51, r_Reader_readName_54, r_Reader_readName_57, r_Reader_readName_58, ai_aload, ai_getf, ai_callv2, am_push, am_few, ai_istore, am_cut_0, am_cut_s, am_c1, ai_const, ai_iload, ai_cmpge, ai_callv3, ai_iinc, ai_goto, ai_iret, kd_0, fd_0_0, fd_0_1, fd_0_2, fd_0_3, fd_0_4, kd_1, fd_1_0, fd_1_1, ln_2, kd_3, fd_3_0, fd_3_1, fd_3_2, fd_3_3, fd_3_4, fd_3_5, fd_3_6, fd_3_7, fd_3_8, fd_3_9, ln_4, ln_5, ln_6, ln_7, ln_8, ln_9, ln_10, kd_11, fd_11_0, fd_11_1, fd_11_2, fd_11_3, fd_11_4, kd_12, fd_12_0, fd_12_1, fd_12_2, fd_12_3, ln_13, ln_14, ln_15, kd_16, fd_16_0, fd_16_1, fd_16_2, ln_17, kd_18, fd_18_0, fd_18_1, kd_19, fd_19_0, fd_19_1, fd_19_2, fd_19_3, fd_19_4, fd_19_5, fd_19_6, fd_19_7, fd_19_8, fd_19_9, fd_19_10, fd_19_11, fd_19_12, fd_19_13, fd_19_14, fd_19_15, fd_19_16, fd_19_17, fd_19_18, fd_19_19, fd_19_20, ln_20, ln_21, ln_22, ln_23, ln_24, ln_25, ln_26, ln_27, ln_28, ln_29, ln_30, ln_31, ln_32, List.getElem?_cons_zero, List.getElem?_cons_succ, List.set_cons_zero, List.set_cons_succ, true_and, and_true, ↓reduceIte, Int32.reduceLT, Int32.reduceLE, li_10, or_true, true_or, ↓sp_Reader_add, ↓sp_Tokens_endOf, ↓sp_Tokens_startOf]
    exact lp_Reader_readName hG _ _ _ (Nat.le_refl _) h
  · cases h
def stL (nd e : Int32) : Nat → Int32 → aM → aM
  | 0, _, M => M
  | k + 1, i, M => if i < e then (if f_at M i = 92 then stL nd e k (i + 1 + 1) (n_ltr M nd (f_at M (i + 1))) else stL nd e k (i + 1) (n_ltr M nd (f_at M i))) else M
def r_str (M : aM) : Int32 × aM := ((r_add M 3).1, stL (r_add M 3).1 (r_end M - 1) (stp (r_end M - 1) (r_beg (r_add M 3).2 + 1)) (r_beg (r_add M 3).2 + 1) (r_add M 3).2)
def sp_Reader_readString : aS := fun as M K => match as with
  | [.ref a] => a = 11 ∧ K (some (.int (r_str M).1)) (r_str M).2
  | _ => False
theorem f_at_92 {M : aM} {i : Int32} (h : f_at M i = 92) : i < 400 := by
  unfold f_at at h
  by_cases c1 : i < 0
  · rw [if_pos c1] at h; exact absurd h (by decide)
  · rw [if_neg c1] at h
    by_cases c2 : i < M 1 1
    · rw [if_pos c2] at h
      by_cases c3 : i < 400
      · exact c3
      · rw [if_neg c3] at h; exact absurd h (by decide)
    · rw [if_neg c2] at h; exact absurd h (by decide)
set_option maxRecDepth 100000 in
set_option maxHeartbeats 4000000 in
theorem lp_Reader_readString {G : aG} (hG : am_ok G) {K : aR} {e nd : Int32} : ∀ (k : Nat) (i : Int32) (M : aM), stp e i ≤ k → K (some (.int nd)) (stL nd e k i M) → am_X G Y_Reader_readString 3 K 34 [some (.ref 11), some (.int e), some (.int nd), some (.int i)] [] M := by
  intro k
  induction k with
  | zero =>
    intro i M hk h
    have e1 : ¬ i < e := by rw [stp_lt]; omega
    refine am_from (tb_Reader_readString (ok_Tokens_endOf hG) (by decide) (ok_Reader_add hG) (by decide) (ok_Tokens_startOf hG) (by decide) (ok_Text_at hG) (by decide) (ok_Nodes_addLetter hG) (by decide)) k_Reader_readString 400 ?_
    simp only [q_Reader_readString_34, r_Reader_readString_0, r_Reader_readString_1, r_Reader_readString_4, r_Reader_readString_5, r_Reader_readString_8, r_Reader_readString_11, r_Reader_readString_12, r_Reader_readString_13, r_Reader_readString_14, r_Reader_readString_15, r_Reader_readString_16, r_Reader_readString_19, r_Reader_readString_20, r_Reader_readString_21, r_Reader_readString_24, r_Reader_readString_25, r_Reader_readString_28, r_Reader_readString_31, r_Reader_readString_32, r_Reader_readString_33, r_Reader_readString_34, r_Reader_readString_35, r_Reader_readString_36, r_Reader_readString_39, r_Reader_readString_40, r_Reader_readString_43, r_Reader_readString_44, r_Reader_readString_47, r_Reader_readString_49, r_Reader_readString_52, r_Reader_readString_55, r_Reader_readString_56, r_Reader_readString_59, r_Reader_readString_60, r_Reader_readString_61, r_Reader_readString_64, r_Reader_readString_65, r_Reader_readString_68, r_Reader_readString_71, r_Reader_readString_74, r_Reader_readString_77, r_Reader_readString_78, ai_aload, ai_getf, ai_callv2, am_push, am_few, ai_const, ai_isub, ai_bin, ai_istore, am_cut_0, am_cut_s, am_c1, ai_iadd, ai_iload, ai_cmpge, ai_cmpne, ai_iinc, ai_callv3, ai_goto, ai_iret, kd_0, fd_0_0, fd_0_1, fd_0_2, fd_0_3, fd_0_4, kd_1, fd_1_0, fd_1_1, ln_2, kd_3, fd_3_0, fd_3_1, fd_3_2, fd_3_3, fd_3_4, fd_3_5, fd_3_6, fd_3_7, fd_3_8, fd_3_9, ln_4, ln_5, ln_6, ln_7, ln_8, ln_9, ln_10, kd_11, fd_11_0, fd_11_1, fd_11_2, fd_11_3, fd_11_4, kd_12, fd_12_0, fd_12_1, fd_12_2, fd_12_3, ln_13, ln_14, ln_15, kd_16, fd_16_0, fd_16_1, fd_16_2, ln_17, kd_18, fd_18_0, fd_18_1, kd_19, fd_19_0, fd_19_1, fd_19_2, fd_19_3, fd_19_4, fd_19_5, fd_19_6, fd_19_7, fd_19_8, fd_19_9, fd_19_10, fd_19_11, fd_19_12, fd_19_13, fd_19_14, fd_19_15, fd_19_16, fd_19_17, fd_19_18, fd_19_19, fd_19_20, ln_20, ln_21, ln_22, ln_23, ln_24, ln_25, ln_26, ln_27, ln_28, ln_29, ln_30, ln_31, ln_32, List.getElem?_cons_zero, List.getElem?_cons_succ, List.set_cons_zero, List.set_cons_succ, true_and, and_true, ↓reduceIte, Int32.reduceLT, Int32.reduceLE, li_10, or_true, true_or, e1]
    exact h
  | succ k ih =>
    intro i M hk h
    simp only [stL] at h
    by_cases c0 : i < e
    · rw [if_pos c0] at h
      have hs := stp_s c0
      by_cases c1 : f_at M i = 92
      · rw [if_pos c1] at h
        have hs2 : stp e (i + 1 + 1) ≤ stp e (i + 1) := by
          have h4 := f_at_92 c1
          have h5 := toInt_s h4
          have h6 : (i + 1 + 1).toInt = i.toInt + 1 + 1 := by
            have h7 : i + 1 < 402 := by
              rw [Int32.lt_iff_toInt_lt] at h4 ⊢
              rw [h5]
              have e4 : (400 : Int32).toInt = 400 := rfl
              have e5 : (402 : Int32).toInt = 402 := rfl
              omega
            rw [toInt_s h7, h5]
          unfold stp
          omega
        refine am_from (tb_Reader_readString (ok_Tokens_endOf hG) (by decide) (ok_Reader_add hG) (by decide) (ok_Tokens_startOf hG) (by decide) (ok_Text_at hG) (by decide) (ok_Nodes_addLetter hG) (by decide)) k_Reader_readString 400 ?_
        simp only [q_Reader_readString_34, r_Reader_readString_0, r_Reader_readString_1, r_Reader_readString_4, r_Reader_readString_5, r_Reader_readString_8, r_Reader_readString_11, r_Reader_readString_12, r_Reader_readString_13, r_Reader_readString_14, r_Reader_readString_15, r_Reader_readString_16, r_Reader_readString_19, r_Reader_readString_20, r_Reader_readString_21, r_Reader_readString_24, r_Reader_readString_25, r_Reader_readString_28, r_Reader_readString_31, r_Reader_readString_32, r_Reader_readString_33, r_Reader_readString_34, r_Reader_readString_35, r_Reader_readString_36, r_Reader_readString_39, r_Reader_readString_40, r_Reader_readString_43, r_Reader_readString_44, r_Reader_readString_47, r_Reader_readString_49, r_Reader_readString_52, r_Reader_readString_55, r_Reader_readString_56, r_Reader_readString_59, r_Reader_readString_60, r_Reader_readString_61, r_Reader_readString_64, r_Reader_readString_65, r_Reader_readString_68, r_Reader_readString_71, r_Reader_readString_74, r_Reader_readString_77, r_Reader_readString_78, ai_aload, ai_getf, ai_callv2, am_push, am_few, ai_const, ai_isub, ai_bin, ai_istore, am_cut_0, am_cut_s, am_c1, ai_iadd, ai_iload, ai_cmpge, ai_cmpne, ai_iinc, ai_callv3, ai_goto, ai_iret, kd_0, fd_0_0, fd_0_1, fd_0_2, fd_0_3, fd_0_4, kd_1, fd_1_0, fd_1_1, ln_2, kd_3, fd_3_0, fd_3_1, fd_3_2, fd_3_3, fd_3_4, fd_3_5, fd_3_6, fd_3_7, fd_3_8, fd_3_9, ln_4, ln_5, ln_6, ln_7, ln_8, ln_9, ln_10, kd_11, fd_11_0, fd_11_1, fd_11_2, fd_11_3, fd_11_4, kd_12, fd_12_0, fd_12_1, fd_12_2, fd_12_3, ln_13, ln_14, ln_15, kd_16, fd_16_0, fd_16_1, fd_16_2, ln_17, kd_18, fd_18_0, fd_18_1, kd_19, fd_19_0, fd_19_1, fd_19_2, fd_19_3, fd_19_4, fd_19_5, fd_19_6, fd_19_7, fd_19_8, fd_19_9, fd_19_10, fd_19_11, fd_19_12, fd_19_13, fd_19_14, fd_19_15, fd_19_16, fd_19_17, fd_19_18, fd_19_19, fd_19_20, ln_20, ln_21, ln_22, ln_23, ln_24, ln_25, ln_26, ln_27, ln_28, ln_29, ln_30, ln_31, ln_32, List.getElem?_cons_zero, List.getElem?_cons_succ, List.set_cons_zero, List.set_cons_succ, true_and, and_true, ↓reduceIte, Int32.reduceLT, Int32.reduceLE, li_10, or_true, true_or, ↓sp_Text_at, ↓sp_Nodes_addLetter, c0, c1]
        exact ih (i + 1 + 1) _ (by omega) h
      · rw [if_neg c1] at h
        refine am_from (tb_Reader_readString (ok_Tokens_endOf hG) (by decide) (ok_Reader_add hG) (by decide) (ok_Tokens_startOf hG) (by decide) (ok_Text_at hG) (by decide) (ok_Nodes_addLetter hG) (by decide)) k_Reader_readString 400 ?_
        simp only [q_Reader_readString_34, r_Reader_readString_0, r_Reader_readString_1, r_Reader_readString_4, r_Reader_readString_5, r_Reader_readString_8, r_Reader_readString_11, r_Reader_readString_12, r_Reader_readString_13, r_Reader_readString_14, r_Reader_readString_15, r_Reader_readString_16, r_Reader_readString_19, r_Reader_readString_20, r_Reader_readString_21, r_Reader_readString_24, r_Reader_readString_25, r_Reader_readString_28, r_Reader_readString_31, r_Reader_readString_32, r_Reader_readString_33, r_Reader_readString_34, r_Reader_readString_35, r_Reader_readString_36, r_Reader_readString_39, r_Reader_readString_40, r_Reader_readString_43, r_Reader_readString_44, r_Reader_readString_47, r_Reader_readString_49, r_Reader_readString_52, r_Reader_readString_55, r_Reader_readString_56, r_Reader_readString_59, r_Reader_readString_60, r_Reader_readString_61, r_Reader_readString_64, r_Reader_readString_65, r_Reader_readString_68, r_Reader_readString_71, r_Reader_readString_74, r_Reader_readString_77, r_Reader_readString_78, ai_aload, ai_getf, ai_callv2, am_push, am_few, ai_const, ai_isub, ai_bin, ai_istore, am_cut_0, am_cut_s, am_c1, ai_iadd, ai_iload, ai_cmpge, ai_cmpne, ai_iinc, ai_callv3, ai_goto, ai_iret, kd_0, fd_0_0, fd_0_1, fd_0_2, fd_0_3, fd_0_4, kd_1, fd_1_0, fd_1_1, ln_2, kd_3, fd_3_0, fd_3_1, fd_3_2, fd_3_3, fd_3_4, fd_3_5, fd_3_6, fd_3_7, fd_3_8, fd_3_9, ln_4, ln_5, ln_6, ln_7, ln_8, ln_9, ln_10, kd_11, fd_11_0, fd_11_1, fd_11_2, fd_11_3, fd_11_4, kd_12, fd_12_0, fd_12_1, fd_12_2, fd_12_3, ln_13, ln_14, ln_15, kd_16, fd_16_0, fd_16_1, fd_16_2, ln_17, kd_18, fd_18_0, fd_18_1, kd_19, fd_19_0, fd_19_1, fd_19_2, fd_19_3, fd_19_4, fd_19_5, fd_19_6, fd_19_7, fd_19_8, fd_19_9, fd_19_10, fd_19_11, fd_19_12, fd_19_13, fd_19_14, fd_19_15, fd_19_16, fd_19_17, fd_19_18, fd_19_19, fd_19_20, ln_20, ln_21, ln_22, ln_23, ln_24, ln_25, ln_26, ln_27, ln_28, ln_29, ln_30, ln_31, ln_32, List.getElem?_cons_zero, List.getElem?_cons_succ, List.set_cons_zero, List.set_cons_succ, true_and, and_true, ↓reduceIte, Int32.reduceLT, Int32.reduceLE, li_10, or_true, true_or, ↓sp_Text_at, ↓sp_Nodes_addLetter, c0, c1]
        exact ih (i + 1) _ (by omega) h
    · rw [if_neg c0] at h
      refine am_from (tb_Reader_readString (ok_Tokens_endOf hG) (by decide) (ok_Reader_add hG) (by decide) (ok_Tokens_startOf hG) (by decide) (ok_Text_at hG) (by decide) (ok_Nodes_addLetter hG) (by decide)) k_Reader_readString 400 ?_
      simp only [q_Reader_readString_34, r_Reader_readString_0, r_Reader_readString_1, r_Reader_readString_4, r_Reader_readString_5, r_Reader_readString_8, r_Reader_readString_11, r_Reader_readString_12, r_Reader_readString_13, r_Reader_readString_14, r_Reader_readString_15, r_Reader_readString_16, r_Reader_readString_19, r_Reader_readString_20, r_Reader_readString_21, r_Reader_readString_24, r_Reader_readString_25, r_Reader_readString_28, r_Reader_readString_31, r_Reader_readString_32, r_Reader_readString_33, r_Reader_readString_34, r_Reader_readString_35, r_Reader_readString_36, r_Reader_readString_39, r_Reader_readString_40, r_Reader_readString_43, r_Reader_readString_44, r_Reader_readString_47, r_Reader_readString_49, r_Reader_readString_52, r_Reader_readString_55, r_Reader_readString_56, r_Reader_readString_59, r_Reader_readString_60, r_Reader_readString_61, r_Reader_readString_64, r_Reader_readString_65, r_Reader_readString_68, r_Reader_readString_71, r_Reader_readString_74, r_Reader_readString_77, r_Reader_readString_78, ai_aload, ai_getf, ai_callv2, am_push, am_few, ai_const, ai_isub, ai_bin, ai_istore, am_cut_0, am_cut_s, am_c1, ai_iadd, ai_iload, ai_cmpge, ai_cmpne, ai_iinc, ai_callv3, ai_goto, ai_iret, kd_0, fd_0_0, fd_0_1, fd_0_2, fd_0_3, fd_0_4, kd_1, fd_1_0, fd_1_1, ln_2, kd_3, fd_3_0, fd_3_1, fd_3_2, fd_3_3, fd_3_4, fd_3_5, fd_3_6, fd_3_7, fd_3_8, fd_3_9, ln_4, ln_5, ln_6, ln_7, ln_8, ln_9, ln_10, kd_11, fd_11_0, fd_11_1, fd_11_2, fd_11_3, fd_11_4, kd_12, fd_12_0, fd_12_1, fd_12_2, fd_12_3, ln_13, ln_14, ln_15, kd_16, fd_16_0, fd_16_1, fd_16_2, ln_17, kd_18, fd_18_0, fd_18_1, kd_19, fd_19_0, fd_19_1, fd_19_2, fd_19_3, fd_19_4, fd_19_5, fd_19_6, fd_19_7, fd_19_8, fd_19_9, fd_19_10, fd_19_11, fd_19_12, fd_19_13, fd_19_14, fd_19_15, fd_19_16, fd_19_17, fd_19_18, fd_19_19, fd_19_20, ln_20, ln_21, ln_22, ln_23, ln_24, ln_25, ln_26, ln_27, ln_28, ln_29, ln_30, ln_31, ln_32, List.getElem?_cons_zero, List.getElem?_cons_succ, List.set_cons_zero, List.set_cons_succ, true_and, and_true, ↓reduceIte, Int32.reduceLT, Int32.reduceLE, li_10, or_true, true_or, c0]
      exact h
set_option maxRecDepth 100000 in
set_option maxHeartbeats 4000000 in
theorem ok_Reader_readString {G : aG} (hG : am_ok G) : am_Sp G Y_Reader_readString 3 sp_Reader_readString := by
  intro as M K h
  unfold sp_Reader_readString at h
  split at h
  · next a =>
    obtain ⟨rfl, h⟩ := h
    unfold r_str at h
    refine am_entry hG (by decide +kernel) (Nat.le_of_ble_eq_true rfl) ?_
    refine am_go (cuts := k_Reader_readString) (tb_Reader_readString (ok_Tokens_endOf hG) (by decide) (ok_Reader_add hG) (by decide) (ok_Tokens_startOf hG) (by decide) (ok_Text_at hG) (by decide) (ok_Nodes_addLetter hG) (by decide)) 400 _ _ _ _ ?_
    change am_run _ _ _ _ _ _ [some (.ref 11), none, none, none] [] _
    simp only [q_Reader_readString_34, r_Reader_readString_0, r_Reader_readString_1, r_Reader_readString_4, r_Reader_readString_5, r_Reader_readString_8, r_Reader_readString_11, r_Reader_readString_12, r_Reader_readString_13, r_Reader_readString_14, r_Reader_readString_15, r_Reader_readString_16, r_Reader_readString_19, r_Reader_readString_20, r_Reader_readString_21, r_Reader_readString_24, r_Reader_readString_25, r_Reader_readString_28, r_Reader_readString_31, r_Reader_readString_32, r_Reader_readString_33, r_Reader_readString_34, r_Reader_readString_35, r_Reader_readString_36, r_Reader_readString_39, r_Reader_readString_40, r_Reader_readString_43, r_Reader_readString_44, r_Reader_readString_47, r_Reader_readString_49, r_Reader_readString_52, r_Reader_readString_55, r_Reader_readString_56, r_Reader_readString_59, r_Reader_readString_60, r_Reader_readString_61, r_Reader_readString_64, r_Reader_readString_65, r_Reader_readString_68, r_Reader_readString_71, r_Reader_readString_74, r_Reader_readString_77, r_Reader_readString_78, ai_aload, ai_getf, ai_callv2, am_push, am_few, ai_const, ai_isub, ai_bin, ai_istore, am_cut_0, am_cut_s, am_c1, ai_iadd, ai_iload, ai_cmpge, ai_cmpne, ai_iinc, ai_callv3, ai_goto, ai_iret, kd_0, fd_0_0, fd_0_1, fd_0_2, fd_0_3, fd_0_4, kd_1, fd_1_0, fd_1_1, ln_2, kd_3, fd_3_0, fd_3_1, fd_3_2, fd_3_3, fd_3_4, fd_3_5, fd_3_6, fd_3_7, fd_3_8, fd_3_9, ln_4, ln_5, ln_6, ln_7, ln_8, ln_9, ln_10, kd_11, fd_11_0, fd_11_1, fd_11_2, fd_11_3, fd_11_4, kd_12, fd_12_0, fd_12_1, fd_12_2, fd_12_3, ln_13, ln_14, ln_15, kd_16, fd_16_0, fd_16_1, fd_16_2, ln_17, kd_18, fd_18_0, fd_18_1, kd_19, fd_19_0, fd_19_1, fd_19_2, fd_19_3, fd_19_4, fd_19_5, fd_19_6, fd_19_7, fd_19_8, fd_19_9, fd_19_10, fd_19_11, fd_19_12, fd_19_13, fd_19_14, fd_19_15, fd_19_16, fd_19_17, fd_19_18, fd_19_19, fd_19_20, ln_20, ln_21, ln_22, ln_23, ln_24, ln_25, ln_26, ln_27, ln_28, ln_29, ln_30, ln_31, ln_32, List.getElem?_cons_zero, List.getElem?_cons_succ, List.set_cons_zero, List.set_cons_succ, true_and, and_true, ↓reduceIte, Int32.reduceLT, Int32.reduceLE, li_10, or_true, true_or, ↓sp_Reader_add, ↓sp_Tokens_endOf, ↓sp_Tokens_startOf]
    exact lp_Reader_readString hG _ _ _ (Nat.le_refl _) h
  · cases h
end
section
/-! READING: quotes, lists, data, as functions of the memory -/
def q_M (first name second : Int32) (M : aM) : aM := r_nx (n_set 8 (n_set 7 (if hasN M name = true then nqM M name else M) first name) first second)
def q_A (first second : Int32) (M : aM) (q : Int32) : Int32 × aM := (if (r_add (n_set 7 M second q) 5).1 = -1 then -1 else first, n_set 8 (r_add (n_set 7 M second q) 5).2 second (r_add (n_set 7 M second q) 5).1)
def q_B (f : aM → Int32 × aM) (first name second : Int32) (M : aM) : Int32 × aM := if (f (q_M first name second M)).1 = -1 then (-1, (f (q_M first name second M)).2) else q_A first second (f (q_M first name second M)).2 (f (q_M first name second M)).1
def r_quo (f : aM → Int32 × aM) (M : aM) : Int32 × aM := if (r_add (r_add (r_add M 4).2 2).2 4).1 = -1 then (-1, (r_add (r_add (r_add M 4).2 2).2 4).2) else q_B f (r_add M 4).1 (r_add (r_add M 4).2 2).1 (r_add (r_add (r_add M 4).2 2).2 4).1 (r_add (r_add (r_add M 4).2 2).2 4).2
def r_dot (f : aM → Int32 × aM) (M : aM) : Int32 × aM := if (f (r_nx M)).1 = -1 then (-1, (f (r_nx M)).2) else if tkS (r_nx (f (r_nx M)).2) = 7 then ((f (r_nx M)).1, r_nx (f (r_nx M)).2) else (-1, r_fltM (r_nx (f (r_nx M)).2))
def r_lE (p : Int32 × aM) (first last : Int32) : Int32 × aM := (if p.1 = -1 then -1 else first, n_set 8 p.2 last p.1)
def r_hd (f : aM → Int32 × aM) (last : Int32) (M : aM) : aM := r_nx (n_set 7 (f M).2 last (f M).1)
def r_ll (f : aM → Int32 × aM) (first : Int32) : Nat → Int32 → aM → Int32 × aM
  | 0, _, M => (-1, M)
  | r + 1, last, M => if last = -1 then (-1, M) else if (f M).1 = -1 then (-1, (f M).2) else if tkS (r_hd f last M) = 7 then r_lE (r_add (r_hd f last M) 5) first last else if tkS (r_hd f last M) = 9 then r_lE (r_dot f (r_hd f last M)) first last else r_ll f first r (r_add (r_hd f last M) 4).1 (n_set 8 (r_add (r_hd f last M) 4).2 last (r_add (r_hd f last M) 4).1)
def r_lst (f : aM → Int32 × aM) (M : aM) : Int32 × aM := if tk M 13 11 (M 11 3 + 1) = 7 then r_add (r_nx M) 5 else r_ll f (r_add M 4).1 200 (r_add M 4).1 (r_nx (r_add M 4).2)
def rdD : Nat → aM → Int32 × aM
  | 0, M => if tkS M = 1 then r_num M else if tkS M = 2 then r_name M else if tkS M = 3 then r_str M else (-1, r_fltM M)
  | j + 1, M => if tkS M = 1 then r_num M else if tkS M = 2 then r_name M else if tkS M = 3 then r_str M else if tkS M = 6 then r_lst (rdD j) M else if tkS M = 8 then r_quo (rdD j) M else (-1, r_fltM M)
def sp_Reader_readDatum (j : Nat) : aS := fun as M K => match as with
  | [.ref a, .int o] => a = 11 ∧ (o = nI (15 - j) ∧ j ≤ 15) ∧ K (some (.int (rdD j M).1)) (rdD j M).2
  | _ => False
def sp_Reader_readDotted (j : Nat) : aS := fun as M K => match as with
  | [.ref a, .int o] => a = 11 ∧ (o = nI (15 - (j + 1)) ∧ j + 1 ≤ 15) ∧ K (some (.int (r_dot (rdD j) M).1)) (r_dot (rdD j) M).2
  | _ => False
def sp_Reader_readQuoted0 : aS := fun as M K => match as with
  | [.ref a, .int o] => a = 11 ∧ o = 15 ∧ K (some (.int (-1))) (r_fltM M)
  | _ => False
def sp_Reader_readQuoted (j : Nat) : aS := fun as M K => match as with
  | [.ref a, .int o] => a = 11 ∧ (o = nI (15 - (j + 1)) ∧ j + 1 ≤ 15) ∧ K (some (.int (r_quo (rdD j) M).1)) (r_quo (rdD j) M).2
  | _ => False
def sp_Reader_readList (j : Nat) : aS := fun as M K => match as with
  | [.ref a, .int o] => a = 11 ∧ (o = nI (15 - (j + 1)) ∧ j + 1 ≤ 15) ∧ K (some (.int (r_lst (rdD j) M).1)) (r_lst (rdD j) M).2
  | _ => False
theorem f_nx (M : aM) : am_up M 11 3 (M 11 3 + 1) = r_nx M := by rfl
theorem f_tkS (M : aM) : tk M 13 11 (M 11 3) = tkS M := by rfl
/-- the am-depth of readDatum with j levels left -/
def dD (j : Nat) : Nat := 4 + 3 * j
set_option maxRecDepth 100000 in
set_option maxHeartbeats 4000000 in
theorem ok_Reader_readDotted {G : aG} (hG : am_ok G) {j : Nat} (hI : am_Sp G Y_Reader_readDatum (dD j) (sp_Reader_readDatum j)) : am_Sp G Y_Reader_readDotted (dD j + 1) (sp_Reader_readDotted j) := by
  intro as M K h
  unfold sp_Reader_readDotted at h
  split at h
  · next a o =>
    obtain ⟨rfl, ⟨rfl, hj⟩, h⟩ := h
    have e3 : nI (15 - (j + 1)) + 1 = nI (15 - j) := by rw [nI_1, show 15 - (j + 1) + 1 = 15 - j by omega]
    have hj2 : j ≤ 15 := by omega
    refine am_entry hG (by decide +kernel) (Nat.le_of_ble_eq_true rfl) ?_
    refine am_go (cuts := k_Reader_readDotted) (tb_Reader_readDotted hI (by omega) (ok_Tokens_sortOf hG) (by unfold dD; omega) (ok_Reader_fault hG) (by unfold dD; omega)) 400 _ _ _ _ ?_
    change am_run _ _ _ _ _ _ [some (.ref 11), some (.int (nI (15 - (j + 1)))), none] [] _
    simp only [r_Reader_readDotted_0, r_Reader_readDotted_1, r_Reader_readDotted_2, r_Reader_readDotted_5, r_Reader_readDotted_6, r_Reader_readDotted_7, r_Reader_readDotted_10, r_Reader_readDotted_11, r_Reader_readDotted_12, r_Reader_readDotted_13, r_Reader_readDotted_14, r_Reader_readDotted_17, r_Reader_readDotted_18, r_Reader_readDotted_19, r_Reader_readDotted_20, r_Reader_readDotted_23, r_Reader_readDotted_24, r_Reader_readDotted_25, r_Reader_readDotted_26, r_Reader_readDotted_27, r_Reader_readDotted_30, r_Reader_readDotted_31, r_Reader_readDotted_32, r_Reader_readDotted_35, r_Reader_readDotted_36, r_Reader_readDotted_39, r_Reader_readDotted_40, r_Reader_readDotted_43, r_Reader_readDotted_46, r_Reader_readDotted_48, r_Reader_readDotted_51, r_Reader_readDotted_52, r_Reader_readDotted_55, r_Reader_readDotted_56, r_Reader_readDotted_59, ai_aload, ai_dup, am_c1, ai_getf, ai_const, ai_iadd, ai_bin, ai_putf, ai_iload, ai_callv2, am_push, am_few, ai_istore, am_cut_0, am_cut_s, ai_cmpne, ai_iret, ai_goto, ai_callv1, kd_0, fd_0_0, fd_0_1, fd_0_2, fd_0_3, fd_0_4, kd_1, fd_1_0, fd_1_1, ln_2, kd_3, fd_3_0, fd_3_1, fd_3_2, fd_3_3, fd_3_4, fd_3_5, fd_3_6, fd_3_7, fd_3_8, fd_3_9, ln_4, ln_5, ln_6, ln_7, ln_8, ln_9, ln_10, kd_11, fd_11_0, fd_11_1, fd_11_2, fd_11_3, fd_11_4, kd_12, fd_12_0, fd_12_1, fd_12_2, fd_12_3, ln_13, ln_14, ln_15, kd_16, fd_16_0, fd_16_1, fd_16_2, ln_17, kd_18, fd_18_0, fd_18_1, kd_19, fd_19_0, fd_19_1, fd_19_2, fd_19_3, fd_19_4, fd_19_5, fd_19_6, fd_19_7, fd_19_8, fd_19_9, fd_19_10, fd_19_11, fd_19_12, fd_19_13, fd_19_14, fd_19_15, fd_19_16, fd_19_17, fd_19_18, fd_19_19, fd_19_20, ln_20, ln_21, ln_22, ln_23, ln_24, ln_25, ln_26, ln_27, ln_28, ln_29, ln_30, ln_31, ln_32, List.getElem?_cons_zero, List.getElem?_cons_succ, List.set_cons_zero, List.set_cons_succ, true_and, and_true, ↓reduceIte, Int32.reduceLT, Int32.reduceLE, li_10, or_true, true_or, ↓sp_Reader_readDatum, ↓sp_Tokens_sortOf, ↓sp_Reader_fault, e3, hj2, f_nx, f_tkS]
    unfold r_dot at h
    by_cases c1 : (rdD j (r_nx M)).1 = -1
    · rw [if_pos c1] at h ⊢; exact h
    · rw [if_neg c1] at h ⊢
      by_cases c2 : tkS (r_nx (rdD j (r_nx M)).2) = 7
      · rw [if_pos c2] at h ⊢; exact h
      · rw [if_neg c2] at h ⊢; exact h
  · cases h
set_option maxRecDepth 100000 in
set_option maxHeartbeats 4000000 in
theorem lp_Reader_readQuotedA {G : aG} (hG : am_ok G) {K : aR} {j : Nat} (hI : am_Sp G Y_Reader_readDatum (dD j) (sp_Reader_readDatum j)) {o first name second q : Int32} {M : aM} (h : K (some (.int (q_A first second M q).1)) (q_A first second M q).2) : am_X G Y_Reader_readQuoted (dD j + 1) K 92 [some (.ref 11), some (.int o), some (.int first), some (.int name), some (.int second), some (.int q), none] [] M := by
  unfold q_A at h
  refine am_from (tb_Reader_readQuoted (ok_Reader_fault hG) (by unfold dD; omega) (ok_Reader_add hG) (by unfold dD; omega) (ok_Nodes_nameQuote hG) (by unfold dD; omega) (ok_Nodes_setHead hG) (by unfold dD; omega) (ok_Nodes_setTail hG) (by unfold dD; omega) hI (by omega)) k_Reader_readQuoted 400 ?_
  simp only [q_Reader_readQuoted_17, q_Reader_readQuoted_23, q_Reader_readQuoted_30, q_Reader_readQuoted_38, q_Reader_readQuoted_92, r_Reader_readQuoted_0, r_Reader_readQuoted_1, r_Reader_readQuoted_3, r_Reader_readQuoted_6, r_Reader_readQuoted_7, r_Reader_readQuoted_10, r_Reader_readQuoted_11, r_Reader_readQuoted_12, r_Reader_readQuoted_13, r_Reader_readQuoted_16, r_Reader_readQuoted_17, r_Reader_readQuoted_18, r_Reader_readQuoted_19, r_Reader_readQuoted_22, r_Reader_readQuoted_23, r_Reader_readQuoted_24, r_Reader_readQuoted_25, r_Reader_readQuoted_28, r_Reader_readQuoted_30, r_Reader_readQuoted_32, r_Reader_readQuoted_33, r_Reader_readQuoted_36, r_Reader_readQuoted_37, r_Reader_readQuoted_38, r_Reader_readQuoted_39, r_Reader_readQuoted_42, r_Reader_readQuoted_43, r_Reader_readQuoted_46, r_Reader_readQuoted_47, r_Reader_readQuoted_50, r_Reader_readQuoted_51, r_Reader_readQuoted_52, r_Reader_readQuoted_55, r_Reader_readQuoted_56, r_Reader_readQuoted_59, r_Reader_readQuoted_60, r_Reader_readQuoted_62, r_Reader_readQuoted_65, r_Reader_readQuoted_66, r_Reader_readQuoted_67, r_Reader_readQuoted_70, r_Reader_readQuoted_71, r_Reader_readQuoted_72, r_Reader_readQuoted_75, r_Reader_readQuoted_76, r_Reader_readQuoted_77, r_Reader_readQuoted_78, r_Reader_readQuoted_79, r_Reader_readQuoted_82, r_Reader_readQuoted_84, r_Reader_readQuoted_86, r_Reader_readQuoted_87, r_Reader_readQuoted_90, r_Reader_readQuoted_91, r_Reader_readQuoted_92, r_Reader_readQuoted_93, r_Reader_readQuoted_96, r_Reader_readQuoted_98, r_Reader_readQuoted_100, r_Reader_readQuoted_103, r_Reader_readQuoted_104, r_Reader_readQuoted_105, r_Reader_readQuoted_108, r_Reader_readQuoted_110, r_Reader_readQuoted_111, r_Reader_readQuoted_114, r_Reader_readQuoted_116, r_Reader_readQuoted_118, r_Reader_readQuoted_121, r_Reader_readQuoted_123, r_Reader_readQuoted_124, r_Reader_readQuoted_127, r_Reader_readQuoted_128, r_Reader_readQuoted_131, r_Reader_readQuoted_132, ai_iload, ai_const, ai_cmplt, ai_aload, ai_callv1, am_push, am_few, ai_iret, ai_callv2, ai_istore, am_cut_0, am_cut_s, am_c1, ai_cmpne, ai_getf, ai_callv3, ai_dup, ai_iadd, ai_bin, ai_putf, ai_goto, kd_0, fd_0_0, fd_0_1, fd_0_2, fd_0_3, fd_0_4, kd_1, fd_1_0, fd_1_1, ln_2, kd_3, fd_3_0, fd_3_1, fd_3_2, fd_3_3, fd_3_4, fd_3_5, fd_3_6, fd_3_7, fd_3_8, fd_3_9, ln_4, ln_5, ln_6, ln_7, ln_8, ln_9, ln_10, kd_11, fd_11_0, fd_11_1, fd_11_2, fd_11_3, fd_11_4, kd_12, fd_12_0, fd_12_1, fd_12_2, fd_12_3, ln_13, ln_14, ln_15, kd_16, fd_16_0, fd_16_1, fd_16_2, ln_17, kd_18, fd_18_0, fd_18_1, kd_19, fd_19_0, fd_19_1, fd_19_2, fd_19_3, fd_19_4, fd_19_5, fd_19_6, fd_19_7, fd_19_8, fd_19_9, fd_19_10, fd_19_11, fd_19_12, fd_19_13, fd_19_14, fd_19_15, fd_19_16, fd_19_17, fd_19_18, fd_19_19, fd_19_20, ln_20, ln_21, ln_22, ln_23, ln_24, ln_25, ln_26, ln_27, ln_28, ln_29, ln_30, ln_31, ln_32, List.getElem?_cons_zero, List.getElem?_cons_succ, List.set_cons_zero, List.set_cons_succ, true_and, and_true, ↓reduceIte, Int32.reduceLT, Int32.reduceLE, li_10, or_true, true_or, ↓sp_Reader_add, ↓sp_Nodes_setHead, ↓sp_Nodes_setTail]
  by_cases c : (r_add (n_set 7 M second q) 5).1 = -1
  · rw [if_pos c] at h ⊢; exact h
  · rw [if_neg c] at h ⊢; exact h
set_option maxRecDepth 100000 in
set_option maxHeartbeats 4000000 in
theorem lp_Reader_readQuotedB {G : aG} (hG : am_ok G) {K : aR} {j : Nat} (hj : j + 1 ≤ 15) (hI : am_Sp G Y_Reader_readDatum (dD j) (sp_Reader_readDatum j)) {first name second : Int32} {M : aM} (h : K (some (.int (q_B (rdD j) first name second M).1)) (q_B (rdD j) first name second M).2) : am_X G Y_Reader_readQuoted (dD j + 1) K 38 [some (.ref 11), some (.int (nI (15 - (j + 1)))), some (.int first), some (.int name), some (.int second), none, none] [] M := by
  have e3 : nI (15 - (j + 1)) + 1 = nI (15 - j) := by rw [nI_1, show 15 - (j + 1) + 1 = 15 - j by omega]
  have hj2 : j ≤ 15 := by omega
  unfold q_B at h
  refine am_from (tb_Reader_readQuoted (ok_Reader_fault hG) (by unfold dD; omega) (ok_Reader_add hG) (by unfold dD; omega) (ok_Nodes_nameQuote hG) (by unfold dD; omega) (ok_Nodes_setHead hG) (by unfold dD; omega) (ok_Nodes_setTail hG) (by unfold dD; omega) hI (by omega)) k_Reader_readQuoted 400 ?_
  simp only [q_Reader_readQuoted_17, q_Reader_readQuoted_23, q_Reader_readQuoted_30, q_Reader_readQuoted_38, q_Reader_readQuoted_92, r_Reader_readQuoted_0, r_Reader_readQuoted_1, r_Reader_readQuoted_3, r_Reader_readQuoted_6, r_Reader_readQuoted_7, r_Reader_readQuoted_10, r_Reader_readQuoted_11, r_Reader_readQuoted_12, r_Reader_readQuoted_13, r_Reader_readQuoted_16, r_Reader_readQuoted_17, r_Reader_readQuoted_18, r_Reader_readQuoted_19, r_Reader_readQuoted_22, r_Reader_readQuoted_23, r_Reader_readQuoted_24, r_Reader_readQuoted_25, r_Reader_readQuoted_28, r_Reader_readQuoted_30, r_Reader_readQuoted_32, r_Reader_readQuoted_33, r_Reader_readQuoted_36, r_Reader_readQuoted_37, r_Reader_readQuoted_38, r_Reader_readQuoted_39, r_Reader_readQuoted_42, r_Reader_readQuoted_43, r_Reader_readQuoted_46, r_Reader_readQuoted_47, r_Reader_readQuoted_50, r_Reader_readQuoted_51, r_Reader_readQuoted_52, r_Reader_readQuoted_55, r_Reader_readQuoted_56, r_Reader_readQuoted_59, r_Reader_readQuoted_60, r_Reader_readQuoted_62, r_Reader_readQuoted_65, r_Reader_readQuoted_66, r_Reader_readQuoted_67, r_Reader_readQuoted_70, r_Reader_readQuoted_71, r_Reader_readQuoted_72, r_Reader_readQuoted_75, r_Reader_readQuoted_76, r_Reader_readQuoted_77, r_Reader_readQuoted_78, r_Reader_readQuoted_79, r_Reader_readQuoted_82, r_Reader_readQuoted_84, r_Reader_readQuoted_86, r_Reader_readQuoted_87, r_Reader_readQuoted_90, r_Reader_readQuoted_91, r_Reader_readQuoted_92, r_Reader_readQuoted_93, r_Reader_readQuoted_96, r_Reader_readQuoted_98, r_Reader_readQuoted_100, r_Reader_readQuoted_103, r_Reader_readQuoted_104, r_Reader_readQuoted_105, r_Reader_readQuoted_108, r_Reader_readQuoted_110, r_Reader_readQuoted_111, r_Reader_readQuoted_114, r_Reader_readQuoted_116, r_Reader_readQuoted_118, r_Reader_readQuoted_121, r_Reader_readQuoted_123, r_Reader_readQuoted_124, r_Reader_readQuoted_127, r_Reader_readQuoted_128, r_Reader_readQuoted_131, r_Reader_readQuoted_132, ai_iload, ai_const, ai_cmplt, ai_aload, ai_callv1, am_push, am_few, ai_iret, ai_callv2, ai_istore, am_cut_0, am_cut_s, am_c1, ai_cmpne, ai_getf, ai_callv3, ai_dup, ai_iadd, ai_bin, ai_putf, ai_goto, kd_0, fd_0_0, fd_0_1, fd_0_2, fd_0_3, fd_0_4, kd_1, fd_1_0, fd_1_1, ln_2, kd_3, fd_3_0, fd_3_1, fd_3_2, fd_3_3, fd_3_4, fd_3_5, fd_3_6, fd_3_7, fd_3_8, fd_3_9, ln_4, ln_5, ln_6, ln_7, ln_8, ln_9, ln_10, kd_11, fd_11_0, fd_11_1, fd_11_2, fd_11_3, fd_11_4, kd_12, fd_12_0, fd_12_1, fd_12_2, fd_12_3, ln_13, ln_14, ln_15, kd_16, fd_16_0, fd_16_1, fd_16_2, ln_17, kd_18, fd_18_0, fd_18_1, kd_19, fd_19_0, fd_19_1, fd_19_2, fd_19_3, fd_19_4, fd_19_5, fd_19_6, fd_19_7, fd_19_8, fd_19_9, fd_19_10, fd_19_11, fd_19_12, fd_19_13, fd_19_14, fd_19_15, fd_19_16, fd_19_17, fd_19_18, fd_19_19, fd_19_20, ln_20, ln_21, ln_22, ln_23, ln_24, ln_25, ln_26, ln_27, ln_28, ln_29, ln_30, ln_31, ln_32, List.getElem?_cons_zero, List.getElem?_cons_succ, List.set_cons_zero, List.set_cons_succ, true_and, and_true, ↓reduceIte, Int32.reduceLT, Int32.reduceLE, li_10, or_true, true_or, ↓sp_Reader_readDatum, ↓sp_Nodes_nameQuote, ↓sp_Nodes_setHead, ↓sp_Nodes_setTail, e3, hj2, f_nx]
  have hq : q_M first name second M = r_nx (n_set 8 (n_set 7 (if hasN M name = true then nqM M name else M) first name) first second) := rfl
  rw [← hq]
  generalize q_M first name second M = N at h ⊢
  by_cases c : (rdD j N).1 = -1
  · rw [if_pos c] at h ⊢; exact h
  · rw [if_neg c] at h ⊢
    exact lp_Reader_readQuotedA hG hI h
set_option maxRecDepth 100000 in
set_option maxHeartbeats 4000000 in
theorem lp_Reader_readQuotedD {G : aG} (hG : am_ok G) {K : aR} {j : Nat} (hj : j + 1 ≤ 15) (hI : am_Sp G Y_Reader_readDatum (dD j) (sp_Reader_readDatum j)) {first name second : Int32} {M : aM} (h : if second = -1 then K (some (.int (-1))) M else K (some (.int (q_B (rdD j) first name second M).1)) (q_B (rdD j) first name second M).2) : am_X G Y_Reader_readQuoted (dD j + 1) K 30 [some (.ref 11), some (.int (nI (15 - (j + 1)))), some (.int first), some (.int name), some (.int second), none, none] [] M := by
  by_cases c : second = -1
  · rw [if_pos c] at h
    have c' : (second = -1) = True := eq_true c
    refine am_from (tb_Reader_readQuoted (ok_Reader_fault hG) (by unfold dD; omega) (ok_Reader_add hG) (by unfold dD; omega) (ok_Nodes_nameQuote hG) (by unfold dD; omega) (ok_Nodes_setHead hG) (by unfold dD; omega) (ok_Nodes_setTail hG) (by unfold dD; omega) hI (by omega)) k_Reader_readQuoted 400 ?_
    simp only [q_Reader_readQuoted_17, q_Reader_readQuoted_23, q_Reader_readQuoted_30, q_Reader_readQuoted_38, q_Reader_readQuoted_92, r_Reader_readQuoted_0, r_Reader_readQuoted_1, r_Reader_readQuoted_3, r_Reader_readQuoted_6, r_Reader_readQuoted_7, r_Reader_readQuoted_10, r_Reader_readQuoted_11, r_Reader_readQuoted_12, r_Reader_readQuoted_13, r_Reader_readQuoted_16, r_Reader_readQuoted_17, r_Reader_readQuoted_18, r_Reader_readQuoted_19, r_Reader_readQuoted_22, r_Reader_readQuoted_23, r_Reader_readQuoted_24, r_Reader_readQuoted_25, r_Reader_readQuoted_28, r_Reader_readQuoted_30, r_Reader_readQuoted_32, r_Reader_readQuoted_33, r_Reader_readQuoted_36, r_Reader_readQuoted_37, r_Reader_readQuoted_38, r_Reader_readQuoted_39, r_Reader_readQuoted_42, r_Reader_readQuoted_43, r_Reader_readQuoted_46, r_Reader_readQuoted_47, r_Reader_readQuoted_50, r_Reader_readQuoted_51, r_Reader_readQuoted_52, r_Reader_readQuoted_55, r_Reader_readQuoted_56, r_Reader_readQuoted_59, r_Reader_readQuoted_60, r_Reader_readQuoted_62, r_Reader_readQuoted_65, r_Reader_readQuoted_66, r_Reader_readQuoted_67, r_Reader_readQuoted_70, r_Reader_readQuoted_71, r_Reader_readQuoted_72, r_Reader_readQuoted_75, r_Reader_readQuoted_76, r_Reader_readQuoted_77, r_Reader_readQuoted_78, r_Reader_readQuoted_79, r_Reader_readQuoted_82, r_Reader_readQuoted_84, r_Reader_readQuoted_86, r_Reader_readQuoted_87, r_Reader_readQuoted_90, r_Reader_readQuoted_91, r_Reader_readQuoted_92, r_Reader_readQuoted_93, r_Reader_readQuoted_96, r_Reader_readQuoted_98, r_Reader_readQuoted_100, r_Reader_readQuoted_103, r_Reader_readQuoted_104, r_Reader_readQuoted_105, r_Reader_readQuoted_108, r_Reader_readQuoted_110, r_Reader_readQuoted_111, r_Reader_readQuoted_114, r_Reader_readQuoted_116, r_Reader_readQuoted_118, r_Reader_readQuoted_121, r_Reader_readQuoted_123, r_Reader_readQuoted_124, r_Reader_readQuoted_127, r_Reader_readQuoted_128, r_Reader_readQuoted_131, r_Reader_readQuoted_132, ai_iload, ai_const, ai_cmplt, ai_aload, ai_callv1, am_push, am_few, ai_iret, ai_callv2, ai_istore, am_cut_0, am_cut_s, am_c1, ai_cmpne, ai_getf, ai_callv3, ai_dup, ai_iadd, ai_bin, ai_putf, ai_goto, kd_0, fd_0_0, fd_0_1, fd_0_2, fd_0_3, fd_0_4, kd_1, fd_1_0, fd_1_1, ln_2, kd_3, fd_3_0, fd_3_1, fd_3_2, fd_3_3, fd_3_4, fd_3_5, fd_3_6, fd_3_7, fd_3_8, fd_3_9, ln_4, ln_5, ln_6, ln_7, ln_8, ln_9, ln_10, kd_11, fd_11_0, fd_11_1, fd_11_2, fd_11_3, fd_11_4, kd_12, fd_12_0, fd_12_1, fd_12_2, fd_12_3, ln_13, ln_14, ln_15, kd_16, fd_16_0, fd_16_1, fd_16_2, ln_17, kd_18, fd_18_0, fd_18_1, kd_19, fd_19_0, fd_19_1, fd_19_2, fd_19_3, fd_19_4, fd_19_5, fd_19_6, fd_19_7, fd_19_8, fd_19_9, fd_19_10, fd_19_11, fd_19_12, fd_19_13, fd_19_14, fd_19_15, fd_19_16, fd_19_17, fd_19_18, fd_19_19, fd_19_20, ln_20, ln_21, ln_22, ln_23, ln_24, ln_25, ln_26, ln_27, ln_28, ln_29, ln_30, ln_31, ln_32, List.getElem?_cons_zero, List.getElem?_cons_succ, List.set_cons_zero, List.set_cons_succ, true_and, and_true, ↓reduceIte, Int32.reduceLT, Int32.reduceLE, li_10, or_true, true_or, c']
    exact h
  · rw [if_neg c] at h
    refine am_from (tb_Reader_readQuoted (ok_Reader_fault hG) (by unfold dD; omega) (ok_Reader_add hG) (by unfold dD; omega) (ok_Nodes_nameQuote hG) (by unfold dD; omega) (ok_Nodes_setHead hG) (by unfold dD; omega) (ok_Nodes_setTail hG) (by unfold dD; omega) hI (by omega)) k_Reader_readQuoted 400 ?_
    simp only [q_Reader_readQuoted_17, q_Reader_readQuoted_23, q_Reader_readQuoted_30, q_Reader_readQuoted_38, q_Reader_readQuoted_92, r_Reader_readQuoted_0, r_Reader_readQuoted_1, r_Reader_readQuoted_3, r_Reader_readQuoted_6, r_Reader_readQuoted_7, r_Reader_readQuoted_10, r_Reader_readQuoted_11, r_Reader_readQuoted_12, r_Reader_readQuoted_13, r_Reader_readQuoted_16, r_Reader_readQuoted_17, r_Reader_readQuoted_18, r_Reader_readQuoted_19, r_Reader_readQuoted_22, r_Reader_readQuoted_23, r_Reader_readQuoted_24, r_Reader_readQuoted_25, r_Reader_readQuoted_28, r_Reader_readQuoted_30, r_Reader_readQuoted_32, r_Reader_readQuoted_33, r_Reader_readQuoted_36, r_Reader_readQuoted_37, r_Reader_readQuoted_38, r_Reader_readQuoted_39, r_Reader_readQuoted_42, r_Reader_readQuoted_43, r_Reader_readQuoted_46, r_Reader_readQuoted_47, r_Reader_readQuoted_50, r_Reader_readQuoted_51, r_Reader_readQuoted_52, r_Reader_readQuoted_55, r_Reader_readQuoted_56, r_Reader_readQuoted_59, r_Reader_readQuoted_60, r_Reader_readQuoted_62, r_Reader_readQuoted_65, r_Reader_readQuoted_66, r_Reader_readQuoted_67, r_Reader_readQuoted_70, r_Reader_readQuoted_71, r_Reader_readQuoted_72, r_Reader_readQuoted_75, r_Reader_readQuoted_76, r_Reader_readQuoted_77, r_Reader_readQuoted_78, r_Reader_readQuoted_79, r_Reader_readQuoted_82, r_Reader_readQuoted_84, r_Reader_readQuoted_86, r_Reader_readQuoted_87, r_Reader_readQuoted_90, r_Reader_readQuoted_91, r_Reader_readQuoted_92, r_Reader_readQuoted_93, r_Reader_readQuoted_96, r_Reader_readQuoted_98, r_Reader_readQuoted_100, r_Reader_readQuoted_103, r_Reader_readQuoted_104, r_Reader_readQuoted_105, r_Reader_readQuoted_108, r_Reader_readQuoted_110, r_Reader_readQuoted_111, r_Reader_readQuoted_114, r_Reader_readQuoted_116, r_Reader_readQuoted_118, r_Reader_readQuoted_121, r_Reader_readQuoted_123, r_Reader_readQuoted_124, r_Reader_readQuoted_127, r_Reader_readQuoted_128, r_Reader_readQuoted_131, r_Reader_readQuoted_132, ai_iload, ai_const, ai_cmplt, ai_aload, ai_callv1, am_push, am_few, ai_iret, ai_callv2, ai_istore, am_cut_0, am_cut_s, am_c1, ai_cmpne, ai_getf, ai_callv3, ai_dup, ai_iadd, ai_bin, ai_putf, ai_goto, kd_0, fd_0_0, fd_0_1, fd_0_2, fd_0_3, fd_0_4, kd_1, fd_1_0, fd_1_1, ln_2, kd_3, fd_3_0, fd_3_1, fd_3_2, fd_3_3, fd_3_4, fd_3_5, fd_3_6, fd_3_7, fd_3_8, fd_3_9, ln_4, ln_5, ln_6, ln_7, ln_8, ln_9, ln_10, kd_11, fd_11_0, fd_11_1, fd_11_2, fd_11_3, fd_11_4, kd_12, fd_12_0, fd_12_1, fd_12_2, fd_12_3, ln_13, ln_14, ln_15, kd_16, fd_16_0, fd_16_1, fd_16_2, ln_17, kd_18, fd_18_0, fd_18_1, kd_19, fd_19_0, fd_19_1, fd_19_2, fd_19_3, fd_19_4, fd_19_5, fd_19_6, fd_19_7, fd_19_8, fd_19_9, fd_19_10, fd_19_11, fd_19_12, fd_19_13, fd_19_14, fd_19_15, fd_19_16, fd_19_17, fd_19_18, fd_19_19, fd_19_20, ln_20, ln_21, ln_22, ln_23, ln_24, ln_25, ln_26, ln_27, ln_28, ln_29, ln_30, ln_31, ln_32, List.getElem?_cons_zero, List.getElem?_cons_succ, List.set_cons_zero, List.set_cons_succ, true_and, and_true, ↓reduceIte, Int32.reduceLT, Int32.reduceLE, li_10, or_true, true_or, c]
    exact lp_Reader_readQuotedB hG hj hI h
set_option maxRecDepth 100000 in
set_option maxHeartbeats 4000000 in
theorem lp_Reader_readQuotedC {G : aG} (hG : am_ok G) {K : aR} {j : Nat} (hj : j + 1 ≤ 15) (hI : am_Sp G Y_Reader_readDatum (dD j) (sp_Reader_readDatum j)) {first name : Int32} {M : aM} (h : if (r_add M 4).1 = -1 then K (some (.int (-1))) (r_add M 4).2 else K (some (.int (q_B (rdD j) first name (r_add M 4).1 (r_add M 4).2).1)) (q_B (rdD j) first name (r_add M 4).1 (r_add M 4).2).2) : am_X G Y_Reader_readQuoted (dD j + 1) K 23 [some (.ref 11), some (.int (nI (15 - (j + 1)))), some (.int first), some (.int name), none, none, none] [] M := by
  refine am_from (tb_Reader_readQuoted (ok_Reader_fault hG) (by unfold dD; omega) (ok_Reader_add hG) (by unfold dD; omega) (ok_Nodes_nameQuote hG) (by unfold dD; omega) (ok_Nodes_setHead hG) (by unfold dD; omega) (ok_Nodes_setTail hG) (by unfold dD; omega) hI (by omega)) k_Reader_readQuoted 400 ?_
  simp only [q_Reader_readQuoted_17, q_Reader_readQuoted_23, q_Reader_readQuoted_30, q_Reader_readQuoted_38, q_Reader_readQuoted_92, r_Reader_readQuoted_0, r_Reader_readQuoted_1, r_Reader_readQuoted_3, r_Reader_readQuoted_6, r_Reader_readQuoted_7, r_Reader_readQuoted_10, r_Reader_readQuoted_11, r_Reader_readQuoted_12, r_Reader_readQuoted_13, r_Reader_readQuoted_16, r_Reader_readQuoted_17, r_Reader_readQuoted_18, r_Reader_readQuoted_19, r_Reader_readQuoted_22, r_Reader_readQuoted_23, r_Reader_readQuoted_24, r_Reader_readQuoted_25, r_Reader_readQuoted_28, r_Reader_readQuoted_30, r_Reader_readQuoted_32, r_Reader_readQuoted_33, r_Reader_readQuoted_36, r_Reader_readQuoted_37, r_Reader_readQuoted_38, r_Reader_readQuoted_39, r_Reader_readQuoted_42, r_Reader_readQuoted_43, r_Reader_readQuoted_46, r_Reader_readQuoted_47, r_Reader_readQuoted_50, r_Reader_readQuoted_51, r_Reader_readQuoted_52, r_Reader_readQuoted_55, r_Reader_readQuoted_56, r_Reader_readQuoted_59, r_Reader_readQuoted_60, r_Reader_readQuoted_62, r_Reader_readQuoted_65, r_Reader_readQuoted_66, r_Reader_readQuoted_67, r_Reader_readQuoted_70, r_Reader_readQuoted_71, r_Reader_readQuoted_72, r_Reader_readQuoted_75, r_Reader_readQuoted_76, r_Reader_readQuoted_77, r_Reader_readQuoted_78, r_Reader_readQuoted_79, r_Reader_readQuoted_82, r_Reader_readQuoted_84, r_Reader_readQuoted_86, r_Reader_readQuoted_87, r_Reader_readQuoted_90, r_Reader_readQuoted_91, r_Reader_readQuoted_92, r_Reader_readQuoted_93, r_Reader_readQuoted_96, r_Reader_readQuoted_98, r_Reader_readQuoted_100, r_Reader_readQuoted_103, r_Reader_readQuoted_104, r_Reader_readQuoted_105, r_Reader_readQuoted_108, r_Reader_readQuoted_110, r_Reader_readQuoted_111, r_Reader_readQuoted_114, r_Reader_readQuoted_116, r_Reader_readQuoted_118, r_Reader_readQuoted_121, r_Reader_readQuoted_123, r_Reader_readQuoted_124, r_Reader_readQuoted_127, r_Reader_readQuoted_128, r_Reader_readQuoted_131, r_Reader_readQuoted_132, ai_iload, ai_const, ai_cmplt, ai_aload, ai_callv1, am_push, am_few, ai_iret, ai_callv2, ai_istore, am_cut_0, am_cut_s, am_c1, ai_cmpne, ai_getf, ai_callv3, ai_dup, ai_iadd, ai_bin, ai_putf, ai_goto, kd_0, fd_0_0, fd_0_1, fd_0_2, fd_0_3, fd_0_4, kd_1, fd_1_0, fd_1_1, ln_2, kd_3, fd_3_0, fd_3_1, fd_3_2, fd_3_3, fd_3_4, fd_3_5, fd_3_6, fd_3_7, fd_3_8, fd_3_9, ln_4, ln_5, ln_6, ln_7, ln_8, ln_9, ln_10, kd_11, fd_11_0, fd_11_1, fd_11_2, fd_11_3, fd_11_4, kd_12, fd_12_0, fd_12_1, fd_12_2, fd_12_3, ln_13, ln_14, ln_15, kd_16, fd_16_0, fd_16_1, fd_16_2, ln_17, kd_18, fd_18_0, fd_18_1, kd_19, fd_19_0, fd_19_1, fd_19_2, fd_19_3, fd_19_4, fd_19_5, fd_19_6, fd_19_7, fd_19_8, fd_19_9, fd_19_10, fd_19_11, fd_19_12, fd_19_13, fd_19_14, fd_19_15, fd_19_16, fd_19_17, fd_19_18, fd_19_19, fd_19_20, ln_20, ln_21, ln_22, ln_23, ln_24, ln_25, ln_26, ln_27, ln_28, ln_29, ln_30, ln_31, ln_32, List.getElem?_cons_zero, List.getElem?_cons_succ, List.set_cons_zero, List.set_cons_succ, true_and, and_true, ↓reduceIte, Int32.reduceLT, Int32.reduceLE, li_10, or_true, true_or, ↓sp_Reader_add]
  exact lp_Reader_readQuotedD hG hj hI h
set_option maxRecDepth 100000 in
set_option maxHeartbeats 4000000 in
theorem lp_Reader_readQuotedE {G : aG} (hG : am_ok G) {K : aR} {j : Nat} (hj : j + 1 ≤ 15) (hI : am_Sp G Y_Reader_readDatum (dD j) (sp_Reader_readDatum j)) {first : Int32} {M : aM} (h : if (r_add (r_add M 2).2 4).1 = -1 then K (some (.int (-1))) (r_add (r_add M 2).2 4).2 else K (some (.int (q_B (rdD j) first (r_add M 2).1 (r_add (r_add M 2).2 4).1 (r_add (r_add M 2).2 4).2).1)) (q_B (rdD j) first (r_add M 2).1 (r_add (r_add M 2).2 4).1 (r_add (r_add M 2).2 4).2).2) : am_X G Y_Reader_readQuoted (dD j + 1) K 17 [some (.ref 11), some (.int (nI (15 - (j + 1)))), some (.int first), none, none, none, none] [] M := by
  refine am_from (tb_Reader_readQuoted (ok_Reader_fault hG) (by unfold dD; omega) (ok_Reader_add hG) (by unfold dD; omega) (ok_Nodes_nameQuote hG) (by unfold dD; omega) (ok_Nodes_setHead hG) (by unfold dD; omega) (ok_Nodes_setTail hG) (by unfold dD; omega) hI (by omega)) k_Reader_readQuoted 400 ?_
  simp only [q_Reader_readQuoted_17, q_Reader_readQuoted_23, q_Reader_readQuoted_30, q_Reader_readQuoted_38, q_Reader_readQuoted_92, r_Reader_readQuoted_0, r_Reader_readQuoted_1, r_Reader_readQuoted_3, r_Reader_readQuoted_6, r_Reader_readQuoted_7, r_Reader_readQuoted_10, r_Reader_readQuoted_11, r_Reader_readQuoted_12, r_Reader_readQuoted_13, r_Reader_readQuoted_16, r_Reader_readQuoted_17, r_Reader_readQuoted_18, r_Reader_readQuoted_19, r_Reader_readQuoted_22, r_Reader_readQuoted_23, r_Reader_readQuoted_24, r_Reader_readQuoted_25, r_Reader_readQuoted_28, r_Reader_readQuoted_30, r_Reader_readQuoted_32, r_Reader_readQuoted_33, r_Reader_readQuoted_36, r_Reader_readQuoted_37, r_Reader_readQuoted_38, r_Reader_readQuoted_39, r_Reader_readQuoted_42, r_Reader_readQuoted_43, r_Reader_readQuoted_46, r_Reader_readQuoted_47, r_Reader_readQuoted_50, r_Reader_readQuoted_51, r_Reader_readQuoted_52, r_Reader_readQuoted_55, r_Reader_readQuoted_56, r_Reader_readQuoted_59, r_Reader_readQuoted_60, r_Reader_readQuoted_62, r_Reader_readQuoted_65, r_Reader_readQuoted_66, r_Reader_readQuoted_67, r_Reader_readQuoted_70, r_Reader_readQuoted_71, r_Reader_readQuoted_72, r_Reader_readQuoted_75, r_Reader_readQuoted_76, r_Reader_readQuoted_77, r_Reader_readQuoted_78, r_Reader_readQuoted_79, r_Reader_readQuoted_82, r_Reader_readQuoted_84, r_Reader_readQuoted_86, r_Reader_readQuoted_87, r_Reader_readQuoted_90, r_Reader_readQuoted_91, r_Reader_readQuoted_92, r_Reader_readQuoted_93, r_Reader_readQuoted_96, r_Reader_readQuoted_98, r_Reader_readQuoted_100, r_Reader_readQuoted_103, r_Reader_readQuoted_104, r_Reader_readQuoted_105, r_Reader_readQuoted_108, r_Reader_readQuoted_110, r_Reader_readQuoted_111, r_Reader_readQuoted_114, r_Reader_readQuoted_116, r_Reader_readQuoted_118, r_Reader_readQuoted_121, r_Reader_readQuoted_123, r_Reader_readQuoted_124, r_Reader_readQuoted_127, r_Reader_readQuoted_128, r_Reader_readQuoted_131, r_Reader_readQuoted_132, ai_iload, ai_const, ai_cmplt, ai_aload, ai_callv1, am_push, am_few, ai_iret, ai_callv2, ai_istore, am_cut_0, am_cut_s, am_c1, ai_cmpne, ai_getf, ai_callv3, ai_dup, ai_iadd, ai_bin, ai_putf, ai_goto, kd_0, fd_0_0, fd_0_1, fd_0_2, fd_0_3, fd_0_4, kd_1, fd_1_0, fd_1_1, ln_2, kd_3, fd_3_0, fd_3_1, fd_3_2, fd_3_3, fd_3_4, fd_3_5, fd_3_6, fd_3_7, fd_3_8, fd_3_9, ln_4, ln_5, ln_6, ln_7, ln_8, ln_9, ln_10, kd_11, fd_11_0, fd_11_1, fd_11_2, fd_11_3, fd_11_4, kd_12, fd_12_0, fd_12_1, fd_12_2, fd_12_3, ln_13, ln_14, ln_15, kd_16, fd_16_0, fd_16_1, fd_16_2, ln_17, kd_18, fd_18_0, fd_18_1, kd_19, fd_19_0, fd_19_1, fd_19_2, fd_19_3, fd_19_4, fd_19_5, fd_19_6, fd_19_7, fd_19_8, fd_19_9, fd_19_10, fd_19_11, fd_19_12, fd_19_13, fd_19_14, fd_19_15, fd_19_16, fd_19_17, fd_19_18, fd_19_19, fd_19_20, ln_20, ln_21, ln_22, ln_23, ln_24, ln_25, ln_26, ln_27, ln_28, ln_29, ln_30, ln_31, ln_32, List.getElem?_cons_zero, List.getElem?_cons_succ, List.set_cons_zero, List.set_cons_succ, true_and, and_true, ↓reduceIte, Int32.reduceLT, Int32.reduceLE, li_10, or_true, true_or, ↓sp_Reader_add]
  exact lp_Reader_readQuotedC hG hj hI h
set_option maxRecDepth 100000 in
set_option maxHeartbeats 4000000 in
theorem ok_Reader_readQuoted {G : aG} (hG : am_ok G) {j : Nat} (hI : am_Sp G Y_Reader_readDatum (dD j) (sp_Reader_readDatum j)) : am_Sp G Y_Reader_readQuoted (dD j + 1) (sp_Reader_readQuoted j) := by
  intro as M K h
  unfold sp_Reader_readQuoted at h
  split at h
  · next a o =>
    obtain ⟨rfl, ⟨rfl, hj⟩, h⟩ := h
    have e1 : nI (15 - (j + 1)) < 15 := nI_lt (b := 15) (by omega) (by decide)
    refine am_entry hG (by decide +kernel) (Nat.le_of_ble_eq_true rfl) ?_
    refine am_go (cuts := k_Reader_readQuoted) (tb_Reader_readQuoted (ok_Reader_fault hG) (by unfold dD; omega) (ok_Reader_add hG) (by unfold dD; omega) (ok_Nodes_nameQuote hG) (by unfold dD; omega) (ok_Nodes_setHead hG) (by unfold dD; omega) (ok_Nodes_setTail hG) (by unfold dD; omega) hI (by omega)) 400 _ _ _ _ ?_
    change am_run _ _ _ _ _ _ [some (.ref 11), some (.int (nI (15 - (j + 1)))), none, none, none, none, none] [] _
    simp only [q_Reader_readQuoted_17, q_Reader_readQuoted_23, q_Reader_readQuoted_30, q_Reader_readQuoted_38, q_Reader_readQuoted_92, r_Reader_readQuoted_0, r_Reader_readQuoted_1, r_Reader_readQuoted_3, r_Reader_readQuoted_6, r_Reader_readQuoted_7, r_Reader_readQuoted_10, r_Reader_readQuoted_11, r_Reader_readQuoted_12, r_Reader_readQuoted_13, r_Reader_readQuoted_16, r_Reader_readQuoted_17, r_Reader_readQuoted_18, r_Reader_readQuoted_19, r_Reader_readQuoted_22, r_Reader_readQuoted_23, r_Reader_readQuoted_24, r_Reader_readQuoted_25, r_Reader_readQuoted_28, r_Reader_readQuoted_30, r_Reader_readQuoted_32, r_Reader_readQuoted_33, r_Reader_readQuoted_36, r_Reader_readQuoted_37, r_Reader_readQuoted_38, r_Reader_readQuoted_39, r_Reader_readQuoted_42, r_Reader_readQuoted_43, r_Reader_readQuoted_46, r_Reader_readQuoted_47, r_Reader_readQuoted_50, r_Reader_readQuoted_51, r_Reader_readQuoted_52, r_Reader_readQuoted_55, r_Reader_readQuoted_56, r_Reader_readQuoted_59, r_Reader_readQuoted_60, r_Reader_readQuoted_62, r_Reader_readQuoted_65, r_Reader_readQuoted_66, r_Reader_readQuoted_67, r_Reader_readQuoted_70, r_Reader_readQuoted_71, r_Reader_readQuoted_72, r_Reader_readQuoted_75, r_Reader_readQuoted_76, r_Reader_readQuoted_77, r_Reader_readQuoted_78, r_Reader_readQuoted_79, r_Reader_readQuoted_82, r_Reader_readQuoted_84, r_Reader_readQuoted_86, r_Reader_readQuoted_87, r_Reader_readQuoted_90, r_Reader_readQuoted_91, r_Reader_readQuoted_92, r_Reader_readQuoted_93, r_Reader_readQuoted_96, r_Reader_readQuoted_98, r_Reader_readQuoted_100, r_Reader_readQuoted_103, r_Reader_readQuoted_104, r_Reader_readQuoted_105, r_Reader_readQuoted_108, r_Reader_readQuoted_110, r_Reader_readQuoted_111, r_Reader_readQuoted_114, r_Reader_readQuoted_116, r_Reader_readQuoted_118, r_Reader_readQuoted_121, r_Reader_readQuoted_123, r_Reader_readQuoted_124, r_Reader_readQuoted_127, r_Reader_readQuoted_128, r_Reader_readQuoted_131, r_Reader_readQuoted_132, ai_iload, ai_const, ai_cmplt, ai_aload, ai_callv1, am_push, am_few, ai_iret, ai_callv2, ai_istore, am_cut_0, am_cut_s, am_c1, ai_cmpne, ai_getf, ai_callv3, ai_dup, ai_iadd, ai_bin, ai_putf, ai_goto, kd_0, fd_0_0, fd_0_1, fd_0_2, fd_0_3, fd_0_4, kd_1, fd_1_0, fd_1_1, ln_2, kd_3, fd_3_0, fd_3_1, fd_3_2, fd_3_3, fd_3_4, fd_3_5, fd_3_6, fd_3_7, fd_3_8, fd_3_9, ln_4, ln_5, ln_6, ln_7, ln_8, ln_9, ln_10, kd_11, fd_11_0, fd_11_1, fd_11_2, fd_11_3, fd_11_4, kd_12, fd_12_0, fd_12_1, fd_12_2, fd_12_3, ln_13, ln_14, ln_15, kd_16, fd_16_0, fd_16_1, fd_16_2, ln_17, kd_18, fd_18_0, fd_18_1, kd_19, fd_19_0, fd_19_1, fd_19_2, fd_19_3, fd_19_4, fd_19_5, fd_19_6, fd_19_7, fd_19_8, fd_19_9, fd_19_10, fd_19_11, fd_19_12, fd_19_13, fd_19_14, fd_19_15, fd_19_16, fd_19_17, fd_19_18, fd_19_19, fd_19_20, ln_20, ln_21, ln_22, ln_23, ln_24, ln_25, ln_26, ln_27, ln_28, ln_29, ln_30, ln_31, ln_32, List.getElem?_cons_zero, List.getElem?_cons_succ, List.set_cons_zero, List.set_cons_succ, true_and, and_true, ↓reduceIte, Int32.reduceLT, Int32.reduceLE, li_10, or_true, true_or, ↓sp_Reader_add, e1]
    refine lp_Reader_readQuotedE (K := K) (first := (r_add M 4).1) (M := (r_add M 4).2) hG hj hI ?_
    unfold r_quo at h
    generalize (r_add M 4).1 = x1 at h ⊢
    generalize (r_add M 4).2 = M1 at h ⊢
    generalize (r_add M1 2).1 = x2 at h ⊢
    generalize (r_add M1 2).2 = M2 at h ⊢
    generalize (r_add M2 4).1 = x3 at h ⊢
    generalize (r_add M2 4).2 = M3 at h ⊢
    by_cases c : x3 = -1
    · rw [if_pos c] at h ⊢; exact h
    · rw [if_neg c] at h ⊢; exact h
  · cases h
set_option maxRecDepth 100000 in
set_option maxHeartbeats 4000000 in
theorem ok_Reader_readQuoted0 {G : aG} (hG : am_ok G) : am_Sp G Y_Reader_readQuoted 3 sp_Reader_readQuoted0 := by
  intro as M K h
  unfold sp_Reader_readQuoted0 at h
  split at h
  · next a o =>
    obtain ⟨rfl, rfl, h⟩ := h
    refine am_entry hG (by decide +kernel) (Nat.le_of_ble_eq_true rfl) ?_
    refine am_go (cuts := k_Reader_readQuoted) (tb_Reader_readQuoted (ok_Reader_fault hG) (by omega) (ok_Reader_add hG) (by omega) (ok_Nodes_nameQuote hG) (by omega) (ok_Nodes_setHead hG) (by omega) (ok_Nodes_setTail hG) (by omega) (s_Reader_readDatum := fun _ _ _ => False) (d_Reader_readDatum := 0) (fun _ _ _ q => q.elim) (by omega)) 400 _ _ _ _ ?_
    change am_run _ _ _ _ _ _ [some (.ref 11), some (.int 15), none, none, none, none, none] [] _
    simp only [q_Reader_readQuoted_17, q_Reader_readQuoted_23, q_Reader_readQuoted_30, q_Reader_readQuoted_38, q_Reader_readQuoted_92, r_Reader_readQuoted_0, r_Reader_readQuoted_1, r_Reader_readQuoted_3, r_Reader_readQuoted_6, r_Reader_readQuoted_7, r_Reader_readQuoted_10, r_Reader_readQuoted_11, r_Reader_readQuoted_12, r_Reader_readQuoted_13, r_Reader_readQuoted_16, r_Reader_readQuoted_17, r_Reader_readQuoted_18, r_Reader_readQuoted_19, r_Reader_readQuoted_22, r_Reader_readQuoted_23, r_Reader_readQuoted_24, r_Reader_readQuoted_25, r_Reader_readQuoted_28, r_Reader_readQuoted_30, r_Reader_readQuoted_32, r_Reader_readQuoted_33, r_Reader_readQuoted_36, r_Reader_readQuoted_37, r_Reader_readQuoted_38, r_Reader_readQuoted_39, r_Reader_readQuoted_42, r_Reader_readQuoted_43, r_Reader_readQuoted_46, r_Reader_readQuoted_47, r_Reader_readQuoted_50, r_Reader_readQuoted_51, r_Reader_readQuoted_52, r_Reader_readQuoted_55, r_Reader_readQuoted_56, r_Reader_readQuoted_59, r_Reader_readQuoted_60, r_Reader_readQuoted_62, r_Reader_readQuoted_65, r_Reader_readQuoted_66, r_Reader_readQuoted_67, r_Reader_readQuoted_70, r_Reader_readQuoted_71, r_Reader_readQuoted_72, r_Reader_readQuoted_75, r_Reader_readQuoted_76, r_Reader_readQuoted_77, r_Reader_readQuoted_78, r_Reader_readQuoted_79, r_Reader_readQuoted_82, r_Reader_readQuoted_84, r_Reader_readQuoted_86, r_Reader_readQuoted_87, r_Reader_readQuoted_90, r_Reader_readQuoted_91, r_Reader_readQuoted_92, r_Reader_readQuoted_93, r_Reader_readQuoted_96, r_Reader_readQuoted_98, r_Reader_readQuoted_100, r_Reader_readQuoted_103, r_Reader_readQuoted_104, r_Reader_readQuoted_105, r_Reader_readQuoted_108, r_Reader_readQuoted_110, r_Reader_readQuoted_111, r_Reader_readQuoted_114, r_Reader_readQuoted_116, r_Reader_readQuoted_118, r_Reader_readQuoted_121, r_Reader_readQuoted_123, r_Reader_readQuoted_124, r_Reader_readQuoted_127, r_Reader_readQuoted_128, r_Reader_readQuoted_131, r_Reader_readQuoted_132, ai_iload, ai_const, ai_cmplt, ai_aload, ai_callv1, am_push, am_few, ai_iret, ai_callv2, ai_istore, am_cut_0, am_cut_s, am_c1, ai_cmpne, ai_getf, ai_callv3, ai_dup, ai_iadd, ai_bin, ai_putf, ai_goto, kd_0, fd_0_0, fd_0_1, fd_0_2, fd_0_3, fd_0_4, kd_1, fd_1_0, fd_1_1, ln_2, kd_3, fd_3_0, fd_3_1, fd_3_2, fd_3_3, fd_3_4, fd_3_5, fd_3_6, fd_3_7, fd_3_8, fd_3_9, ln_4, ln_5, ln_6, ln_7, ln_8, ln_9, ln_10, kd_11, fd_11_0, fd_11_1, fd_11_2, fd_11_3, fd_11_4, kd_12, fd_12_0, fd_12_1, fd_12_2, fd_12_3, ln_13, ln_14, ln_15, kd_16, fd_16_0, fd_16_1, fd_16_2, ln_17, kd_18, fd_18_0, fd_18_1, kd_19, fd_19_0, fd_19_1, fd_19_2, fd_19_3, fd_19_4, fd_19_5, fd_19_6, fd_19_7, fd_19_8, fd_19_9, fd_19_10, fd_19_11, fd_19_12, fd_19_13, fd_19_14, fd_19_15, fd_19_16, fd_19_17, fd_19_18, fd_19_19, fd_19_20, ln_20, ln_21, ln_22, ln_23, ln_24, ln_25, ln_26, ln_27, ln_28, ln_29, ln_30, ln_31, ln_32, List.getElem?_cons_zero, List.getElem?_cons_succ, List.set_cons_zero, List.set_cons_succ, true_and, and_true, ↓reduceIte, Int32.reduceLT, Int32.reduceLE, li_10, or_true, true_or, ↓sp_Reader_fault]
    exact h
  · cases h
set_option maxRecDepth 100000 in
set_option maxHeartbeats 4000000 in
theorem ok_Reader_readList0 {G : aG} (hG : am_ok G) : am_Sp G Y_Reader_readList 3 sp_Reader_readQuoted0 := by
  intro as M K h
  unfold sp_Reader_readQuoted0 at h
  split at h
  · next a o =>
    obtain ⟨rfl, rfl, h⟩ := h
    refine am_entry hG (by decide +kernel) (Nat.le_of_ble_eq_true rfl) ?_
    refine am_go (cuts := k_Reader_readList) (tb_Reader_readList (ok_Reader_fault hG) (by omega) (ok_Tokens_sortOf hG) (by omega) (ok_Reader_add hG) (by omega) (s_Reader_readDatum := fun _ _ _ => False) (d_Reader_readDatum := 0) (fun _ _ _ q => q.elim) (by omega) (ok_Nodes_setHead hG) (by omega) (s_Reader_readDotted := fun _ _ _ => False) (d_Reader_readDotted := 0) (fun _ _ _ q => q.elim) (by omega) (ok_Nodes_setTail hG) (by omega)) 400 _ _ _ _ ?_
    change am_run _ _ _ _ _ _ [some (.ref 11), some (.int 15), none, none, none, none, none, none] [] _
    simp only [q_Reader_readList_66, r_Reader_readList_0, r_Reader_readList_1, r_Reader_readList_3, r_Reader_readList_6, r_Reader_readList_7, r_Reader_readList_10, r_Reader_readList_11, r_Reader_readList_12, r_Reader_readList_15, r_Reader_readList_16, r_Reader_readList_19, r_Reader_readList_20, r_Reader_readList_21, r_Reader_readList_24, r_Reader_readList_26, r_Reader_readList_29, r_Reader_readList_30, r_Reader_readList_31, r_Reader_readList_34, r_Reader_readList_35, r_Reader_readList_36, r_Reader_readList_39, r_Reader_readList_40, r_Reader_readList_41, r_Reader_readList_44, r_Reader_readList_45, r_Reader_readList_46, r_Reader_readList_47, r_Reader_readList_50, r_Reader_readList_51, r_Reader_readList_52, r_Reader_readList_53, r_Reader_readList_54, r_Reader_readList_55, r_Reader_readList_58, r_Reader_readList_59, r_Reader_readList_60, r_Reader_readList_63, r_Reader_readList_64, r_Reader_readList_66, r_Reader_readList_68, r_Reader_readList_71, r_Reader_readList_74, r_Reader_readList_75, r_Reader_readList_76, r_Reader_readList_79, r_Reader_readList_80, r_Reader_readList_81, r_Reader_readList_82, r_Reader_readList_83, r_Reader_readList_86, r_Reader_readList_88, r_Reader_readList_90, r_Reader_readList_91, r_Reader_readList_94, r_Reader_readList_95, r_Reader_readList_96, r_Reader_readList_97, r_Reader_readList_100, r_Reader_readList_101, r_Reader_readList_103, r_Reader_readList_106, r_Reader_readList_107, r_Reader_readList_108, r_Reader_readList_111, r_Reader_readList_112, r_Reader_readList_113, r_Reader_readList_116, r_Reader_readList_117, r_Reader_readList_120, r_Reader_readList_121, r_Reader_readList_124, r_Reader_readList_127, r_Reader_readList_129, r_Reader_readList_131, r_Reader_readList_133, r_Reader_readList_136, r_Reader_readList_138, r_Reader_readList_140, r_Reader_readList_143, r_Reader_readList_145, r_Reader_readList_147, r_Reader_readList_150, r_Reader_readList_151, r_Reader_readList_152, r_Reader_readList_155, r_Reader_readList_158, r_Reader_readList_159, r_Reader_readList_160, r_Reader_readList_163, r_Reader_readList_165, r_Reader_readList_166, r_Reader_readList_169, r_Reader_readList_170, r_Reader_readList_172, r_Reader_readList_175, r_Reader_readList_177, r_Reader_readList_178, r_Reader_readList_181, r_Reader_readList_182, r_Reader_readList_185, r_Reader_readList_186, r_Reader_readList_187, r_Reader_readList_188, r_Reader_readList_189, r_Reader_readList_192, r_Reader_readList_194, r_Reader_readList_195, r_Reader_readList_198, r_Reader_readList_199, r_Reader_readList_201, r_Reader_readList_204, r_Reader_readList_206, r_Reader_readList_207, r_Reader_readList_210, r_Reader_readList_213, r_Reader_readList_214, ai_iload, ai_const, ai_cmplt, ai_aload, ai_callv1, am_push, am_few, ai_iret, ai_getf, ai_iadd, ai_bin, ai_callv2, ai_cmpne, ai_dup, am_c1, ai_putf, ai_istore, am_cut_0, am_cut_s, ai_cmpge, ai_cmpeq, ai_callv3, ai_goto, ai_iinc, kd_0, fd_0_0, fd_0_1, fd_0_2, fd_0_3, fd_0_4, kd_1, fd_1_0, fd_1_1, ln_2, kd_3, fd_3_0, fd_3_1, fd_3_2, fd_3_3, fd_3_4, fd_3_5, fd_3_6, fd_3_7, fd_3_8, fd_3_9, ln_4, ln_5, ln_6, ln_7, ln_8, ln_9, ln_10, kd_11, fd_11_0, fd_11_1, fd_11_2, fd_11_3, fd_11_4, kd_12, fd_12_0, fd_12_1, fd_12_2, fd_12_3, ln_13, ln_14, ln_15, kd_16, fd_16_0, fd_16_1, fd_16_2, ln_17, kd_18, fd_18_0, fd_18_1, kd_19, fd_19_0, fd_19_1, fd_19_2, fd_19_3, fd_19_4, fd_19_5, fd_19_6, fd_19_7, fd_19_8, fd_19_9, fd_19_10, fd_19_11, fd_19_12, fd_19_13, fd_19_14, fd_19_15, fd_19_16, fd_19_17, fd_19_18, fd_19_19, fd_19_20, ln_20, ln_21, ln_22, ln_23, ln_24, ln_25, ln_26, ln_27, ln_28, ln_29, ln_30, ln_31, ln_32, List.getElem?_cons_zero, List.getElem?_cons_succ, List.set_cons_zero, List.set_cons_succ, true_and, and_true, ↓reduceIte, Int32.reduceLT, Int32.reduceLE, li_10, or_true, true_or, ↓sp_Reader_fault]
    exact h
  · cases h
set_option maxRecDepth 100000 in
set_option maxHeartbeats 4000000 in
theorem lp_Reader_readList {G : aG} (hG : am_ok G) {K : aR} {j : Nat} (hj : j + 1 ≤ 15) (hI : am_Sp G Y_Reader_readDatum (dD j) (sp_Reader_readDatum j)) {first : Int32} : ∀ (r k : Nat) (last : Int32) (M : aM) (o5 o6 o7 : Option Value), k + r = 200 → K (some (.int (r_ll (rdD j) first r last M).1)) (r_ll (rdD j) first r last M).2 → am_X G Y_Reader_readList (dD j + 2) K 66 [some (.ref 11), some (.int (nI (15 - (j + 1)))), some (.int first), some (.int last), some (.int (nI k)), o5, o6, o7] [] M := by
  intro r
  have e3 : nI (15 - (j + 1)) + 1 = nI (15 - j) := by rw [nI_1, show 15 - (j + 1) + 1 = 15 - j by omega]
  have hj2 : j ≤ 15 := by omega
  induction r with
  | zero =>
    intro k last M o5 o6 o7 hk h
    have e1 : ¬ nI k < 200 := nI_nlt (b := 200) (a := k) (by omega) (by omega)
    refine am_from (tb_Reader_readList (ok_Reader_fault hG) (by unfold dD; omega) (ok_Tokens_sortOf hG) (by unfold dD; omega) (ok_Reader_add hG) (by unfold dD; omega) hI (by omega) (ok_Nodes_setHead hG) (by unfold dD; omega) (ok_Reader_readDotted hG hI) (by omega) (ok_Nodes_setTail hG) (by unfold dD; omega)) k_Reader_readList 400 ?_
    simp only [q_Reader_readList_66, r_Reader_readList_0, r_Reader_readList_1, r_Reader_readList_3, r_Reader_readList_6, r_Reader_readList_7, r_Reader_readList_10, r_Reader_readList_11, r_Reader_readList_12, r_Reader_readList_15, r_Reader_readList_16, r_Reader_readList_19, r_Reader_readList_20, r_Reader_readList_21, r_Reader_readList_24, r_Reader_readList_26, r_Reader_readList_29, r_Reader_readList_30, r_Reader_readList_31, r_Reader_readList_34, r_Reader_readList_35, r_Reader_readList_36, r_Reader_readList_39, r_Reader_readList_40, r_Reader_readList_41, r_Reader_readList_44, r_Reader_readList_45, r_Reader_readList_46, r_Reader_readList_47, r_Reader_readList_50, r_Reader_readList_51, r_Reader_readList_52, r_Reader_readList_53, r_Reader_readList_54, r_Reader_readList_55, r_Reader_readList_58, r_Reader_readList_59, r_Reader_readList_60, r_Reader_readList_63, r_Reader_readList_64, r_Reader_readList_66, r_Reader_readList_68, r_Reader_readList_71, r_Reader_readList_74, r_Reader_readList_75, r_Reader_readList_76, r_Reader_readList_79, r_Reader_readList_80, r_Reader_readList_81, r_Reader_readList_82, r_Reader_readList_83, r_Reader_readList_86, r_Reader_readList_88, r_Reader_readList_90, r_Reader_readList_91, r_Reader_readList_94, r_Reader_readList_95, r_Reader_readList_96, r_Reader_readList_97, r_Reader_readList_100, r_Reader_readList_101, r_Reader_readList_103, r_Reader_readList_106, r_Reader_readList_107, r_Reader_readList_108, r_Reader_readList_111, r_Reader_readList_112, r_Reader_readList_113, r_Reader_readList_116, r_Reader_readList_117, r_Reader_readList_120, r_Reader_readList_121, r_Reader_readList_124, r_Reader_readList_127, r_Reader_readList_129, r_Reader_readList_131, r_Reader_readList_133, r_Reader_readList_136, r_Reader_readList_138, r_Reader_readList_140, r_Reader_readList_143, r_Reader_readList_145, r_Reader_readList_147, r_Reader_readList_150, r_Reader_readList_151, r_Reader_readList_152, r_Reader_readList_155, r_Reader_readList_158, r_Reader_readList_159, r_Reader_readList_160, r_Reader_readList_163, r_Reader_readList_165, r_Reader_readList_166, r_Reader_readList_169, r_Reader_readList_170, r_Reader_readList_172, r_Reader_readList_175, r_Reader_readList_177, r_Reader_readList_178, r_Reader_readList_181, r_Reader_readList_182, r_Reader_readList_185, r_Reader_readList_186, r_Reader_readList_187, r_Reader_readList_188, r_Reader_readList_189, r_Reader_readList_192, r_Reader_readList_194, r_Reader_readList_195, r_Reader_readList_198, r_Reader_readList_199, r_Reader_readList_201, r_Reader_readList_204, r_Reader_readList_206, r_Reader_readList_207, r_Reader_readList_210, r_Reader_readList_213, r_Reader_readList_214, ai_iload, ai_const, ai_cmplt, ai_aload, ai_callv1, am_push, am_few, ai_iret, ai_getf, ai_iadd, ai_bin, ai_callv2, ai_cmpne, ai_dup, am_c1, ai_putf, ai_istore, am_cut_0, am_cut_s, ai_cmpge, ai_cmpeq, ai_callv3, ai_goto, ai_iinc, kd_0, fd_0_0, fd_0_1, fd_0_2, fd_0_3, fd_0_4, kd_1, fd_1_0, fd_1_1, ln_2, kd_3, fd_3_0, fd_3_1, fd_3_2, fd_3_3, fd_3_4, fd_3_5, fd_3_6, fd_3_7, fd_3_8, fd_3_9, ln_4, ln_5, ln_6, ln_7, ln_8, ln_9, ln_10, kd_11, fd_11_0, fd_11_1, fd_11_2, fd_11_3, fd_11_4, kd_12, fd_12_0, fd_12_1, fd_12_2, fd_12_3, ln_13, ln_14, ln_15, kd_16, fd_16_0, fd_16_1, fd_16_2, ln_17, kd_18, fd_18_0, fd_18_1, kd_19, fd_19_0, fd_19_1, fd_19_2, fd_19_3, fd_19_4, fd_19_5, fd_19_6, fd_19_7, fd_19_8, fd_19_9, fd_19_10, fd_19_11, fd_19_12, fd_19_13, fd_19_14, fd_19_15, fd_19_16, fd_19_17, fd_19_18, fd_19_19, fd_19_20, ln_20, ln_21, ln_22, ln_23, ln_24, ln_25, ln_26, ln_27, ln_28, ln_29, ln_30, ln_31, ln_32, List.getElem?_cons_zero, List.getElem?_cons_succ, List.set_cons_zero, List.set_cons_succ, true_and, and_true, ↓reduceIte, Int32.reduceLT, Int32.reduceLE, li_10, or_true, true_or, e1]
    exact h
  | succ r ih =>
    intro k last M o5 o6 o7 hk h
    have e1 : nI k < 200 := nI_lt (b := 200) (by omega) (by decide)
    simp only [r_ll] at h
    by_cases c1 : last = -1
    · rw [if_pos c1] at h
      have c1' : (last = -1) = True := eq_true c1
      refine am_from (tb_Reader_readList (ok_Reader_fault hG) (by unfold dD; omega) (ok_Tokens_sortOf hG) (by unfold dD; omega) (ok_Reader_add hG) (by unfold dD; omega) hI (by omega) (ok_Nodes_setHead hG) (by unfold dD; omega) (ok_Reader_readDotted hG hI) (by omega) (ok_Nodes_setTail hG) (by unfold dD; omega)) k_Reader_readList 400 ?_
      simp only [q_Reader_readList_66, r_Reader_readList_0, r_Reader_readList_1, r_Reader_readList_3, r_Reader_readList_6, r_Reader_readList_7, r_Reader_readList_10, r_Reader_readList_11, r_Reader_readList_12, r_Reader_readList_15, r_Reader_readList_16, r_Reader_readList_19, r_Reader_readList_20, r_Reader_readList_21, r_Reader_readList_24, r_Reader_readList_26, r_Reader_readList_29, r_Reader_readList_30, r_Reader_readList_31, r_Reader_readList_34, r_Reader_readList_35, r_Reader_readList_36, r_Reader_readList_39, r_Reader_readList_40, r_Reader_readList_41, r_Reader_readList_44, r_Reader_readList_45, r_Reader_readList_46, r_Reader_readList_47, r_Reader_readList_50, r_Reader_readList_51, r_Reader_readList_52, r_Reader_readList_53, r_Reader_readList_54, r_Reader_readList_55, r_Reader_readList_58, r_Reader_readList_59, r_Reader_readList_60, r_Reader_readList_63, r_Reader_readList_64, r_Reader_readList_66, r_Reader_readList_68, r_Reader_readList_71, r_Reader_readList_74, r_Reader_readList_75, r_Reader_readList_76, r_Reader_readList_79, r_Reader_readList_80, r_Reader_readList_81, r_Reader_readList_82, r_Reader_readList_83, r_Reader_readList_86, r_Reader_readList_88, r_Reader_readList_90, r_Reader_readList_91, r_Reader_readList_94, r_Reader_readList_95, r_Reader_readList_96, r_Reader_readList_97, r_Reader_readList_100, r_Reader_readList_101, r_Reader_readList_103, r_Reader_readList_106, r_Reader_readList_107, r_Reader_readList_108, r_Reader_readList_111, r_Reader_readList_112, r_Reader_readList_113, r_Reader_readList_116, r_Reader_readList_117, r_Reader_readList_120, r_Reader_readList_121, r_Reader_readList_124, r_Reader_readList_127, r_Reader_readList_129, r_Reader_readList_131, r_Reader_readList_133, r_Reader_readList_136, r_Reader_readList_138, r_Reader_readList_140, r_Reader_readList_143, r_Reader_readList_145, r_Reader_readList_147, r_Reader_readList_150, r_Reader_readList_151, r_Reader_readList_152, r_Reader_readList_155, r_Reader_readList_158, r_Reader_readList_159, r_Reader_readList_160, r_Reader_readList_163, r_Reader_readList_165, r_Reader_readList_166, r_Reader_readList_169, r_Reader_readList_170, r_Reader_readList_172, r_Reader_readList_175, r_Reader_readList_177, r_Reader_readList_178, r_Reader_readList_181, r_Reader_readList_182, r_Reader_readList_185, r_Reader_readList_186, r_Reader_readList_187, r_Reader_readList_188, r_Reader_readList_189, r_Reader_readList_192, r_Reader_readList_194, r_Reader_readList_195, r_Reader_readList_198, r_Reader_readList_199, r_Reader_readList_201, r_Reader_readList_204, r_Reader_readList_206, r_Reader_readList_207, r_Reader_readList_210, r_Reader_readList_213, r_Reader_readList_214, ai_iload, ai_const, ai_cmplt, ai_aload, ai_callv1, am_push, am_few, ai_iret, ai_getf, ai_iadd, ai_bin, ai_callv2, ai_cmpne, ai_dup, am_c1, ai_putf, ai_istore, am_cut_0, am_cut_s, ai_cmpge, ai_cmpeq, ai_callv3, ai_goto, ai_iinc, kd_0, fd_0_0, fd_0_1, fd_0_2, fd_0_3, fd_0_4, kd_1, fd_1_0, fd_1_1, ln_2, kd_3, fd_3_0, fd_3_1, fd_3_2, fd_3_3, fd_3_4, fd_3_5, fd_3_6, fd_3_7, fd_3_8, fd_3_9, ln_4, ln_5, ln_6, ln_7, ln_8, ln_9, ln_10, kd_11, fd_11_0, fd_11_1, fd_11_2, fd_11_3, fd_11_4, kd_12, fd_12_0, fd_12_1, fd_12_2, fd_12_3, ln_13, ln_14, ln_15, kd_16, fd_16_0, fd_16_1, fd_16_2, ln_17, kd_18, fd_18_0, fd_18_1, kd_19, fd_19_0, fd_19_1, fd_19_2, fd_19_3, fd_19_4, fd_19_5, fd_19_6, fd_19_7, fd_19_8, fd_19_9, fd_19_10, fd_19_11, fd_19_12, fd_19_13, fd_19_14, fd_19_15, fd_19_16, fd_19_17, fd_19_18, fd_19_19, fd_19_20, ln_20, ln_21, ln_22, ln_23, ln_24, ln_25, ln_26, ln_27, ln_28, ln_29, ln_30, ln_31, ln_32, List.getElem?_cons_zero, List.getElem?_cons_succ, List.set_cons_zero, List.set_cons_succ, true_and, and_true, ↓reduceIte, Int32.reduceLT, Int32.reduceLE, li_10, or_true, true_or, e1, c1']
      exact h
    · rw [if_neg c1] at h
      by_cases c2 : (rdD j M).1 = -1
      · rw [if_pos c2] at h
        have c2' : ((rdD j M).1 = -1) = True := eq_true c2
        refine am_from (tb_Reader_readList (ok_Reader_fault hG) (by unfold dD; omega) (ok_Tokens_sortOf hG) (by unfold dD; omega) (ok_Reader_add hG) (by unfold dD; omega) hI (by omega) (ok_Nodes_setHead hG) (by unfold dD; omega) (ok_Reader_readDotted hG hI) (by omega) (ok_Nodes_setTail hG) (by unfold dD; omega)) k_Reader_readList 400 ?_
        simp only [q_Reader_readList_66, r_Reader_readList_0, r_Reader_readList_1, r_Reader_readList_3, r_Reader_readList_6, r_Reader_readList_7, r_Reader_readList_10, r_Reader_readList_11, r_Reader_readList_12, r_Reader_readList_15, r_Reader_readList_16, r_Reader_readList_19, r_Reader_readList_20, r_Reader_readList_21, r_Reader_readList_24, r_Reader_readList_26, r_Reader_readList_29, r_Reader_readList_30, r_Reader_readList_31, r_Reader_readList_34, r_Reader_readList_35, r_Reader_readList_36, r_Reader_readList_39, r_Reader_readList_40, r_Reader_readList_41, r_Reader_readList_44, r_Reader_readList_45, r_Reader_readList_46, r_Reader_readList_47, r_Reader_readList_50, r_Reader_readList_51, r_Reader_readList_52, r_Reader_readList_53, r_Reader_readList_54, r_Reader_readList_55, r_Reader_readList_58, r_Reader_readList_59, r_Reader_readList_60, r_Reader_readList_63, r_Reader_readList_64, r_Reader_readList_66, r_Reader_readList_68, r_Reader_readList_71, r_Reader_readList_74, r_Reader_readList_75, r_Reader_readList_76, r_Reader_readList_79, r_Reader_readList_80, r_Reader_readList_81, r_Reader_readList_82, r_Reader_readList_83, r_Reader_readList_86, r_Reader_readList_88, r_Reader_readList_90, r_Reader_readList_91, r_Reader_readList_94, r_Reader_readList_95, r_Reader_readList_96, r_Reader_readList_97, r_Reader_readList_100, r_Reader_readList_101, r_Reader_readList_103, r_Reader_readList_106, r_Reader_readList_107, r_Reader_readList_108, r_Reader_readList_111, r_Reader_readList_112, r_Reader_readList_113, r_Reader_readList_116, r_Reader_readList_117, r_Reader_readList_120, r_Reader_readList_121, r_Reader_readList_124, r_Reader_readList_127, r_Reader_readList_129, r_Reader_readList_131, r_Reader_readList_133, r_Reader_readList_136, r_Reader_readList_138, r_Reader_readList_140, r_Reader_readList_143, r_Reader_readList_145, r_Reader_readList_147, r_Reader_readList_150, r_Reader_readList_151, r_Reader_readList_152, r_Reader_readList_155, r_Reader_readList_158, r_Reader_readList_159, r_Reader_readList_160, r_Reader_readList_163, r_Reader_readList_165, r_Reader_readList_166, r_Reader_readList_169, r_Reader_readList_170, r_Reader_readList_172, r_Reader_readList_175, r_Reader_readList_177, r_Reader_readList_178, r_Reader_readList_181, r_Reader_readList_182, r_Reader_readList_185, r_Reader_readList_186, r_Reader_readList_187, r_Reader_readList_188, r_Reader_readList_189, r_Reader_readList_192, r_Reader_readList_194, r_Reader_readList_195, r_Reader_readList_198, r_Reader_readList_199, r_Reader_readList_201, r_Reader_readList_204, r_Reader_readList_206, r_Reader_readList_207, r_Reader_readList_210, r_Reader_readList_213, r_Reader_readList_214, ai_iload, ai_const, ai_cmplt, ai_aload, ai_callv1, am_push, am_few, ai_iret, ai_getf, ai_iadd, ai_bin, ai_callv2, ai_cmpne, ai_dup, am_c1, ai_putf, ai_istore, am_cut_0, am_cut_s, ai_cmpge, ai_cmpeq, ai_callv3, ai_goto, ai_iinc, kd_0, fd_0_0, fd_0_1, fd_0_2, fd_0_3, fd_0_4, kd_1, fd_1_0, fd_1_1, ln_2, kd_3, fd_3_0, fd_3_1, fd_3_2, fd_3_3, fd_3_4, fd_3_5, fd_3_6, fd_3_7, fd_3_8, fd_3_9, ln_4, ln_5, ln_6, ln_7, ln_8, ln_9, ln_10, kd_11, fd_11_0, fd_11_1, fd_11_2, fd_11_3, fd_11_4, kd_12, fd_12_0, fd_12_1, fd_12_2, fd_12_3, ln_13, ln_14, ln_15, kd_16, fd_16_0, fd_16_1, fd_16_2, ln_17, kd_18, fd_18_0, fd_18_1, kd_19, fd_19_0, fd_19_1, fd_19_2, fd_19_3, fd_19_4, fd_19_5, fd_19_6, fd_19_7, fd_19_8, fd_19_9, fd_19_10, fd_19_11, fd_19_12, fd_19_13, fd_19_14, fd_19_15, fd_19_16, fd_19_17, fd_19_18, fd_19_19, fd_19_20, ln_20, ln_21, ln_22, ln_23, ln_24, ln_25, ln_26, ln_27, ln_28, ln_29, ln_30, ln_31, ln_32, List.getElem?_cons_zero, List.getElem?_cons_succ, List.set_cons_zero, List.set_cons_succ, true_and, and_true, ↓reduceIte, Int32.reduceLT, Int32.reduceLE, li_10, or_true, true_or, ↓sp_Reader_readDatum, e1, e3, hj2, c1, c2']
        exact h
      · rw [if_neg c2] at h
        refine am_from (tb_Reader_readList (ok_Reader_fault hG) (by unfold dD; omega) (ok_Tokens_sortOf hG) (by unfold dD; omega) (ok_Reader_add hG) (by unfold dD; omega) hI (by omega) (ok_Nodes_setHead hG) (by unfold dD; omega) (ok_Reader_readDotted hG hI) (by omega) (ok_Nodes_setTail hG) (by unfold dD; omega)) k_Reader_readList 400 ?_
        simp only [q_Reader_readList_66, r_Reader_readList_0, r_Reader_readList_1, r_Reader_readList_3, r_Reader_readList_6, r_Reader_readList_7, r_Reader_readList_10, r_Reader_readList_11, r_Reader_readList_12, r_Reader_readList_15, r_Reader_readList_16, r_Reader_readList_19, r_Reader_readList_20, r_Reader_readList_21, r_Reader_readList_24, r_Reader_readList_26, r_Reader_readList_29, r_Reader_readList_30, r_Reader_readList_31, r_Reader_readList_34, r_Reader_readList_35, r_Reader_readList_36, r_Reader_readList_39, r_Reader_readList_40, r_Reader_readList_41, r_Reader_readList_44, r_Reader_readList_45, r_Reader_readList_46, r_Reader_readList_47, r_Reader_readList_50, r_Reader_readList_51, r_Reader_readList_52, r_Reader_readList_53, r_Reader_readList_54, r_Reader_readList_55, r_Reader_readList_58, r_Reader_readList_59, r_Reader_readList_60, r_Reader_readList_63, r_Reader_readList_64, r_Reader_readList_66, r_Reader_readList_68, r_Reader_readList_71, r_Reader_readList_74, r_Reader_readList_75, r_Reader_readList_76, r_Reader_readList_79, r_Reader_readList_80, r_Reader_readList_81, r_Reader_readList_82, r_Reader_readList_83, r_Reader_readList_86, r_Reader_readList_88, r_Reader_readList_90, r_Reader_readList_91, r_Reader_readList_94, r_Reader_readList_95, r_Reader_readList_96, r_Reader_readList_97, r_Reader_readList_100, r_Reader_readList_101, r_Reader_readList_103, r_Reader_readList_106, r_Reader_readList_107, r_Reader_readList_108, r_Reader_readList_111, r_Reader_readList_112, r_Reader_readList_113, r_Reader_readList_116, r_Reader_readList_117, r_Reader_readList_120, r_Reader_readList_121, r_Reader_readList_124, r_Reader_readList_127, r_Reader_readList_129, r_Reader_readList_131, r_Reader_readList_133, r_Reader_readList_136, r_Reader_readList_138, r_Reader_readList_140, r_Reader_readList_143, r_Reader_readList_145, r_Reader_readList_147, r_Reader_readList_150, r_Reader_readList_151, r_Reader_readList_152, r_Reader_readList_155, r_Reader_readList_158, r_Reader_readList_159, r_Reader_readList_160, r_Reader_readList_163, r_Reader_readList_165, r_Reader_readList_166, r_Reader_readList_169, r_Reader_readList_170, r_Reader_readList_172, r_Reader_readList_175, r_Reader_readList_177, r_Reader_readList_178, r_Reader_readList_181, r_Reader_readList_182, r_Reader_readList_185, r_Reader_readList_186, r_Reader_readList_187, r_Reader_readList_188, r_Reader_readList_189, r_Reader_readList_192, r_Reader_readList_194, r_Reader_readList_195, r_Reader_readList_198, r_Reader_readList_199, r_Reader_readList_201, r_Reader_readList_204, r_Reader_readList_206, r_Reader_readList_207, r_Reader_readList_210, r_Reader_readList_213, r_Reader_readList_214, ai_iload, ai_const, ai_cmplt, ai_aload, ai_callv1, am_push, am_few, ai_iret, ai_getf, ai_iadd, ai_bin, ai_callv2, ai_cmpne, ai_dup, am_c1, ai_putf, ai_istore, am_cut_0, am_cut_s, ai_cmpge, ai_cmpeq, ai_callv3, ai_goto, ai_iinc, kd_0, fd_0_0, fd_0_1, fd_0_2, fd_0_3, fd_0_4, kd_1, fd_1_0, fd_1_1, ln_2, kd_3, fd_3_0, fd_3_1, fd_3_2, fd_3_3, fd_3_4, fd_3_5, fd_3_6, fd_3_7, fd_3_8, fd_3_9, ln_4, ln_5, ln_6, ln_7, ln_8, ln_9, ln_10, kd_11, fd_11_0, fd_11_1, fd_11_2, fd_11_3, fd_11_4, kd_12, fd_12_0, fd_12_1, fd_12_2, fd_12_3, ln_13, ln_14, ln_15, kd_16, fd_16_0, fd_16_1, fd_16_2, ln_17, kd_18, fd_18_0, fd_18_1, kd_19, fd_19_0, fd_19_1, fd_19_2, fd_19_3, fd_19_4, fd_19_5, fd_19_6, fd_19_7, fd_19_8, fd_19_9, fd_19_10, fd_19_11, fd_19_12, fd_19_13, fd_19_14, fd_19_15, fd_19_16, fd_19_17, fd_19_18, fd_19_19, fd_19_20, ln_20, ln_21, ln_22, ln_23, ln_24, ln_25, ln_26, ln_27, ln_28, ln_29, ln_30, ln_31, ln_32, List.getElem?_cons_zero, List.getElem?_cons_succ, List.set_cons_zero, List.set_cons_succ, true_and, and_true, ↓reduceIte, Int32.reduceLT, Int32.reduceLE, li_10, or_true, true_or, ↓sp_Reader_readDatum, ↓sp_Reader_add, ↓sp_Tokens_sortOf, ↓sp_Nodes_setHead, ↓sp_Nodes_setTail, ↓sp_Reader_readDotted, e1, e3, hj, hj2, c1, c2, nI_1, f_nx, f_tkS]
        have hN : r_hd (rdD j) last M = r_nx (n_set 7 (rdD j M).2 last (rdD j M).1) := rfl
        rw [hN] at h
        generalize r_nx (n_set 7 (rdD j M).2 last (rdD j M).1) = N at h ⊢
        by_cases c3 : tkS N = 7
        · rw [if_pos c3] at h
          simp only [c3, ↓reduceIte]
          unfold r_lE at h
          by_cases c4 : (r_add N 5).1 = -1
          · rw [if_pos c4] at h ⊢; exact h
          · rw [if_neg c4] at h ⊢; exact h
        · rw [if_neg c3] at h
          simp only [c3, ↓reduceIte]
          by_cases c4 : tkS N = 9
          · rw [if_pos c4] at h
            rw [if_pos c4]
            unfold r_lE at h
            by_cases c5 : (r_dot (rdD j) N).1 = -1
            · rw [if_pos c5] at h ⊢; exact h
            · rw [if_neg c5] at h ⊢; exact h
          · rw [if_neg c4] at h
            rw [if_neg c4]
            exact ih (k + 1) _ _ _ _ _ (by omega) h
set_option maxRecDepth 100000 in
set_option maxHeartbeats 4000000 in
theorem ok_Reader_readList {G : aG} (hG : am_ok G) {j : Nat} (hI : am_Sp G Y_Reader_readDatum (dD j) (sp_Reader_readDatum j)) : am_Sp G Y_Reader_readList (dD j + 2) (sp_Reader_readList j) := by
  intro as M K h
  unfold sp_Reader_readList at h
  split at h
  · next a o =>
    obtain ⟨rfl, ⟨rfl, hj⟩, h⟩ := h
    have e1 : nI (15 - (j + 1)) < 15 := nI_lt (b := 15) (by omega) (by decide)
    refine am_entry hG (by decide +kernel) (Nat.le_of_ble_eq_true rfl) ?_
    refine am_go (cuts := k_Reader_readList) (tb_Reader_readList (ok_Reader_fault hG) (by unfold dD; omega) (ok_Tokens_sortOf hG) (by unfold dD; omega) (ok_Reader_add hG) (by unfold dD; omega) hI (by omega) (ok_Nodes_setHead hG) (by unfold dD; omega) (ok_Reader_readDotted hG hI) (by omega) (ok_Nodes_setTail hG) (by unfold dD; omega)) 400 _ _ _ _ ?_
    change am_run _ _ _ _ _ _ [some (.ref 11), some (.int (nI (15 - (j + 1)))), none, none, none, none, none, none] [] _
    simp only [q_Reader_readList_66, r_Reader_readList_0, r_Reader_readList_1, r_Reader_readList_3, r_Reader_readList_6, r_Reader_readList_7, r_Reader_readList_10, r_Reader_readList_11, r_Reader_readList_12, r_Reader_readList_15, r_Reader_readList_16, r_Reader_readList_19, r_Reader_readList_20, r_Reader_readList_21, r_Reader_readList_24, r_Reader_readList_26, r_Reader_readList_29, r_Reader_readList_30, r_Reader_readList_31, r_Reader_readList_34, r_Reader_readList_35, r_Reader_readList_36, r_Reader_readList_39, r_Reader_readList_40, r_Reader_readList_41, r_Reader_readList_44, r_Reader_readList_45, r_Reader_readList_46, r_Reader_readList_47, r_Reader_readList_50, r_Reader_readList_51, r_Reader_readList_52, r_Reader_readList_53, r_Reader_readList_54, r_Reader_readList_55, r_Reader_readList_58, r_Reader_readList_59, r_Reader_readList_60, r_Reader_readList_63, r_Reader_readList_64, r_Reader_readList_66, r_Reader_readList_68, r_Reader_readList_71, r_Reader_readList_74, r_Reader_readList_75, r_Reader_readList_76, r_Reader_readList_79, r_Reader_readList_80, r_Reader_readList_81, r_Reader_readList_82, r_Reader_readList_83, r_Reader_readList_86, r_Reader_readList_88, r_Reader_readList_90, r_Reader_readList_91, r_Reader_readList_94, r_Reader_readList_95, r_Reader_readList_96, r_Reader_readList_97, r_Reader_readList_100, r_Reader_readList_101, r_Reader_readList_103, r_Reader_readList_106, r_Reader_readList_107, r_Reader_readList_108, r_Reader_readList_111, r_Reader_readList_112, r_Reader_readList_113, r_Reader_readList_116, r_Reader_readList_117, r_Reader_readList_120, r_Reader_readList_121, r_Reader_readList_124, r_Reader_readList_127, r_Reader_readList_129, r_Reader_readList_131, r_Reader_readList_133, r_Reader_readList_136, r_Reader_readList_138, r_Reader_readList_140, r_Reader_readList_143, r_Reader_readList_145, r_Reader_readList_147, r_Reader_readList_150, r_Reader_readList_151, r_Reader_readList_152, r_Reader_readList_155, r_Reader_readList_158, r_Reader_readList_159, r_Reader_readList_160, r_Reader_readList_163, r_Reader_readList_165, r_Reader_readList_166, r_Reader_readList_169, r_Reader_readList_170, r_Reader_readList_172, r_Reader_readList_175, r_Reader_readList_177, r_Reader_readList_178, r_Reader_readList_181, r_Reader_readList_182, r_Reader_readList_185, r_Reader_readList_186, r_Reader_readList_187, r_Reader_readList_188, r_Reader_readList_189, r_Reader_readList_192, r_Reader_readList_194, r_Reader_readList_195, r_Reader_readList_198, r_Reader_readList_199, r_Reader_readList_201, r_Reader_readList_204, r_Reader_readList_206, r_Reader_readList_207, r_Reader_readList_210, r_Reader_readList_213, r_Reader_readList_214, ai_iload, ai_const, ai_cmplt, ai_aload, ai_callv1, am_push, am_few, ai_iret, ai_getf, ai_iadd, ai_bin, ai_callv2, ai_cmpne, ai_dup, am_c1, ai_putf, ai_istore, am_cut_0, am_cut_s, ai_cmpge, ai_cmpeq, ai_callv3, ai_goto, ai_iinc, kd_0, fd_0_0, fd_0_1, fd_0_2, fd_0_3, fd_0_4, kd_1, fd_1_0, fd_1_1, ln_2, kd_3, fd_3_0, fd_3_1, fd_3_2, fd_3_3, fd_3_4, fd_3_5, fd_3_6, fd_3_7, fd_3_8, fd_3_9, ln_4, ln_5, ln_6, ln_7, ln_8, ln_9, ln_10, kd_11, fd_11_0, fd_11_1, fd_11_2, fd_11_3, fd_11_4, kd_12, fd_12_0, fd_12_1, fd_12_2, fd_12_3, ln_13, ln_14, ln_15, kd_16, fd_16_0, fd_16_1, fd_16_2, ln_17, kd_18, fd_18_0, fd_18_1, kd_19, fd_19_0, fd_19_1, fd_19_2, fd_19_3, fd_19_4, fd_19_5, fd_19_6, fd_19_7, fd_19_8, fd_19_9, fd_19_10, fd_19_11, fd_19_12, fd_19_13, fd_19_14, fd_19_15, fd_19_16, fd_19_17, fd_19_18, fd_19_19, fd_19_20, ln_20, ln_21, ln_22, ln_23, ln_24, ln_25, ln_26, ln_27, ln_28, ln_29, ln_30, ln_31, ln_32, List.getElem?_cons_zero, List.getElem?_cons_succ, List.set_cons_zero, List.set_cons_succ, true_and, and_true, ↓reduceIte, Int32.reduceLT, Int32.reduceLE, li_10, or_true, true_or, ↓sp_Reader_add, ↓sp_Tokens_sortOf, ↓sp_Reader_fault, e1, f_nx]
    unfold r_lst at h
    by_cases c1 : tk M 13 11 (M 11 3 + 1) = 7
    · rw [if_pos c1] at h ⊢; exact h
    · rw [if_neg c1] at h ⊢
      exact lp_Reader_readList hG hj hI 200 0 _ _ none none none rfl h
  · cases h
set_option maxRecDepth 100000 in
set_option maxHeartbeats 4000000 in
theorem ok_Reader_readDatum {G : aG} (hG : am_ok G) : ∀ j, am_Sp G Y_Reader_readDatum (dD j) (sp_Reader_readDatum j) := by
  intro j
  induction j with
  | zero =>
    intro as M K h
    unfold sp_Reader_readDatum at h
    split at h
    · next a o =>
      obtain ⟨rfl, ⟨rfl, -⟩, h⟩ := h
      simp only [rdD] at h
      refine am_entry hG (by decide +kernel) (Nat.le_of_ble_eq_true rfl) ?_
      refine am_go (cuts := k_Reader_readDatum) (tb_Reader_readDatum (ok_Tokens_sortOf hG) (by unfold dD; omega) (ok_Reader_readNumber hG) (by unfold dD; omega) (ok_Reader_readName hG) (by unfold dD; omega) (ok_Reader_readString hG) (by unfold dD; omega) (ok_Reader_readQuoted0 hG) (by unfold dD; omega) (ok_Reader_readList0 hG) (by unfold dD; omega) (ok_Reader_fault hG) (by unfold dD; omega)) 400 _ _ _ _ ?_
      change am_run _ _ _ _ _ _ [some (.ref 11), some (.int (nI (15 - 0)))] [] _
      simp only [r_Reader_readDatum_0, r_Reader_readDatum_1, r_Reader_readDatum_4, r_Reader_readDatum_5, r_Reader_readDatum_8, r_Reader_readDatum_11, r_Reader_readDatum_56, r_Reader_readDatum_57, r_Reader_readDatum_60, r_Reader_readDatum_61, r_Reader_readDatum_62, r_Reader_readDatum_65, r_Reader_readDatum_66, r_Reader_readDatum_67, r_Reader_readDatum_70, r_Reader_readDatum_71, r_Reader_readDatum_72, r_Reader_readDatum_73, r_Reader_readDatum_76, r_Reader_readDatum_77, r_Reader_readDatum_78, r_Reader_readDatum_79, r_Reader_readDatum_82, r_Reader_readDatum_83, r_Reader_readDatum_84, r_Reader_readDatum_87, ai_aload, ai_getf, ai_callv2, am_push, am_few, ai_switch, am_sw, ai_callv1, ai_iret, ai_iload, kd_0, fd_0_0, fd_0_1, fd_0_2, fd_0_3, fd_0_4, kd_1, fd_1_0, fd_1_1, ln_2, kd_3, fd_3_0, fd_3_1, fd_3_2, fd_3_3, fd_3_4, fd_3_5, fd_3_6, fd_3_7, fd_3_8, fd_3_9, ln_4, ln_5, ln_6, ln_7, ln_8, ln_9, ln_10, kd_11, fd_11_0, fd_11_1, fd_11_2, fd_11_3, fd_11_4, kd_12, fd_12_0, fd_12_1, fd_12_2, fd_12_3, ln_13, ln_14, ln_15, kd_16, fd_16_0, fd_16_1, fd_16_2, ln_17, kd_18, fd_18_0, fd_18_1, kd_19, fd_19_0, fd_19_1, fd_19_2, fd_19_3, fd_19_4, fd_19_5, fd_19_6, fd_19_7, fd_19_8, fd_19_9, fd_19_10, fd_19_11, fd_19_12, fd_19_13, fd_19_14, fd_19_15, fd_19_16, fd_19_17, fd_19_18, fd_19_19, fd_19_20, ln_20, ln_21, ln_22, ln_23, ln_24, ln_25, ln_26, ln_27, ln_28, ln_29, ln_30, ln_31, ln_32, List.getElem?_cons_zero, List.getElem?_cons_succ, List.set_cons_zero, List.set_cons_succ, true_and, and_true, ↓reduceIte, Int32.reduceLT, Int32.reduceLE, li_10, or_true, true_or, ↓sp_Tokens_sortOf, ↓sp_Reader_readNumber, ↓sp_Reader_readName, ↓sp_Reader_readString, ↓sp_Reader_readQuoted0, ↓sp_Reader_fault, f_tkS]
      by_cases c1 : tkS M = 1
      · rw [if_pos c1] at h ⊢; exact h
      rw [if_neg c1] at h ⊢
      by_cases c2 : tkS M = 2
      · rw [if_pos c2] at h ⊢; exact h
      rw [if_neg c2] at h ⊢
      by_cases c3 : tkS M = 3
      · rw [if_pos c3] at h ⊢; exact h
      rw [if_neg c3] at h ⊢
      have e15 : nI (15 - 0) = 15 := rfl
      simp only [e15, true_and, ite_self]
      exact h
    · cases h
  | succ j ih =>
    intro as M K h
    unfold sp_Reader_readDatum at h
    split at h
    · next a o =>
      obtain ⟨rfl, ⟨rfl, hj⟩, h⟩ := h
      simp only [rdD] at h
      refine am_entry hG (by decide +kernel) (Nat.le_of_ble_eq_true rfl) ?_
      refine am_go (cuts := k_Reader_readDatum) (tb_Reader_readDatum (ok_Tokens_sortOf hG) (by unfold dD; omega) (ok_Reader_readNumber hG) (by unfold dD; omega) (ok_Reader_readName hG) (by unfold dD; omega) (ok_Reader_readString hG) (by unfold dD; omega) (ok_Reader_readQuoted hG ih) (by unfold dD; omega) (ok_Reader_readList hG ih) (by unfold dD; omega) (ok_Reader_fault hG) (by unfold dD; omega)) 400 _ _ _ _ ?_
      change am_run _ _ _ _ _ _ [some (.ref 11), some (.int (nI (15 - (j + 1))))] [] _
      simp only [r_Reader_readDatum_0, r_Reader_readDatum_1, r_Reader_readDatum_4, r_Reader_readDatum_5, r_Reader_readDatum_8, r_Reader_readDatum_11, r_Reader_readDatum_56, r_Reader_readDatum_57, r_Reader_readDatum_60, r_Reader_readDatum_61, r_Reader_readDatum_62, r_Reader_readDatum_65, r_Reader_readDatum_66, r_Reader_readDatum_67, r_Reader_readDatum_70, r_Reader_readDatum_71, r_Reader_readDatum_72, r_Reader_readDatum_73, r_Reader_readDatum_76, r_Reader_readDatum_77, r_Reader_readDatum_78, r_Reader_readDatum_79, r_Reader_readDatum_82, r_Reader_readDatum_83, r_Reader_readDatum_84, r_Reader_readDatum_87, ai_aload, ai_getf, ai_callv2, am_push, am_few, ai_switch, am_sw, ai_callv1, ai_iret, ai_iload, kd_0, fd_0_0, fd_0_1, fd_0_2, fd_0_3, fd_0_4, kd_1, fd_1_0, fd_1_1, ln_2, kd_3, fd_3_0, fd_3_1, fd_3_2, fd_3_3, fd_3_4, fd_3_5, fd_3_6, fd_3_7, fd_3_8, fd_3_9, ln_4, ln_5, ln_6, ln_7, ln_8, ln_9, ln_10, kd_11, fd_11_0, fd_11_1, fd_11_2, fd_11_3, fd_11_4, kd_12, fd_12_0, fd_12_1, fd_12_2, fd_12_3, ln_13, ln_14, ln_15, kd_16, fd_16_0, fd_16_1, fd_16_2, ln_17, kd_18, fd_18_0, fd_18_1, kd_19, fd_19_0, fd_19_1, fd_19_2, fd_19_3, fd_19_4, fd_19_5, fd_19_6, fd_19_7, fd_19_8, fd_19_9, fd_19_10, fd_19_11, fd_19_12, fd_19_13, fd_19_14, fd_19_15, fd_19_16, fd_19_17, fd_19_18, fd_19_19, fd_19_20, ln_20, ln_21, ln_22, ln_23, ln_24, ln_25, ln_26, ln_27, ln_28, ln_29, ln_30, ln_31, ln_32, List.getElem?_cons_zero, List.getElem?_cons_succ, List.set_cons_zero, List.set_cons_succ, true_and, and_true, ↓reduceIte, Int32.reduceLT, Int32.reduceLE, li_10, or_true, true_or, ↓sp_Tokens_sortOf, ↓sp_Reader_readNumber, ↓sp_Reader_readName, ↓sp_Reader_readString, ↓sp_Reader_readQuoted, ↓sp_Reader_readList, ↓sp_Reader_fault, f_tkS]
      by_cases c1 : tkS M = 1
      · rw [if_pos c1] at h ⊢; exact h
      rw [if_neg c1] at h ⊢
      by_cases c2 : tkS M = 2
      · rw [if_pos c2] at h ⊢; exact h
      rw [if_neg c2] at h ⊢
      by_cases c3 : tkS M = 3
      · rw [if_pos c3] at h ⊢; exact h
      rw [if_neg c3] at h ⊢
      by_cases c6 : tkS M = 6
      · rw [if_pos c6] at h
        have n4 : ¬ tkS M = 4 := by rw [c6]; decide
        have n5 : ¬ tkS M = 5 := by rw [c6]; decide
        rw [if_neg n4, if_neg n5, if_pos c6]
        exact ⟨hj, h⟩
      rw [if_neg c6] at h
      by_cases c8 : tkS M = 8
      · rw [if_pos c8] at h
        have n4 : ¬ tkS M = 4 := by rw [c8]; decide
        have n5 : ¬ tkS M = 5 := by rw [c8]; decide
        have n7 : ¬ tkS M = 7 := by rw [c8]; decide
        rw [if_neg n4, if_neg n5, if_neg c6, if_neg n7, if_pos c8]
        exact ⟨hj, h⟩
      rw [if_neg c8] at h
      simp only [c6, c8, ↓reduceIte, ite_self]
      exact h
    · cases h
end
section
/-! READING A TEXT, and the desk's own methods -/
def rdL : Nat → aM → aM
  | 0, M => M
  | r + 1, M => if tkS M = 10 then M else if (rdD 15 M).1 = -1 then clrM (rdD 15 M).2 else rdL r (r_nx (n_addD (rdD 15 M).2 (rdD 15 M).1))
def rd0 (M : aM) : aM := am_up (am_up (scanM (clrM M) 401 0 0 (am_up (clrM M) 12 3 0)) 11 4 (-1)) 11 3 0
def rdT (M : aM) : aM := rdL 401 (rd0 M)
def sp_Reader_readText : aS := fun as M K => match as with
  | [.ref a] => a = 11 ∧ tx_ok M ∧ K none (rdT M)
  | _ => False
set_option maxRecDepth 100000 in
set_option maxHeartbeats 4000000 in
theorem lp_Reader_readText {G : aG} (hG : am_ok G) {K : aR} : ∀ (r k : Nat) (M : aM) (o2 : Option Value), k + r = 401 → K none (rdL r M) → am_X G Y_Reader_readText 50 K 30 [some (.ref 11), some (.int (nI k)), o2] [] M := by
  intro r
  have e0 : ((0 : Int32) = nI (15 - 15)) = True := eq_true rfl
  have e5 : (15 ≤ 15) = True := eq_true (Nat.le_refl 15)
  induction r with
  | zero =>
    intro k M o2 hk h
    have e1 : 400 < nI k := by
      have : k = 401 := by omega
      subst this; decide
    refine am_from (tb_Reader_readText (ok_Nodes_clear hG) (by decide) (ok_Tokens_scan hG) (by decide) (ok_Tokens_sortOf hG) (by decide) (ok_Reader_readDatum hG 15) (by decide) (ok_Nodes_addDatum hG) (by decide)) k_Reader_readText 400 ?_
    simp only [q_Reader_readText_30, r_Reader_readText_0, r_Reader_readText_1, r_Reader_readText_4, r_Reader_readText_7, r_Reader_readText_8, r_Reader_readText_11, r_Reader_readText_12, r_Reader_readText_15, r_Reader_readText_18, r_Reader_readText_19, r_Reader_readText_20, r_Reader_readText_23, r_Reader_readText_24, r_Reader_readText_25, r_Reader_readText_28, r_Reader_readText_29, r_Reader_readText_30, r_Reader_readText_31, r_Reader_readText_34, r_Reader_readText_37, r_Reader_readText_38, r_Reader_readText_41, r_Reader_readText_42, r_Reader_readText_45, r_Reader_readText_48, r_Reader_readText_50, r_Reader_readText_53, r_Reader_readText_54, r_Reader_readText_55, r_Reader_readText_58, r_Reader_readText_59, r_Reader_readText_60, r_Reader_readText_61, r_Reader_readText_64, r_Reader_readText_65, r_Reader_readText_68, r_Reader_readText_71, r_Reader_readText_72, r_Reader_readText_73, r_Reader_readText_76, r_Reader_readText_77, r_Reader_readText_80, r_Reader_readText_81, r_Reader_readText_82, r_Reader_readText_85, r_Reader_readText_86, r_Reader_readText_87, r_Reader_readText_90, r_Reader_readText_93, r_Reader_readText_96, ai_aload, ai_getf, ai_callv1, am_push, am_few, ai_callv2, ai_const, ai_putf, ai_istore, am_cut_0, am_cut_s, am_c1, ai_iload, ai_cmpgt, ai_cmpeq, ai_cmpne, ai_vret, ai_dup, ai_iadd, ai_bin, ai_iinc, ai_goto, kd_0, fd_0_0, fd_0_1, fd_0_2, fd_0_3, fd_0_4, kd_1, fd_1_0, fd_1_1, ln_2, kd_3, fd_3_0, fd_3_1, fd_3_2, fd_3_3, fd_3_4, fd_3_5, fd_3_6, fd_3_7, fd_3_8, fd_3_9, ln_4, ln_5, ln_6, ln_7, ln_8, ln_9, ln_10, kd_11, fd_11_0, fd_11_1, fd_11_2, fd_11_3, fd_11_4, kd_12, fd_12_0, fd_12_1, fd_12_2, fd_12_3, ln_13, ln_14, ln_15, kd_16, fd_16_0, fd_16_1, fd_16_2, ln_17, kd_18, fd_18_0, fd_18_1, kd_19, fd_19_0, fd_19_1, fd_19_2, fd_19_3, fd_19_4, fd_19_5, fd_19_6, fd_19_7, fd_19_8, fd_19_9, fd_19_10, fd_19_11, fd_19_12, fd_19_13, fd_19_14, fd_19_15, fd_19_16, fd_19_17, fd_19_18, fd_19_19, fd_19_20, ln_20, ln_21, ln_22, ln_23, ln_24, ln_25, ln_26, ln_27, ln_28, ln_29, ln_30, ln_31, ln_32, List.getElem?_cons_zero, List.getElem?_cons_succ, List.set_cons_zero, List.set_cons_succ, true_and, and_true, ↓reduceIte, Int32.reduceLT, Int32.reduceLE, li_10, or_true, true_or, e1]
    exact h
  | succ r ih =>
    intro k M o2 hk h
    have e1 : ¬ 400 < nI k := by
      have h1 : nI k < 401 := nI_lt (b := 401) (by omega) (by decide)
      intro q
      rw [Int32.lt_iff_toInt_lt] at h1 q
      have e1 : (400 : Int32).toInt = 400 := rfl
      have e2 : (401 : Int32).toInt = 401 := rfl
      omega
    simp only [rdL] at h
    by_cases c1 : tkS M = 10
    · rw [if_pos c1] at h
      have c1' : (tkS M = 10) = True := eq_true c1
      refine am_from (tb_Reader_readText (ok_Nodes_clear hG) (by decide) (ok_Tokens_scan hG) (by decide) (ok_Tokens_sortOf hG) (by decide) (ok_Reader_readDatum hG 15) (by decide) (ok_Nodes_addDatum hG) (by decide)) k_Reader_readText 400 ?_
      simp only [q_Reader_readText_30, r_Reader_readText_0, r_Reader_readText_1, r_Reader_readText_4, r_Reader_readText_7, r_Reader_readText_8, r_Reader_readText_11, r_Reader_readText_12, r_Reader_readText_15, r_Reader_readText_18, r_Reader_readText_19, r_Reader_readText_20, r_Reader_readText_23, r_Reader_readText_24, r_Reader_readText_25, r_Reader_readText_28, r_Reader_readText_29, r_Reader_readText_30, r_Reader_readText_31, r_Reader_readText_34, r_Reader_readText_37, r_Reader_readText_38, r_Reader_readText_41, r_Reader_readText_42, r_Reader_readText_45, r_Reader_readText_48, r_Reader_readText_50, r_Reader_readText_53, r_Reader_readText_54, r_Reader_readText_55, r_Reader_readText_58, r_Reader_readText_59, r_Reader_readText_60, r_Reader_readText_61, r_Reader_readText_64, r_Reader_readText_65, r_Reader_readText_68, r_Reader_readText_71, r_Reader_readText_72, r_Reader_readText_73, r_Reader_readText_76, r_Reader_readText_77, r_Reader_readText_80, r_Reader_readText_81, r_Reader_readText_82, r_Reader_readText_85, r_Reader_readText_86, r_Reader_readText_87, r_Reader_readText_90, r_Reader_readText_93, r_Reader_readText_96, ai_aload, ai_getf, ai_callv1, am_push, am_few, ai_callv2, ai_const, ai_putf, ai_istore, am_cut_0, am_cut_s, am_c1, ai_iload, ai_cmpgt, ai_cmpeq, ai_cmpne, ai_vret, ai_dup, ai_iadd, ai_bin, ai_iinc, ai_goto, kd_0, fd_0_0, fd_0_1, fd_0_2, fd_0_3, fd_0_4, kd_1, fd_1_0, fd_1_1, ln_2, kd_3, fd_3_0, fd_3_1, fd_3_2, fd_3_3, fd_3_4, fd_3_5, fd_3_6, fd_3_7, fd_3_8, fd_3_9, ln_4, ln_5, ln_6, ln_7, ln_8, ln_9, ln_10, kd_11, fd_11_0, fd_11_1, fd_11_2, fd_11_3, fd_11_4, kd_12, fd_12_0, fd_12_1, fd_12_2, fd_12_3, ln_13, ln_14, ln_15, kd_16, fd_16_0, fd_16_1, fd_16_2, ln_17, kd_18, fd_18_0, fd_18_1, kd_19, fd_19_0, fd_19_1, fd_19_2, fd_19_3, fd_19_4, fd_19_5, fd_19_6, fd_19_7, fd_19_8, fd_19_9, fd_19_10, fd_19_11, fd_19_12, fd_19_13, fd_19_14, fd_19_15, fd_19_16, fd_19_17, fd_19_18, fd_19_19, fd_19_20, ln_20, ln_21, ln_22, ln_23, ln_24, ln_25, ln_26, ln_27, ln_28, ln_29, ln_30, ln_31, ln_32, List.getElem?_cons_zero, List.getElem?_cons_succ, List.set_cons_zero, List.set_cons_succ, true_and, and_true, ↓reduceIte, Int32.reduceLT, Int32.reduceLE, li_10, or_true, true_or, ↓sp_Tokens_sortOf, e1, f_tkS, c1']
      exact h
    · rw [if_neg c1] at h
      by_cases c2 : (rdD 15 M).1 = -1
      · rw [if_pos c2] at h
        have c2' : ((rdD 15 M).1 = -1) = True := eq_true c2
        refine am_from (tb_Reader_readText (ok_Nodes_clear hG) (by decide) (ok_Tokens_scan hG) (by decide) (ok_Tokens_sortOf hG) (by decide) (ok_Reader_readDatum hG 15) (by decide) (ok_Nodes_addDatum hG) (by decide)) k_Reader_readText 400 ?_
        simp only [q_Reader_readText_30, r_Reader_readText_0, r_Reader_readText_1, r_Reader_readText_4, r_Reader_readText_7, r_Reader_readText_8, r_Reader_readText_11, r_Reader_readText_12, r_Reader_readText_15, r_Reader_readText_18, r_Reader_readText_19, r_Reader_readText_20, r_Reader_readText_23, r_Reader_readText_24, r_Reader_readText_25, r_Reader_readText_28, r_Reader_readText_29, r_Reader_readText_30, r_Reader_readText_31, r_Reader_readText_34, r_Reader_readText_37, r_Reader_readText_38, r_Reader_readText_41, r_Reader_readText_42, r_Reader_readText_45, r_Reader_readText_48, r_Reader_readText_50, r_Reader_readText_53, r_Reader_readText_54, r_Reader_readText_55, r_Reader_readText_58, r_Reader_readText_59, r_Reader_readText_60, r_Reader_readText_61, r_Reader_readText_64, r_Reader_readText_65, r_Reader_readText_68, r_Reader_readText_71, r_Reader_readText_72, r_Reader_readText_73, r_Reader_readText_76, r_Reader_readText_77, r_Reader_readText_80, r_Reader_readText_81, r_Reader_readText_82, r_Reader_readText_85, r_Reader_readText_86, r_Reader_readText_87, r_Reader_readText_90, r_Reader_readText_93, r_Reader_readText_96, ai_aload, ai_getf, ai_callv1, am_push, am_few, ai_callv2, ai_const, ai_putf, ai_istore, am_cut_0, am_cut_s, am_c1, ai_iload, ai_cmpgt, ai_cmpeq, ai_cmpne, ai_vret, ai_dup, ai_iadd, ai_bin, ai_iinc, ai_goto, kd_0, fd_0_0, fd_0_1, fd_0_2, fd_0_3, fd_0_4, kd_1, fd_1_0, fd_1_1, ln_2, kd_3, fd_3_0, fd_3_1, fd_3_2, fd_3_3, fd_3_4, fd_3_5, fd_3_6, fd_3_7, fd_3_8, fd_3_9, ln_4, ln_5, ln_6, ln_7, ln_8, ln_9, ln_10, kd_11, fd_11_0, fd_11_1, fd_11_2, fd_11_3, fd_11_4, kd_12, fd_12_0, fd_12_1, fd_12_2, fd_12_3, ln_13, ln_14, ln_15, kd_16, fd_16_0, fd_16_1, fd_16_2, ln_17, kd_18, fd_18_0, fd_18_1, kd_19, fd_19_0, fd_19_1, fd_19_2, fd_19_3, fd_19_4, fd_19_5, fd_19_6, fd_19_7, fd_19_8, fd_19_9, fd_19_10, fd_19_11, fd_19_12, fd_19_13, fd_19_14, fd_19_15, fd_19_16, fd_19_17, fd_19_18, fd_19_19, fd_19_20, ln_20, ln_21, ln_22, ln_23, ln_24, ln_25, ln_26, ln_27, ln_28, ln_29, ln_30, ln_31, ln_32, List.getElem?_cons_zero, List.getElem?_cons_succ, List.set_cons_zero, List.set_cons_succ, true_and, and_true, ↓reduceIte, Int32.reduceLT, Int32.reduceLE, li_10, or_true, true_or, ↓sp_Tokens_sortOf, ↓sp_Reader_readDatum, ↓sp_Nodes_clear, e1, f_tkS, c1, e0, e5, c2']
        exact h
      · rw [if_neg c2] at h
        refine am_from (tb_Reader_readText (ok_Nodes_clear hG) (by decide) (ok_Tokens_scan hG) (by decide) (ok_Tokens_sortOf hG) (by decide) (ok_Reader_readDatum hG 15) (by decide) (ok_Nodes_addDatum hG) (by decide)) k_Reader_readText 400 ?_
        simp only [q_Reader_readText_30, r_Reader_readText_0, r_Reader_readText_1, r_Reader_readText_4, r_Reader_readText_7, r_Reader_readText_8, r_Reader_readText_11, r_Reader_readText_12, r_Reader_readText_15, r_Reader_readText_18, r_Reader_readText_19, r_Reader_readText_20, r_Reader_readText_23, r_Reader_readText_24, r_Reader_readText_25, r_Reader_readText_28, r_Reader_readText_29, r_Reader_readText_30, r_Reader_readText_31, r_Reader_readText_34, r_Reader_readText_37, r_Reader_readText_38, r_Reader_readText_41, r_Reader_readText_42, r_Reader_readText_45, r_Reader_readText_48, r_Reader_readText_50, r_Reader_readText_53, r_Reader_readText_54, r_Reader_readText_55, r_Reader_readText_58, r_Reader_readText_59, r_Reader_readText_60, r_Reader_readText_61, r_Reader_readText_64, r_Reader_readText_65, r_Reader_readText_68, r_Reader_readText_71, r_Reader_readText_72, r_Reader_readText_73, r_Reader_readText_76, r_Reader_readText_77, r_Reader_readText_80, r_Reader_readText_81, r_Reader_readText_82, r_Reader_readText_85, r_Reader_readText_86, r_Reader_readText_87, r_Reader_readText_90, r_Reader_readText_93, r_Reader_readText_96, ai_aload, ai_getf, ai_callv1, am_push, am_few, ai_callv2, ai_const, ai_putf, ai_istore, am_cut_0, am_cut_s, am_c1, ai_iload, ai_cmpgt, ai_cmpeq, ai_cmpne, ai_vret, ai_dup, ai_iadd, ai_bin, ai_iinc, ai_goto, kd_0, fd_0_0, fd_0_1, fd_0_2, fd_0_3, fd_0_4, kd_1, fd_1_0, fd_1_1, ln_2, kd_3, fd_3_0, fd_3_1, fd_3_2, fd_3_3, fd_3_4, fd_3_5, fd_3_6, fd_3_7, fd_3_8, fd_3_9, ln_4, ln_5, ln_6, ln_7, ln_8, ln_9, ln_10, kd_11, fd_11_0, fd_11_1, fd_11_2, fd_11_3, fd_11_4, kd_12, fd_12_0, fd_12_1, fd_12_2, fd_12_3, ln_13, ln_14, ln_15, kd_16, fd_16_0, fd_16_1, fd_16_2, ln_17, kd_18, fd_18_0, fd_18_1, kd_19, fd_19_0, fd_19_1, fd_19_2, fd_19_3, fd_19_4, fd_19_5, fd_19_6, fd_19_7, fd_19_8, fd_19_9, fd_19_10, fd_19_11, fd_19_12, fd_19_13, fd_19_14, fd_19_15, fd_19_16, fd_19_17, fd_19_18, fd_19_19, fd_19_20, ln_20, ln_21, ln_22, ln_23, ln_24, ln_25, ln_26, ln_27, ln_28, ln_29, ln_30, ln_31, ln_32, List.getElem?_cons_zero, List.getElem?_cons_succ, List.set_cons_zero, List.set_cons_succ, true_and, and_true, ↓reduceIte, Int32.reduceLT, Int32.reduceLE, li_10, or_true, true_or, ↓sp_Tokens_sortOf, ↓sp_Reader_readDatum, ↓sp_Nodes_addDatum, e1, f_tkS, c1, e0, e5, c2, f_nx, nI_1]
        exact ih (k + 1) _ _ (by omega) h
set_option maxRecDepth 100000 in
set_option maxHeartbeats 4000000 in
theorem ok_Reader_readText {G : aG} (hG : am_ok G) : am_Sp G Y_Reader_readText 50 sp_Reader_readText := by
  intro as M K h
  unfold sp_Reader_readText at h
  split at h
  · next a =>
    obtain ⟨rfl, ht, h⟩ := h
    have ht2 : tx_ok (clrM M) := ht
    refine am_entry hG (by decide +kernel) (Nat.le_of_ble_eq_true rfl) ?_
    refine am_go (cuts := k_Reader_readText) (tb_Reader_readText (ok_Nodes_clear hG) (by decide) (ok_Tokens_scan hG) (by decide) (ok_Tokens_sortOf hG) (by decide) (ok_Reader_readDatum hG 15) (by decide) (ok_Nodes_addDatum hG) (by decide)) 400 _ _ _ _ ?_
    change am_run _ _ _ _ _ _ [some (.ref 11), none, none] [] _
    simp only [q_Reader_readText_30, r_Reader_readText_0, r_Reader_readText_1, r_Reader_readText_4, r_Reader_readText_7, r_Reader_readText_8, r_Reader_readText_11, r_Reader_readText_12, r_Reader_readText_15, r_Reader_readText_18, r_Reader_readText_19, r_Reader_readText_20, r_Reader_readText_23, r_Reader_readText_24, r_Reader_readText_25, r_Reader_readText_28, r_Reader_readText_29, r_Reader_readText_30, r_Reader_readText_31, r_Reader_readText_34, r_Reader_readText_37, r_Reader_readText_38, r_Reader_readText_41, r_Reader_readText_42, r_Reader_readText_45, r_Reader_readText_48, r_Reader_readText_50, r_Reader_readText_53, r_Reader_readText_54, r_Reader_readText_55, r_Reader_readText_58, r_Reader_readText_59, r_Reader_readText_60, r_Reader_readText_61, r_Reader_readText_64, r_Reader_readText_65, r_Reader_readText_68, r_Reader_readText_71, r_Reader_readText_72, r_Reader_readText_73, r_Reader_readText_76, r_Reader_readText_77, r_Reader_readText_80, r_Reader_readText_81, r_Reader_readText_82, r_Reader_readText_85, r_Reader_readText_86, r_Reader_readText_87, r_Reader_readText_90, r_Reader_readText_93, r_Reader_readText_96, ai_aload, ai_getf, ai_callv1, am_push, am_few, ai_callv2, ai_const, ai_putf, ai_istore, am_cut_0, am_cut_s, am_c1, ai_iload, ai_cmpgt, ai_cmpeq, ai_cmpne, ai_vret, ai_dup, ai_iadd, ai_bin, ai_iinc, ai_goto, kd_0, fd_0_0, fd_0_1, fd_0_2, fd_0_3, fd_0_4, kd_1, fd_1_0, fd_1_1, ln_2, kd_3, fd_3_0, fd_3_1, fd_3_2, fd_3_3, fd_3_4, fd_3_5, fd_3_6, fd_3_7, fd_3_8, fd_3_9, ln_4, ln_5, ln_6, ln_7, ln_8, ln_9, ln_10, kd_11, fd_11_0, fd_11_1, fd_11_2, fd_11_3, fd_11_4, kd_12, fd_12_0, fd_12_1, fd_12_2, fd_12_3, ln_13, ln_14, ln_15, kd_16, fd_16_0, fd_16_1, fd_16_2, ln_17, kd_18, fd_18_0, fd_18_1, kd_19, fd_19_0, fd_19_1, fd_19_2, fd_19_3, fd_19_4, fd_19_5, fd_19_6, fd_19_7, fd_19_8, fd_19_9, fd_19_10, fd_19_11, fd_19_12, fd_19_13, fd_19_14, fd_19_15, fd_19_16, fd_19_17, fd_19_18, fd_19_19, fd_19_20, ln_20, ln_21, ln_22, ln_23, ln_24, ln_25, ln_26, ln_27, ln_28, ln_29, ln_30, ln_31, ln_32, List.getElem?_cons_zero, List.getElem?_cons_succ, List.set_cons_zero, List.set_cons_succ, true_and, and_true, ↓reduceIte, Int32.reduceLT, Int32.reduceLE, li_10, or_true, true_or, ↓sp_Nodes_clear, ↓sp_Tokens_scan, ht2]
    exact lp_Reader_readText hG 401 0 _ none rfl h
  · cases h
/-! the desk -/
def sp_Desk_read : aS := fun as M K => match as with
  | [.ref a] => a = 0 ∧ tx_ok M ∧ K (some (.int (if rdT M 11 4 = -1 then rdT M 3 7 else -1))) (am_up (rdT M) 1 1 0)
  | _ => False
set_option maxRecDepth 100000 in
set_option maxHeartbeats 4000000 in
theorem ok_Desk_read {G : aG} (hG : am_ok G) : am_Sp G Y_Desk_read 51 sp_Desk_read := by
  intro as M K h
  unfold sp_Desk_read at h
  split at h
  · next a =>
    obtain ⟨rfl, ht, h⟩ := h
    refine am_entry hG (by decide +kernel) (Nat.le_of_ble_eq_true rfl) ?_
    refine am_go (cuts := k_Desk_read) (tb_Desk_read (ok_Reader_readText hG) (by decide)) 400 _ _ _ _ ?_
    change am_run _ _ _ _ _ _ [some (.ref 0)] [] _
    simp only [r_Desk_read_0, r_Desk_read_1, r_Desk_read_4, r_Desk_read_7, r_Desk_read_8, r_Desk_read_11, r_Desk_read_12, r_Desk_read_15, r_Desk_read_16, r_Desk_read_19, r_Desk_read_22, r_Desk_read_23, r_Desk_read_26, r_Desk_read_27, r_Desk_read_30, r_Desk_read_33, r_Desk_read_36, r_Desk_read_37, ai_aload, ai_getf, ai_callv1, am_push, am_few, ai_const, ai_putf, ai_cmpne, ai_goto, ai_iret, kd_0, fd_0_0, fd_0_1, fd_0_2, fd_0_3, fd_0_4, kd_1, fd_1_0, fd_1_1, ln_2, kd_3, fd_3_0, fd_3_1, fd_3_2, fd_3_3, fd_3_4, fd_3_5, fd_3_6, fd_3_7, fd_3_8, fd_3_9, ln_4, ln_5, ln_6, ln_7, ln_8, ln_9, ln_10, kd_11, fd_11_0, fd_11_1, fd_11_2, fd_11_3, fd_11_4, kd_12, fd_12_0, fd_12_1, fd_12_2, fd_12_3, ln_13, ln_14, ln_15, kd_16, fd_16_0, fd_16_1, fd_16_2, ln_17, kd_18, fd_18_0, fd_18_1, kd_19, fd_19_0, fd_19_1, fd_19_2, fd_19_3, fd_19_4, fd_19_5, fd_19_6, fd_19_7, fd_19_8, fd_19_9, fd_19_10, fd_19_11, fd_19_12, fd_19_13, fd_19_14, fd_19_15, fd_19_16, fd_19_17, fd_19_18, fd_19_19, fd_19_20, ln_20, ln_21, ln_22, ln_23, ln_24, ln_25, ln_26, ln_27, ln_28, ln_29, ln_30, ln_31, ln_32, List.getElem?_cons_zero, List.getElem?_cons_succ, List.set_cons_zero, List.set_cons_succ, true_and, and_true, ↓reduceIte, Int32.reduceLT, Int32.reduceLE, li_10, or_true, true_or, ↓sp_Reader_readText, ht, am_up_ap, Nat.reduceEqDiff]
    generalize rdT M = N at h ⊢
    by_cases c : N 11 4 = -1
    · rw [if_pos c] at h ⊢; exact h
    · rw [if_neg c] at h ⊢; exact h
  · cases h
def sp_Desk_place : aS := fun as M K => match as with
  | [.ref a] => a = 0 ∧ K (some (.int (M 11 4))) M
  | _ => False
set_option maxRecDepth 100000 in
set_option maxHeartbeats 4000000 in
theorem ok_Desk_place {G : aG} (hG : am_ok G) : am_Sp G Y_Desk_place 1 sp_Desk_place := by
  intro as M K h
  unfold sp_Desk_place at h
  split at h
  · next a =>
    obtain ⟨rfl, h⟩ := h
    refine am_entry hG (by decide +kernel) (Nat.le_of_ble_eq_true rfl) ?_
    refine am_go (cuts := k_Desk_place) tb_Desk_place 400 _ _ _ _ ?_
    change am_run _ _ _ _ _ _ [some (.ref 0)] [] _
    simp only [r_Desk_place_0, r_Desk_place_1, r_Desk_place_4, r_Desk_place_7, ai_aload, ai_getf, ai_iret, kd_0, fd_0_0, fd_0_1, fd_0_2, fd_0_3, fd_0_4, kd_1, fd_1_0, fd_1_1, ln_2, kd_3, fd_3_0, fd_3_1, fd_3_2, fd_3_3, fd_3_4, fd_3_5, fd_3_6, fd_3_7, fd_3_8, fd_3_9, ln_4, ln_5, ln_6, ln_7, ln_8, ln_9, ln_10, kd_11, fd_11_0, fd_11_1, fd_11_2, fd_11_3, fd_11_4, kd_12, fd_12_0, fd_12_1, fd_12_2, fd_12_3, ln_13, ln_14, ln_15, kd_16, fd_16_0, fd_16_1, fd_16_2, ln_17, kd_18, fd_18_0, fd_18_1, kd_19, fd_19_0, fd_19_1, fd_19_2, fd_19_3, fd_19_4, fd_19_5, fd_19_6, fd_19_7, fd_19_8, fd_19_9, fd_19_10, fd_19_11, fd_19_12, fd_19_13, fd_19_14, fd_19_15, fd_19_16, fd_19_17, fd_19_18, fd_19_19, fd_19_20, ln_20, ln_21, ln_22, ln_23, ln_24, ln_25, ln_26, ln_27, ln_28, ln_29, ln_30, ln_31, ln_32, List.getElem?_cons_zero, List.getElem?_cons_succ, List.set_cons_zero, List.set_cons_succ, true_and, and_true, ↓reduceIte, Int32.reduceLT, Int32.reduceLE, li_10, or_true, true_or]
    exact h
  · cases h
def sp_Desk_datum : aS := fun as M K => match as with
  | [.ref a, .int k] => a = 0 ∧ K (some (.int (n_data M k))) M
  | _ => False
set_option maxRecDepth 100000 in
set_option maxHeartbeats 4000000 in
theorem ok_Desk_datum {G : aG} (hG : am_ok G) : am_Sp G Y_Desk_datum 2 sp_Desk_datum := by
  intro as M K h
  unfold sp_Desk_datum at h
  split at h
  · next a k =>
    obtain ⟨rfl, h⟩ := h
    refine am_entry hG (by decide +kernel) (Nat.le_of_ble_eq_true rfl) ?_
    refine am_go (cuts := k_Desk_datum) (tb_Desk_datum (ok_Nodes_datumNode hG) (by decide)) 400 _ _ _ _ ?_
    change am_run _ _ _ _ _ _ [some (.ref 0), some (.int k)] [] _
    simp only [r_Desk_datum_0, r_Desk_datum_1, r_Desk_datum_4, r_Desk_datum_5, r_Desk_datum_8, ai_aload, ai_getf, ai_iload, ai_callv2, am_push, am_few, ai_iret, kd_0, fd_0_0, fd_0_1, fd_0_2, fd_0_3, fd_0_4, kd_1, fd_1_0, fd_1_1, ln_2, kd_3, fd_3_0, fd_3_1, fd_3_2, fd_3_3, fd_3_4, fd_3_5, fd_3_6, fd_3_7, fd_3_8, fd_3_9, ln_4, ln_5, ln_6, ln_7, ln_8, ln_9, ln_10, kd_11, fd_11_0, fd_11_1, fd_11_2, fd_11_3, fd_11_4, kd_12, fd_12_0, fd_12_1, fd_12_2, fd_12_3, ln_13, ln_14, ln_15, kd_16, fd_16_0, fd_16_1, fd_16_2, ln_17, kd_18, fd_18_0, fd_18_1, kd_19, fd_19_0, fd_19_1, fd_19_2, fd_19_3, fd_19_4, fd_19_5, fd_19_6, fd_19_7, fd_19_8, fd_19_9, fd_19_10, fd_19_11, fd_19_12, fd_19_13, fd_19_14, fd_19_15, fd_19_16, fd_19_17, fd_19_18, fd_19_19, fd_19_20, ln_20, ln_21, ln_22, ln_23, ln_24, ln_25, ln_26, ln_27, ln_28, ln_29, ln_30, ln_31, ln_32, List.getElem?_cons_zero, List.getElem?_cons_succ, List.set_cons_zero, List.set_cons_succ, true_and, and_true, ↓reduceIte, Int32.reduceLT, Int32.reduceLE, li_10, or_true, true_or, ↓sp_Nodes_datumNode]
    exact h
  · cases h
def sp_Desk_kind : aS := fun as M K => match as with
  | [.ref a, .int k] => a = 0 ∧ K (some (.int (n_kind M k))) M
  | _ => False
set_option maxRecDepth 100000 in
set_option maxHeartbeats 4000000 in
theorem ok_Desk_kind {G : aG} (hG : am_ok G) : am_Sp G Y_Desk_kind 2 sp_Desk_kind := by
  intro as M K h
  unfold sp_Desk_kind at h
  split at h
  · next a k =>
    obtain ⟨rfl, h⟩ := h
    refine am_entry hG (by decide +kernel) (Nat.le_of_ble_eq_true rfl) ?_
    refine am_go (cuts := k_Desk_kind) (tb_Desk_kind (ok_Nodes_kindOf hG) (by decide)) 400 _ _ _ _ ?_
    change am_run _ _ _ _ _ _ [some (.ref 0), some (.int k)] [] _
    simp only [r_Desk_kind_0, r_Desk_kind_1, r_Desk_kind_4, r_Desk_kind_5, r_Desk_kind_8, ai_aload, ai_getf, ai_iload, ai_callv2, am_push, am_few, ai_iret, kd_0, fd_0_0, fd_0_1, fd_0_2, fd_0_3, fd_0_4, kd_1, fd_1_0, fd_1_1, ln_2, kd_3, fd_3_0, fd_3_1, fd_3_2, fd_3_3, fd_3_4, fd_3_5, fd_3_6, fd_3_7, fd_3_8, fd_3_9, ln_4, ln_5, ln_6, ln_7, ln_8, ln_9, ln_10, kd_11, fd_11_0, fd_11_1, fd_11_2, fd_11_3, fd_11_4, kd_12, fd_12_0, fd_12_1, fd_12_2, fd_12_3, ln_13, ln_14, ln_15, kd_16, fd_16_0, fd_16_1, fd_16_2, ln_17, kd_18, fd_18_0, fd_18_1, kd_19, fd_19_0, fd_19_1, fd_19_2, fd_19_3, fd_19_4, fd_19_5, fd_19_6, fd_19_7, fd_19_8, fd_19_9, fd_19_10, fd_19_11, fd_19_12, fd_19_13, fd_19_14, fd_19_15, fd_19_16, fd_19_17, fd_19_18, fd_19_19, fd_19_20, ln_20, ln_21, ln_22, ln_23, ln_24, ln_25, ln_26, ln_27, ln_28, ln_29, ln_30, ln_31, ln_32, List.getElem?_cons_zero, List.getElem?_cons_succ, List.set_cons_zero, List.set_cons_succ, true_and, and_true, ↓reduceIte, Int32.reduceLT, Int32.reduceLE, li_10, or_true, true_or, ↓sp_Nodes_kindOf]
    exact h
  · cases h
def sp_Desk_value : aS := fun as M K => match as with
  | [.ref a, .int k] => a = 0 ∧ K (some (.int (n_amt M k))) M
  | _ => False
set_option maxRecDepth 100000 in
set_option maxHeartbeats 4000000 in
theorem ok_Desk_value {G : aG} (hG : am_ok G) : am_Sp G Y_Desk_value 2 sp_Desk_value := by
  intro as M K h
  unfold sp_Desk_value at h
  split at h
  · next a k =>
    obtain ⟨rfl, h⟩ := h
    refine am_entry hG (by decide +kernel) (Nat.le_of_ble_eq_true rfl) ?_
    refine am_go (cuts := k_Desk_value) (tb_Desk_value (ok_Nodes_amountOf hG) (by decide)) 400 _ _ _ _ ?_
    change am_run _ _ _ _ _ _ [some (.ref 0), some (.int k)] [] _
    simp only [r_Desk_value_0, r_Desk_value_1, r_Desk_value_4, r_Desk_value_5, r_Desk_value_8, ai_aload, ai_getf, ai_iload, ai_callv2, am_push, am_few, ai_iret, kd_0, fd_0_0, fd_0_1, fd_0_2, fd_0_3, fd_0_4, kd_1, fd_1_0, fd_1_1, ln_2, kd_3, fd_3_0, fd_3_1, fd_3_2, fd_3_3, fd_3_4, fd_3_5, fd_3_6, fd_3_7, fd_3_8, fd_3_9, ln_4, ln_5, ln_6, ln_7, ln_8, ln_9, ln_10, kd_11, fd_11_0, fd_11_1, fd_11_2, fd_11_3, fd_11_4, kd_12, fd_12_0, fd_12_1, fd_12_2, fd_12_3, ln_13, ln_14, ln_15, kd_16, fd_16_0, fd_16_1, fd_16_2, ln_17, kd_18, fd_18_0, fd_18_1, kd_19, fd_19_0, fd_19_1, fd_19_2, fd_19_3, fd_19_4, fd_19_5, fd_19_6, fd_19_7, fd_19_8, fd_19_9, fd_19_10, fd_19_11, fd_19_12, fd_19_13, fd_19_14, fd_19_15, fd_19_16, fd_19_17, fd_19_18, fd_19_19, fd_19_20, ln_20, ln_21, ln_22, ln_23, ln_24, ln_25, ln_26, ln_27, ln_28, ln_29, ln_30, ln_31, ln_32, List.getElem?_cons_zero, List.getElem?_cons_succ, List.set_cons_zero, List.set_cons_succ, true_and, and_true, ↓reduceIte, Int32.reduceLT, Int32.reduceLE, li_10, or_true, true_or, ↓sp_Nodes_amountOf]
    exact h
  · cases h
def sp_Desk_byteAt : aS := fun as M K => match as with
  | [.ref a, .int x, .int k] => a = 0 ∧ K (some (.int (n_byte M x k))) M
  | _ => False
set_option maxRecDepth 100000 in
set_option maxHeartbeats 4000000 in
theorem ok_Desk_byteAt {G : aG} (hG : am_ok G) : am_Sp G Y_Desk_byteAt 2 sp_Desk_byteAt := by
  intro as M K h
  unfold sp_Desk_byteAt at h
  split at h
  · next a x k =>
    obtain ⟨rfl, h⟩ := h
    refine am_entry hG (by decide +kernel) (Nat.le_of_ble_eq_true rfl) ?_
    refine am_go (cuts := k_Desk_byteAt) (tb_Desk_byteAt (ok_Nodes_byteOf hG) (by decide)) 400 _ _ _ _ ?_
    change am_run _ _ _ _ _ _ [some (.ref 0), some (.int x), some (.int k)] [] _
    simp only [r_Desk_byteAt_0, r_Desk_byteAt_1, r_Desk_byteAt_4, r_Desk_byteAt_5, r_Desk_byteAt_6, r_Desk_byteAt_9, ai_aload, ai_getf, ai_iload, ai_callv3, am_push, am_few, ai_iret, kd_0, fd_0_0, fd_0_1, fd_0_2, fd_0_3, fd_0_4, kd_1, fd_1_0, fd_1_1, ln_2, kd_3, fd_3_0, fd_3_1, fd_3_2, fd_3_3, fd_3_4, fd_3_5, fd_3_6, fd_3_7, fd_3_8, fd_3_9, ln_4, ln_5, ln_6, ln_7, ln_8, ln_9, ln_10, kd_11, fd_11_0, fd_11_1, fd_11_2, fd_11_3, fd_11_4, kd_12, fd_12_0, fd_12_1, fd_12_2, fd_12_3, ln_13, ln_14, ln_15, kd_16, fd_16_0, fd_16_1, fd_16_2, ln_17, kd_18, fd_18_0, fd_18_1, kd_19, fd_19_0, fd_19_1, fd_19_2, fd_19_3, fd_19_4, fd_19_5, fd_19_6, fd_19_7, fd_19_8, fd_19_9, fd_19_10, fd_19_11, fd_19_12, fd_19_13, fd_19_14, fd_19_15, fd_19_16, fd_19_17, fd_19_18, fd_19_19, fd_19_20, ln_20, ln_21, ln_22, ln_23, ln_24, ln_25, ln_26, ln_27, ln_28, ln_29, ln_30, ln_31, ln_32, List.getElem?_cons_zero, List.getElem?_cons_succ, List.set_cons_zero, List.set_cons_succ, true_and, and_true, ↓reduceIte, Int32.reduceLT, Int32.reduceLE, li_10, or_true, true_or, ↓sp_Nodes_byteOf]
    exact h
  · cases h
def d_part (M : aM) (x k : Int32) : Int32 := if k = 0 then n_head M x else if k = 1 then n_tail M x else -1
def sp_Desk_part : aS := fun as M K => match as with
  | [.ref a, .int x, .int k] => a = 0 ∧ K (some (.int (d_part M x k))) M
  | _ => False
set_option maxRecDepth 100000 in
set_option maxHeartbeats 4000000 in
theorem ok_Desk_part {G : aG} (hG : am_ok G) : am_Sp G Y_Desk_part 2 sp_Desk_part := by
  intro as M K h
  unfold sp_Desk_part at h
  split at h
  · next a x k =>
    obtain ⟨rfl, h⟩ := h
    unfold d_part at h
    refine am_entry hG (by decide +kernel) (Nat.le_of_ble_eq_true rfl) ?_
    refine am_go (cuts := k_Desk_part) (tb_Desk_part (ok_Nodes_headOf hG) (by decide) (ok_Nodes_tailOf hG) (by decide)) 400 _ _ _ _ ?_
    change am_run _ _ _ _ _ _ [some (.ref 0), some (.int x), some (.int k)] [] _
    simp only [r_Desk_part_0, r_Desk_part_1, r_Desk_part_4, r_Desk_part_5, r_Desk_part_8, r_Desk_part_9, r_Desk_part_12, r_Desk_part_13, r_Desk_part_14, r_Desk_part_15, r_Desk_part_18, r_Desk_part_19, r_Desk_part_22, r_Desk_part_23, r_Desk_part_26, r_Desk_part_29, r_Desk_part_30, ai_iload, ai_ifne, ai_aload, ai_getf, ai_callv2, am_push, am_few, ai_iret, ai_const, ai_cmpne, ai_goto, kd_0, fd_0_0, fd_0_1, fd_0_2, fd_0_3, fd_0_4, kd_1, fd_1_0, fd_1_1, ln_2, kd_3, fd_3_0, fd_3_1, fd_3_2, fd_3_3, fd_3_4, fd_3_5, fd_3_6, fd_3_7, fd_3_8, fd_3_9, ln_4, ln_5, ln_6, ln_7, ln_8, ln_9, ln_10, kd_11, fd_11_0, fd_11_1, fd_11_2, fd_11_3, fd_11_4, kd_12, fd_12_0, fd_12_1, fd_12_2, fd_12_3, ln_13, ln_14, ln_15, kd_16, fd_16_0, fd_16_1, fd_16_2, ln_17, kd_18, fd_18_0, fd_18_1, kd_19, fd_19_0, fd_19_1, fd_19_2, fd_19_3, fd_19_4, fd_19_5, fd_19_6, fd_19_7, fd_19_8, fd_19_9, fd_19_10, fd_19_11, fd_19_12, fd_19_13, fd_19_14, fd_19_15, fd_19_16, fd_19_17, fd_19_18, fd_19_19, fd_19_20, ln_20, ln_21, ln_22, ln_23, ln_24, ln_25, ln_26, ln_27, ln_28, ln_29, ln_30, ln_31, ln_32, List.getElem?_cons_zero, List.getElem?_cons_succ, List.set_cons_zero, List.set_cons_succ, true_and, and_true, ↓reduceIte, Int32.reduceLT, Int32.reduceLE, li_10, or_true, true_or, ↓sp_Nodes_headOf, ↓sp_Nodes_tailOf]
    by_cases c : k = 0
    · rw [if_pos c] at h ⊢; exact h
    · rw [if_neg c] at h ⊢
      by_cases c2 : k = 1
      · rw [if_pos c2] at h ⊢; exact h
      · rw [if_neg c2] at h ⊢; exact h
  · cases h
def d_like (M : aM) (x y : Int32) : Bool := hasN M x && (hasN M y && alk M 16 x y)
def sp_Desk_like : aS := fun as M K => match as with
  | [.ref a, .int x, .int y] => a = 0 ∧ K (some (.int (b2 (d_like M x y)))) M
  | _ => False
theorem b2_eq0 (b : Bool) : (b2 b = 0) = (b = false) := by cases b <;> simp [b2]
set_option maxRecDepth 100000 in
set_option maxHeartbeats 4000000 in
theorem ok_Desk_like {G : aG} (hG : am_ok G) : am_Sp G Y_Desk_like 20 sp_Desk_like := by
  intro as M K h
  unfold sp_Desk_like at h
  split at h
  · next a x y =>
    obtain ⟨rfl, h⟩ := h
    have e0 : ((0 : Int32) = nI (16 - 16)) = True := eq_true rfl
    have e5 : (16 ≤ 16) = True := eq_true (Nat.le_refl 16)
    unfold d_like at h
    refine am_entry hG (by decide +kernel) (Nat.le_of_ble_eq_true rfl) ?_
    refine am_go (cuts := k_Desk_like) (tb_Desk_like (ok_Nodes_has hG) (by decide) (ok_Nodes_alike hG 16) (by decide)) 400 _ _ _ _ ?_
    change am_run _ _ _ _ _ _ [some (.ref 0), some (.int x), some (.int y)] [] _
    simp only [r_Desk_like_0, r_Desk_like_1, r_Desk_like_4, r_Desk_like_5, r_Desk_like_8, r_Desk_like_11, r_Desk_like_12, r_Desk_like_15, r_Desk_like_16, r_Desk_like_19, r_Desk_like_22, r_Desk_like_23, r_Desk_like_26, r_Desk_like_27, r_Desk_like_28, r_Desk_like_29, r_Desk_like_32, r_Desk_like_35, r_Desk_like_36, r_Desk_like_39, r_Desk_like_40, ai_aload, ai_getf, ai_iload, ai_callv2, am_push, am_few, ai_ifeq, ai_const, ai_callv4, ai_goto, ai_zret, kd_0, fd_0_0, fd_0_1, fd_0_2, fd_0_3, fd_0_4, kd_1, fd_1_0, fd_1_1, ln_2, kd_3, fd_3_0, fd_3_1, fd_3_2, fd_3_3, fd_3_4, fd_3_5, fd_3_6, fd_3_7, fd_3_8, fd_3_9, ln_4, ln_5, ln_6, ln_7, ln_8, ln_9, ln_10, kd_11, fd_11_0, fd_11_1, fd_11_2, fd_11_3, fd_11_4, kd_12, fd_12_0, fd_12_1, fd_12_2, fd_12_3, ln_13, ln_14, ln_15, kd_16, fd_16_0, fd_16_1, fd_16_2, ln_17, kd_18, fd_18_0, fd_18_1, kd_19, fd_19_0, fd_19_1, fd_19_2, fd_19_3, fd_19_4, fd_19_5, fd_19_6, fd_19_7, fd_19_8, fd_19_9, fd_19_10, fd_19_11, fd_19_12, fd_19_13, fd_19_14, fd_19_15, fd_19_16, fd_19_17, fd_19_18, fd_19_19, fd_19_20, ln_20, ln_21, ln_22, ln_23, ln_24, ln_25, ln_26, ln_27, ln_28, ln_29, ln_30, ln_31, ln_32, List.getElem?_cons_zero, List.getElem?_cons_succ, List.set_cons_zero, List.set_cons_succ, true_and, and_true, ↓reduceIte, Int32.reduceLT, Int32.reduceLE, li_10, or_true, true_or, ↓sp_Nodes_has, ↓sp_Nodes_alike, e0, e5, b2_eq0]
    cases c1 : hasN M x
    · rw [c1] at h; simp [b2] at h ⊢; exact h
    · rw [c1] at h
      cases c2 : hasN M y
      · rw [c2] at h; simp [b2] at h ⊢; exact h
      · rw [c2] at h
        cases c3 : alk M 16 x y
        · rw [c3] at h; simp [b2] at h ⊢; exact h
        · rw [c3] at h; simp [b2] at h ⊢; exact h
  · cases h
def sp_Desk_write : aS := fun as M K => match as with
  | [.ref a, .int x] => a = 0 ∧ wt_ok M ∧ K (some (.int (b2 (hasN M x)))) (if hasN M x = true then saysM M (w_node M 16 x) else M)
  | _ => False
set_option maxRecDepth 100000 in
set_option maxHeartbeats 4000000 in
theorem ok_Desk_write {G : aG} (hG : am_ok G) : am_Sp G Y_Desk_write 37 sp_Desk_write := by
  intro as M K h
  unfold sp_Desk_write at h
  split at h
  · next a x =>
    obtain ⟨rfl, hw, h⟩ := h
    have e0 : ((0 : Int32) = nI (16 - 16)) = True := eq_true rfl
    have e5 : (16 ≤ 16) = True := eq_true (Nat.le_refl 16)
    refine am_entry hG (by decide +kernel) (Nat.le_of_ble_eq_true rfl) ?_
    refine am_go (cuts := k_Desk_write) (tb_Desk_write (ok_Nodes_has hG) (by decide) (ok_Writer_writeNode hG 16) (by decide)) 400 _ _ _ _ ?_
    change am_run _ _ _ _ _ _ [some (.ref 0), some (.int x)] [] _
    simp only [r_Desk_write_0, r_Desk_write_1, r_Desk_write_4, r_Desk_write_5, r_Desk_write_8, r_Desk_write_11, r_Desk_write_12, r_Desk_write_13, r_Desk_write_14, r_Desk_write_17, r_Desk_write_18, r_Desk_write_19, r_Desk_write_22, r_Desk_write_23, ai_aload, ai_getf, ai_iload, ai_callv2, am_push, am_few, ai_ifne, ai_const, ai_zret, ai_callv3, kd_0, fd_0_0, fd_0_1, fd_0_2, fd_0_3, fd_0_4, kd_1, fd_1_0, fd_1_1, ln_2, kd_3, fd_3_0, fd_3_1, fd_3_2, fd_3_3, fd_3_4, fd_3_5, fd_3_6, fd_3_7, fd_3_8, fd_3_9, ln_4, ln_5, ln_6, ln_7, ln_8, ln_9, ln_10, kd_11, fd_11_0, fd_11_1, fd_11_2, fd_11_3, fd_11_4, kd_12, fd_12_0, fd_12_1, fd_12_2, fd_12_3, ln_13, ln_14, ln_15, kd_16, fd_16_0, fd_16_1, fd_16_2, ln_17, kd_18, fd_18_0, fd_18_1, kd_19, fd_19_0, fd_19_1, fd_19_2, fd_19_3, fd_19_4, fd_19_5, fd_19_6, fd_19_7, fd_19_8, fd_19_9, fd_19_10, fd_19_11, fd_19_12, fd_19_13, fd_19_14, fd_19_15, fd_19_16, fd_19_17, fd_19_18, fd_19_19, fd_19_20, ln_20, ln_21, ln_22, ln_23, ln_24, ln_25, ln_26, ln_27, ln_28, ln_29, ln_30, ln_31, ln_32, List.getElem?_cons_zero, List.getElem?_cons_succ, List.set_cons_zero, List.set_cons_succ, true_and, and_true, ↓reduceIte, Int32.reduceLT, Int32.reduceLE, li_10, or_true, true_or, ↓sp_Nodes_has, ↓sp_Writer_writeNode, e0, e5, hw, b2_eq0]
    cases c1 : hasN M x
    · rw [c1] at h; simp [b2] at h ⊢; exact h
    · rw [c1] at h; simp [b2] at h ⊢; exact h
  · cases h
def d_cnt (M : aM) (w : Int32) : Int32 := if w = 0 then M 1 1 else if w = 1 then M 3 5 else if w = 2 then M 3 7 else if w = 3 then M 16 2 else -1
def sp_Desk_count : aS := fun as M K => match as with
  | [.ref a, .int w] => a = 0 ∧ K (some (.int (d_cnt M w))) M
  | _ => False
set_option maxRecDepth 100000 in
set_option maxHeartbeats 4000000 in
theorem ok_Desk_count {G : aG} (hG : am_ok G) : am_Sp G Y_Desk_count 1 sp_Desk_count := by
  intro as M K h
  unfold sp_Desk_count at h
  split at h
  · next a w =>
    obtain ⟨rfl, h⟩ := h
    unfold d_cnt at h
    refine am_entry hG (by decide +kernel) (Nat.le_of_ble_eq_true rfl) ?_
    refine am_go (cuts := k_Desk_count) tb_Desk_count 400 _ _ _ _ ?_
    change am_run _ _ _ _ _ _ [some (.ref 0), some (.int w)] [] _
    simp only [r_Desk_count_0, r_Desk_count_1, r_Desk_count_32, r_Desk_count_33, r_Desk_count_36, r_Desk_count_39, r_Desk_count_40, r_Desk_count_41, r_Desk_count_44, r_Desk_count_47, r_Desk_count_48, r_Desk_count_49, r_Desk_count_52, r_Desk_count_55, r_Desk_count_56, r_Desk_count_57, r_Desk_count_60, r_Desk_count_63, r_Desk_count_64, r_Desk_count_65, ai_iload, ai_switch, am_sw, ai_aload, ai_getf, ai_iret, ai_const, kd_0, fd_0_0, fd_0_1, fd_0_2, fd_0_3, fd_0_4, kd_1, fd_1_0, fd_1_1, ln_2, kd_3, fd_3_0, fd_3_1, fd_3_2, fd_3_3, fd_3_4, fd_3_5, fd_3_6, fd_3_7, fd_3_8, fd_3_9, ln_4, ln_5, ln_6, ln_7, ln_8, ln_9, ln_10, kd_11, fd_11_0, fd_11_1, fd_11_2, fd_11_3, fd_11_4, kd_12, fd_12_0, fd_12_1, fd_12_2, fd_12_3, ln_13, ln_14, ln_15, kd_16, fd_16_0, fd_16_1, fd_16_2, ln_17, kd_18, fd_18_0, fd_18_1, kd_19, fd_19_0, fd_19_1, fd_19_2, fd_19_3, fd_19_4, fd_19_5, fd_19_6, fd_19_7, fd_19_8, fd_19_9, fd_19_10, fd_19_11, fd_19_12, fd_19_13, fd_19_14, fd_19_15, fd_19_16, fd_19_17, fd_19_18, fd_19_19, fd_19_20, ln_20, ln_21, ln_22, ln_23, ln_24, ln_25, ln_26, ln_27, ln_28, ln_29, ln_30, ln_31, ln_32, List.getElem?_cons_zero, List.getElem?_cons_succ, List.set_cons_zero, List.set_cons_succ, true_and, and_true, ↓reduceIte, Int32.reduceLT, Int32.reduceLE, li_10, or_true, true_or]
    by_cases c : w = 0
    · rw [if_pos c] at h ⊢; exact h
    rw [if_neg c] at h ⊢
    by_cases c : w = 1
    · rw [if_pos c] at h ⊢; exact h
    rw [if_neg c] at h ⊢
    by_cases c : w = 2
    · rw [if_pos c] at h ⊢; exact h
    rw [if_neg c] at h ⊢
    by_cases c : w = 3
    · rw [if_pos c] at h ⊢; exact h
    rw [if_neg c] at h ⊢
    exact h
  · cases h
end
section
/-! CONSTRUCTORS: straight lines; the world is a list of cells, new ones are put behind it -/
def ic_C (G : aG) (Y : aY) (A : Nat → Prop) (p : Program) (s : State) (m : MethodId) (args : Array Value) (meth : Method) (c : Code) (ls : Array Slot) : Prop :=
  p.tables.exec = Jvm.exec ∧ c.code = Y.2.1 ∧ c.maxLocals = Y.2.2.1 ∧ meth.sig.returnType = Y.2.2.2 ∧ s.vm.findClass Y.1.cls = some m.cls ∧ (∀ w ∈ TB, w.before args s = true) ∧ meth.locks = false ∧ am_T G s ∧ am_E G (g_B G) s s.heap ∧ (∀ q, A q → g_B G q) ∧ (∀ q, s.heap.size ≤ q → A q) ∧ ls.size = Y.2.2.1
def ic_J (G : aG) (A : Nat → Prop) (p : Program) (e : Env) (R : Room) (s : State) (m : MethodId) (args : Array Value) (below : List Frame) (meth : Method) (c : Code) (ls : Array Slot) (Q : State → Prop) (pc : Nat) (st : List Value) (ws : va_W) (kc ks : Nat) : Prop :=
  ∀ (H : Heap) (locs : List Loc), va_P (g_D G) CL ws H → va_D A ws → va_S A s.heap H locs → W p (g_l G) e R s m args below meth c H locs kc ks Q (F0 m pc ls st)
def ic_room (d mc ms : Nat) : Room := { frames := d, cells := mc, slots := ms, locals := 40 * d }
def ic_P (G : aG) (ws : va_W) (sz : Nat) (U : State) : Prop := U.heap.size = sz ∧ va_P (g_D G) CL ws U.heap ∧ am_T G U ∧ am_E G (g_B G) U U.heap ∧ (∀ q, sz ≤ q → g_B G q) ∧ va_D (g_B G) ws
theorem ic_P.calling {G : aG} {ws : va_W} {sz : Nat} {U : State} {g : JFrame} {mk : MethodId} {a : Array Value} (h : ic_P G ws sz U) : ic_P G ws sz (U.calling g mk a) := by
  obtain ⟨h1, h2, h3, h4, h5, h6⟩ := h
  refine ⟨h1, h2, ⟨va_K.moved (u := U) (U := U.calling g mk a) (Vm.Alike.refl U.vm) h3.1, fun w hw => ⟨(h3.2.1 w hw).1, ?_⟩, vk_R.same (u := U) rfl h3.2.2⟩, am_E.moved (u := U) (U := U.calling g mk a) (Vm.Alike.refl U.vm) h4, h5, h6⟩
  have hn := (h3.2.1 w hw).1
  exact va_Nw.same (u := U) (by cases w <;> first | (cases hn; done) | rfl) rfl (h3.2.1 w hw).2
def ic_Q (G : aG) (x : Nat × va_E) (sz : Nat) (wf : (Nat → Nat) → va_W) : Array Value → State → Outcome → State → Prop := va_Qv (fun _ : Nat → Nat => True) (fun u t => va_P (g_D G) CL (wf u) t.heap ∧ va_D (va_A [x] sz) (wf u)) (va_A [x] sz)
def ic_Met (G : aG) (Z : aY) (d mc ms ci : Nat) (fs0 As : List Value) (wf : Nat → (Nat → Nat) → va_W) : Prop := ∀ h0 sz : Nat, Met (g_l G) Z.1 (am_wd Z) (ic_room d mc ms) (va_Pc (.ref h0 :: As) (ic_P G [(h0, .inr (ci, fs0))] sz)) (ic_Q G (h0, .inr (ci, fs0)) sz (wf h0)) mc ms (va_A [(h0, .inr (ci, fs0))] sz)
theorem ic_fm {α : Type} {f : Nat → Option α} : ∀ {is : List Nat} {l : List α}, is.map f = l.map some → is.filterMap f = l
  | [], [], _ => rfl
  | [], _ :: _, h => by cases h
  | _ :: _, [], h => by cases h
  | i :: is, x :: l, h => by
    simp only [List.map_cons, List.cons.injEq] at h
    rw [List.filterMap_cons, h.1]
    simp only [ic_fm h.2]
section ICR
variable {G : aG} {Y : aY} {A : Nat → Prop} {p : Program} {e : Env} {R : Room} {s : State} {m : MethodId} {args : Array Value} {below : List Frame} {meth : Method} {c : Code} {ls : Array Slot} {Q : State → Prop} {pc nx kc ks : Nat} {st : List Value} {ws : va_W}
theorem ic_aload (C : ic_C G Y A p s m args meth c ls) {q : Fin 4} {k a : Nat} (hd : decode Y.2.1 pc = .ok (.aload_n q, 1)) (hk : (q : Nat) = k) (hl : ls[k]? = some (.val (.ref a))) (hn : nx = pc + 1) (kk : ic_J G A p e R s m args below meth c ls Q nx (.ref a :: st) ws kc ks) : ic_J G A p e R s m args below meth c ls Q pc st ws kc ks := by
  obtain ⟨hx, hb, hml, hr, hown, hts, hlk, hT, hE, hB, hA, hz⟩ := C
  subst hn
  intro H locs hP hD hS
  exact lv_aload_n hx hb hd hk hl (kk H locs hP hD hS)
theorem ic_iconst (C : ic_C G Y A p s m args meth c ls) {n : Int} {v : Int32} (hd : decode Y.2.1 pc = .ok (.iconst n, 1)) (hv : Int32.ofInt n = v) (hn : nx = pc + 1) (kk : ic_J G A p e R s m args below meth c ls Q nx (.int v :: st) ws kc ks) : ic_J G A p e R s m args below meth c ls Q pc st ws kc ks := by
  obtain ⟨hx, hb, hml, hr, hown, hts, hlk, hT, hE, hB, hA, hz⟩ := C
  subst hn
  intro H locs hP hD hS
  exact lv_iconst hx hb hd hv (kk H locs hP hD hS)
theorem ic_bipush (C : ic_C G Y A p s m args meth c ls) {n : Int} {v : Int32} (hd : decode Y.2.1 pc = .ok (.bipush n, 2)) (hv : (Int8.ofInt n).toInt32 = v) (hn : nx = pc + 2) (kk : ic_J G A p e R s m args below meth c ls Q nx (.int v :: st) ws kc ks) : ic_J G A p e R s m args below meth c ls Q pc st ws kc ks := by
  obtain ⟨hx, hb, hml, hr, hown, hts, hlk, hT, hE, hB, hA, hz⟩ := C
  subst hn
  intro H locs hP hD hS
  exact lv_bipush hx hb hd hv (kk H locs hP hD hS)
theorem ic_sipush (C : ic_C G Y A p s m args meth c ls) {n : Int} {v : Int32} (hd : decode Y.2.1 pc = .ok (.sipush n, 3)) (hv : (Int16.ofInt n).toInt32 = v) (hn : nx = pc + 3) (kk : ic_J G A p e R s m args below meth c ls Q nx (.int v :: st) ws kc ks) : ic_J G A p e R s m args below meth c ls Q pc st ws kc ks := by
  obtain ⟨hx, hb, hml, hr, hown, hts, hlk, hT, hE, hB, hA, hz⟩ := C
  subst hn
  intro H locs hP hD hS
  exact lv_sipush hx hb hd hv (kk H locs hP hD hS)
theorem ic_dup (C : ic_C G Y A p s m args meth c ls) {a : Nat} (hd : decode Y.2.1 pc = .ok (.dup, 1)) (hn : nx = pc + 1) (kk : ic_J G A p e R s m args below meth c ls Q nx (.ref a :: .ref a :: st) ws kc ks) : ic_J G A p e R s m args below meth c ls Q pc (.ref a :: st) ws kc ks := by
  obtain ⟨hx, hb, hml, hr, hown, hts, hlk, hT, hE, hB, hA, hz⟩ := C
  subst hn
  intro H locs hP hD hS
  exact lv_dup hx hb hd rfl (kk H locs hP hD hS)
theorem ic_iadd (C : ic_C G Y A p s m args meth c ls) {x y v : Int32} (hd : decode Y.2.1 pc = .ok (.iadd, 1)) (hv : x + y = v) (hn : nx = pc + 1) (kk : ic_J G A p e R s m args below meth c ls Q nx (.int v :: st) ws kc ks) : ic_J G A p e R s m args below meth c ls Q pc (.int y :: .int x :: st) ws kc ks := by
  obtain ⟨hx, hb, hml, hr, hown, hts, hlk, hT, hE, hB, hA, hz⟩ := C
  subst hn
  subst hv
  intro H locs hP hD hS
  exact lv_iadd hx hb hd (kk H locs hP hD hS)
theorem ic_objInit (C : ic_C G Y A p s m args meth c ls) {ix a : Nat} (hlink : Cond.methodLink Y.1.cls ix Lib.objectInit ∈ TB) (hinst : Cond.instanceMethod Lib.objectInit ∈ TB) (hcode : Cond.code Lib.objectInit ⟨#[0xb1]⟩ 1 none ∈ TB) (hf : 1 ≤ R.frames) (hlo : 12 ≤ R.locals) (hd : decode Y.2.1 pc = .ok (.invokespecial ix, 3)) (hn : nx = pc + 3) (kk : ic_J G A p e R s m args below meth c ls Q nx [] ws kc ks) : ic_J G A p e R s m args below meth c ls Q pc [.ref a] ws kc ks := by
  obtain ⟨hx, hb, hml, hr, hown, hts, hlk, hT, hE, hB, hA, hz⟩ := C
  subst hn
  intro H locs hP hD hS
  refine W.objInit hx hb hown (hts _ hlink) (hts _ hinst) (hts _ hcode) rfl (by rw [hml]; exact hz) rfl hd hf (by show 2 * 0 + 0 + 12 ≤ R.locals; omega) ?_
  exact W.eq (g2 := F0 m (pc + 3) ls []) rfl (kk H locs hP hD hS)
theorem ic_newa (C : ic_C G Y A p s m args meth c ls) {n : Int32} {N : Nat} (harr : Cond.arrayClass .int ∈ TB) (hn : ¬ n < 0) (hN : n.toNatClampNeg = N) (hbytes : N * componentBytes .int ≤ 536870912) (hcells : kc + 1 ≤ R.cells) (hslots : ks + N ≤ R.slots) (hd : decode Y.2.1 pc = .ok (.newarray .int, 2)) (hnx : nx = pc + 2) (kk : ∀ q : Nat, ic_J G A p e R s m args below meth c ls Q nx (.ref q :: st) (ws ++ [(q, .inl (g_c G, N, .inl (fun _ => 0)))]) (kc + 1) (ks + N)) : ic_J G A p e R s m args below meth c ls Q pc (.int n :: st) ws kc ks := by
  obtain ⟨hx, hb, hml, hr, hown, hts, hlk, hT, hE, hB, hA, hz⟩ := C
  subst hnx
  intro H locs hP hD hS
  refine va_newa (a0 := (N, .inl (fun _ => 0))) hx hb (atype := .int) (hts _ harr) rfl hT.1 hP hD hS hA (fun cA => rfl) hn hN hbytes hcells hslots hd (fun q cA H1 hK1 hP1 hD1 hS1 => ?_)
  have e1 : s.vm.findClass ("[" ++ FieldType.int.toString) = some (g_c G) := (hT.1.2 0 _ rfl).2
  have e2 : s.vm.findClass ("[" ++ FieldType.int.toString) = some cA := (hK1.2 1 _ rfl).2
  have e3 : cA = g_c G := Option.some.inj (e2.symm.trans e1)
  subst e3
  exact kk q H1 locs hP1 hD1 hS1
theorem ic_new (C : ic_C G Y A p s m args meth c ls) {Cn : String} {T : u_T} {N ci ix : Nat} (ty : Nat → FieldType) {fs : List Value} (hcl : CL[ci]? = some (Cn, T, N)) (hin : ∀ w ∈ u_ws Cn T N, w ∈ TB) (hty : ∀ k, k < N → parseFieldDescriptor (T k).2.2.1 = some (ty k)) (hlink : Cond.classLink Y.1.cls ix Cn ∈ TB) (hinst : Cond.instantiable Cn N ∈ TB) (hini : Cond.initialized Cn ∈ TB) (hfs : ∀ j, j < N → defaultValue (ty j) = vp_V fs j) (hcells : kc + 1 ≤ R.cells) (hslots : ks + N ≤ R.slots) (hd : decode Y.2.1 pc = .ok (.new ix, 3)) (hnx : nx = pc + 3) (kk : ∀ q : Nat, ic_J G A p e R s m args below meth c ls Q nx (.ref q :: st) (ws ++ [(q, .inr (ci, fs))]) (kc + 1) (ks + N)) : ic_J G A p e R s m args below meth c ls Q pc st ws kc ks := by
  obtain ⟨hx, hb, hml, hr, hown, hts, hlk, hT, hE, hB, hA, hz⟩ := C
  subst hnx
  intro H locs hP hD hS
  exact va_new (ci := ci) (fs := fs) hx hb hts hin ty hty hown (hts _ hlink) (hts _ hinst) (hts _ hini) hT.1 hP hD hS hA hcl hfs hcells hslots hd (fun q H1 hP1 hD1 hS1 => kk q H1 locs hP1 hD1 hS1)
theorem ic_putF (C : ic_C G Y A p s m args meth c ls) (hin2 : meth.name = "<init>") {Cn : String} {T : u_T} {N ci ix k a q0 : Nat} (ty0 : Nat → FieldType) {fs : List Value} {v : Value} {ty : FieldType} {ws' : va_W} (hcl : CL[ci]? = some (Cn, T, N)) (hin : ∀ w ∈ u_ws Cn T N, w ∈ TB) (hty : ∀ k, k < N → parseFieldDescriptor (T k).2.2.1 = some (ty0 k)) (hnm : ∀ a, a < N → ∀ b, b < N → a ≠ b → (T a).2.1 ≠ (T b).2.1) (he : ws[q0]? = some (a, .inr (ci, fs))) (hk : k < N) (hdc : (T k).1 = Y.1.cls) (hfi : (T k).2.2.2 = true) (hp : parseFieldDescriptor (T k).2.2.1 = some ty) (hna : narrow ty v = v) (hfit : fits ty v = true) (hlen : k < fs.length) (hlink : Cond.fieldLink Y.1.cls ix Y.1.cls (T k).2.1 (T k).2.2.1 ∈ TB) (hw : ws.set q0 (a, .inr (ci, fs.set k v)) = ws') (hd : decode Y.2.1 pc = .ok (.putfield ix, 3)) (hnx : nx = pc + 3) (kk : ic_J G A p e R s m args below meth c ls Q nx st ws' kc ks) : ic_J G A p e R s m args below meth c ls Q pc (v :: .ref a :: st) ws kc ks := by
  obtain ⟨hx, hb, hml, hr, hown, hts, hlk, hT, hE, hB, hA, hz⟩ := C
  subst hnx
  subst hw
  intro H locs hP hD hS
  exact va_putF hx hb hts hin ty0 hty hnm hown hT.1 hP hD hS q0 he hcl k hk (hts _ hlink) (fun _ h9 => by rw [← hdc]; exact h9) hfi hin2 hdc hp hna hfit hlen hd (fun H1 locs1 hP1 hD1 hS1 => kk H1 locs1 hP1 hD1 hS1)
theorem ic_put (C : ic_C G Y A p s m args meth c ls) {Cn : String} {T : u_T} {N ci ix k a q0 : Nat} (ty0 : Nat → FieldType) {fs : List Value} {v : Value} {ty : FieldType} {ws' : va_W} (hcl : CL[ci]? = some (Cn, T, N)) (hin : ∀ w ∈ u_ws Cn T N, w ∈ TB) (hty : ∀ k, k < N → parseFieldDescriptor (T k).2.2.1 = some (ty0 k)) (hnm : ∀ a, a < N → ∀ b, b < N → a ≠ b → (T a).2.1 ≠ (T b).2.1) (he : ws[q0]? = some (a, .inr (ci, fs))) (hk : k < N) (hdc : (T k).1 = Y.1.cls) (hfi : (T k).2.2.2 = false) (hp : parseFieldDescriptor (T k).2.2.1 = some ty) (hna : narrow ty v = v) (hfit : fits ty v = true) (hlen : k < fs.length) (hlink : Cond.fieldLink Y.1.cls ix Y.1.cls (T k).2.1 (T k).2.2.1 ∈ TB) (hw : ws.set q0 (a, .inr (ci, fs.set k v)) = ws') (hd : decode Y.2.1 pc = .ok (.putfield ix, 3)) (hnx : nx = pc + 3) (kk : ic_J G A p e R s m args below meth c ls Q nx st ws' kc ks) : ic_J G A p e R s m args below meth c ls Q pc (v :: .ref a :: st) ws kc ks := by
  obtain ⟨hx, hb, hml, hr, hown, hts, hlk, hT, hE, hB, hA, hz⟩ := C
  subst hnx
  subst hw
  intro H locs hP hD hS
  exact va_put hx hb hts hin ty0 hty hnm hown hT.1 hP hD hS q0 he hcl k hk (hts _ hlink) (fun _ h9 => by rw [← hdc]; exact h9) hfi hp hna hfit hlen hd (fun H1 locs1 hP1 hD1 hS1 => kk H1 locs1 hP1 hD1 hS1)
theorem ic_get (C : ic_C G Y A p s m args meth c ls) {Cn : String} {T : u_T} {N ci ix k a q0 : Nat} {fs : List Value} {v : Value} (hcl : CL[ci]? = some (Cn, T, N)) (hin : ∀ w ∈ u_ws Cn T N, w ∈ TB) (he : ws[q0]? = some (a, .inr (ci, fs))) (hk : k < N) (hdc : (T k).1 = Y.1.cls) (hv : fs[k]? = some v) (hlink : Cond.fieldLink Y.1.cls ix Y.1.cls (T k).2.1 (T k).2.2.1 ∈ TB) (hd : decode Y.2.1 pc = .ok (.getfield ix, 3)) (hnx : nx = pc + 3) (kk : ic_J G A p e R s m args below meth c ls Q nx (v :: st) ws kc ks) : ic_J G A p e R s m args below meth c ls Q pc (.ref a :: st) ws kc ks := by
  obtain ⟨hx, hb, hml, hr, hown, hts, hlk, hT, hE, hB, hA, hz⟩ := C
  subst hnx
  intro H locs hP hD hS
  exact va_get hx hb hts hin hown hT.1 hP q0 he hcl k hk (hts _ hlink) (fun _ h9 => by rw [← hdc]; exact h9) hv hd (kk H locs hP hD hS)
theorem ic_getsN (C : ic_C G Y A p s m args meth c ls) {ix : Nat} {Cn f d host : String} {v : Value} (hm : (Cn, f, d, v) ∈ XS) (hlink : Cond.fieldLinkNest Y.1.cls ix Cn f d host ∈ NWs) (hd : decode Y.2.1 pc = .ok (.getstatic ix, 3)) (hn : nx = pc + 3) (kk : ic_J G A p e R s m args below meth c ls Q nx (am_v (g_a G) v :: st) ws kc ks) : ic_J G A p e R s m args below meth c ls Q pc st ws kc ks := by
  obtain ⟨hx, hb, hml, hr, hown, hts, hlk, hT, hE, hB, hA, hz⟩ := C
  subst hn
  intro H locs hP hD hS
  exact va_getsN hx hb ((hE.2.1 _ hm).narrow hB) hS hown (va_Nw.use rfl (hT.2.1 _ hlink).2) (fun _ h9 => h9) hd (kk H locs hP hD hS)
theorem ic_xlen (C : ic_C G Y A p s m args meth c ls) {a n : Nat} {f : Nat → Int32} (hm : (a, n, f) ∈ am_XA G) (hd : decode Y.2.1 pc = .ok (.arraylength, 1)) (hn : nx = pc + 1) (kk : ic_J G A p e R s m args below meth c ls Q nx (.int (Int32.ofNat n) :: st) ws kc ks) : ic_J G A p e R s m args below meth c ls Q pc (.ref (g_a G a) :: st) ws kc ks := by
  obtain ⟨hx, hb, hml, hr, hown, hts, hlk, hT, hE, hB, hA, hz⟩ := C
  subst hn
  intro H locs hP hD hS
  exact va_tlen hx hb ((hE.1 _ hm).narrow hB) hS rfl hd (kk H locs hP hD hS)
theorem ic_vret {G : aG} {Y : aY} {x : Nat × va_E} {d mc ms : Nat} {p : Program} {e : Env} {s : State} {m : MethodId} {args : Array Value} {below : List Frame} {meth : Method} {c : Code} {ls : Array Slot} {pc : Nat} {ws : va_W} {wf : (Nat → Nat) → va_W} (C : ic_C G Y (va_A [x] s.heap.size) p s m args meth c ls) (u : Nat → Nat) (hw : wf u = ws) (hy : Y.2.2.2 = none) (hd : decode Y.2.1 pc = .ok (.return_, 1)) : ic_J G (va_A [x] s.heap.size) p e (ic_room d mc ms) s m args below meth c ls (MQ below (ic_Q G x s.heap.size wf) args s mc ms (va_A [x] s.heap.size)) pc [] ws mc ms := by
  obtain ⟨hx, hb, hml, hr, hown, hts, hlk, hT, hE, hB, hA, hz⟩ := C
  subst hw
  intro H locs hP hD hS
  exact W.vret (hlocks := hlk) hx hb (hr.trans hy) (fun t ht _ => ⟨⟨u, rfl, trivial, by rw [ht]; exact hP, hD⟩, hS.F ht⟩) hS.2.2 hd
theorem ic_callN (C : ic_C G Y A p s m args meth c ls) {Z : aY} {d mc ms ci ix n b : Nat} {fs0 As : List Value} {wf : Nat → (Nat → Nat) → va_W} {host : String} {wr : va_W} {st0 : List Value} (hM : ic_Met G Z d mc ms ci fs0 As wf) (hcode : Cond.code Z.1 Z.2.1 Z.2.2.1 none ∈ TB) (hzr : Z.2.2.2 = none) (hini : Cond.initialized Z.1.cls ∈ TB) (hinst : Cond.instanceMethod Z.1 ∈ TB) (hlink : Cond.methodLinkNest Y.1.cls ix Z.1 host ∈ NWs) (hnm : Z.1.name = "<init>")
    (hy : Z.1.cls ≠ "java/lang/invoke/MethodHandle" ∧ Z.1.cls ≠ "java/lang/invoke/VarHandle" ∧ (parseMethodDescriptor Z.1.desc).map (fun d => d.parameters.length) = some n) (hRf : d + 1 ≤ R.frames) (hRl : 8 + (Z.2.2.1 + 11) + 40 * d ≤ R.locals) (hRc : kc + mc ≤ R.cells) (hRs : ks + ms ≤ R.slots) (hn : As.length = n) (hst0 : st0 = As.reverse ++ .ref b :: st) (hfew : (st.map fun v => v.category).sum ≤ 8) (isC isR : List Nat) (hC : isC.map (fun i => ws[i]?) = [(b, .inr (ci, fs0))].map some) (hndC : va_nd isC = true) (hR : isR.map (fun i => ws[i]?) = wr.map some) (hnd : va_nd isR = true) (hdis : ∀ i ∈ isR, i ∉ isC) (hd : decode Y.2.1 pc = .ok (.invokespecial ix, 3)) (hnx : nx = pc + 3)
    (kk : ∀ u : Nat → Nat, ic_J G A p e R s m args below meth c ls Q nx st (wr ++ wf b u) (kc + mc) (ks + ms)) : ic_J G A p e R s m args below meth c ls Q pc st0 ws kc ks := by
  obtain ⟨hx, hb, hml, hr, hown, hts, hlk, hT, hE, hB, hA, hz⟩ := C
  subst hnx
  subst hst0
  intro H locs hP hD hS
  have hPc := va_P.sub (ws' := [(b, .inr (ci, fs0))]) hP isC (ic_fm hC)
  have hDc := hD.sub (ws' := [(b, .inr (ci, fs0))]) isC hndC hC
  have hFc := va_free (wc := [(b, .inr (ci, fs0))]) hD hS hA isC hC
  refine va_callv (va_runIN (As := As) (rest := st) ⟨hx, hb, hml, hown, hts⟩ (hM b H.size) ⟨va_cnB n hts (by rw [← hzr] at hcode; exact am_good Z hcode) (by rw [← hzr]; rfl) rfl rfl (hT.2.1 _ hlink).2 (hts _ hini) hy ⟨hRf, hRl⟩, hnm, hts _ hinst⟩ ⟨fun a U g mk q => ⟨q.1, q.2.calling⟩, fun U hU hW => ⟨rfl, by rw [hU], by rw [hU]; exact hPc, hT.warm hW, ?_, ?_, ?_⟩⟩ rfl hn hz rfl (lv_room hfew) hd ⟨hRc, hRs⟩) hS (fun q _ h => hFc q h) hFc (fun u t H1 locs1 ht hvm _ hBB hz1 hk1 hS1 => ?_)
  · rw [hU]
    exact (hE.kept (fun a h1 h2 => hS.2.1 a h1 (fun z => h2 (hB a z)))).moved hW.alike
  · exact fun q hq => hB q (hA q (Nat.le_trans hS.1 hq))
  · exact hDc.weaken (fun k q h1 h2 => hB _ h2)
  · obtain ⟨hP1, hD1⟩ := hBB
    rw [ht] at hP1
    obtain ⟨hP2, hD2⟩ := va_join (wr := wr) (w1 := wf b u) hP hD isC isR hC hR hnd hdis hk1 hFc hP1 hD1
    exact kk u H1 locs1 hP2 hD2 hS1
theorem ic_copy (C : ic_C G Y A p s m args meth c ls) {a0 n0 ix a q1 n1 k : Nat} {f g : Nat → Int32} {n : Int32} {ws' : va_W} (hm : (a0, n0, f) ∈ am_XA G) (hlink : Cond.methodLink Y.1.cls ix arraycopyName ∈ TB) (hnat : Cond.native arraycopyName ∈ TB) (hstat : Cond.static arraycopyName ∈ TB) (hini : Cond.initialized "java/lang/System" ∈ TB) (he : ws[q1]? = some (a, .inl (g_c G, n1, .inl g))) (h3 : ¬ n < 0) (hk : n.toNatClampNeg = k) (h4 : k ≤ n0) (h5 : k ≤ n1) (hf : 1 ≤ R.frames) (hlo : nativeFrameWords "java/lang/System" "arraycopy" 5 + 11 ≤ R.locals) (hw : ws.set q1 (a, .inl (g_c G, n1, .inl (va_cpy f g 0 0 k))) = ws') (hd : decode Y.2.1 pc = .ok (.invokestatic ix, 3)) (hnx : nx = pc + 3) (kk : ic_J G A p e R s m args below meth c ls Q nx [] ws' kc ks) : ic_J G A p e R s m args below meth c ls Q pc [.int n, .int 0, .ref a, .int 0, .ref (g_a G a0)] ws kc ks := by
  obtain ⟨hx, hb, hml, hr, hown, hts, hlk, hT, hE, hB, hA, hz⟩ := C
  subst hnx
  subst hw
  subst hk
  intro H locs hP hD hS T hTH X
  have z0 : (0 : Int32).toNatClampNeg = 0 := rfl
  have hni : n.toInt = (n.toNatClampNeg : Int) := by
    have h0 := Int32.le_iff_toInt_le.mp (Int32.not_lt.mp h3)
    have h1 : (0 : Int) ≤ n.toInt := by simpa using h0
    show n.toInt = ((n.toInt.toNat : Nat) : Int)
    omega
  obtain ⟨scr, hs1, ⟨hs6, k0, hk0, cm0, hkk0⟩, hs3, hs4, -, hs5, hs7⟩ := (hE.1 _ hm).narrow hB
  have hs4 : n0 ≤ scr.slots.size := hs4
  have hs5 : ∀ j : Nat, j < n0 → scr.slots[j]? = some (.int (f j)) := hs5
  have hc0 : H[g_a G a0]? = some scr := by rw [hS.2.1 _ (Array.getElem?_eq_some_iff.mp hs1).1 hs7]; exact hs1
  have hc1 : H[a]? = some (vp_cell (g_c G) (n1, .inl g)) := hP q1 _ he
  obtain ⟨-, k1, hk1, cm1, hkk1⟩ := (hT.1.2 0 _ rfl).1 n1 (fun j => .int (g j))
  obtain ⟨vm1, X1, step⟩ := X.arraycopy hx hown (hts _ hlink) (hts _ hnat) (hts _ hstat) (hts _ hini) (src := g_a G a0) (dst := a) (cs := scr) (cd := vp_cell (g_c G) (n1, .inl g)) (srcPos := 0) (destPos := 0) (n := n) (by rw [hTH]; exact hc0) (by rw [hTH]; exact hc1)
    hs6 (fun _ h => by cases h) hs3 (fun h => by cases h) hk0 hk1 hkk0 hkk1 (by simp [refKind]) (by decide) (by decide) h3
    (by rw [hni]; simp only [Int32.toInt_zero]; omega)
    (by rw [hni]; simp only [Int32.toInt_zero]; show ¬ _ > ((arrV (g_c G) n1 (fun j => .int (g j))).slots.size : Int); rw [arrV_size]; omega)
    (fun vm₁ _ i hi => by
      have e : scr.slots.getD ((0 : Int32).toNatClampNeg + i) .null = .int (f ((0 : Int32).toNatClampNeg + i)) := by
        rw [Array.getD_eq_getD_getElem?, hs5 _ (by rw [z0]; omega)]
        rfl
      rw [e]
      exact ⟨rfl, trivial⟩)
    (g := F0 m pc ls [.int n, .int 0, .ref a, .int 0, .ref (g_a G a0)]) rfl (by rw [hml]; exact hz) (rest := []) rfl (by rw [hb]; exact hd) hf (by show 2 * 0 + 0 + _ ≤ _; omega)
  have e1 : copied scr (vp_cell (g_c G) (n1, .inl g)) 0 0 n = vp_cell (g_c G) (n1, .inl (va_cpy f g 0 0 n.toNatClampNeg)) := va_copiedX (fun z => .int z) scr (g_c G) (sp := 0) (dp := 0) f g hs5 (by omega : 0 + n.toNatClampNeg ≤ n0)
  rw [e1] at X1 step
  have hl : a < H.size := (Array.getElem?_eq_some_iff.mp hc1).1
  have oq : ∀ q : Nat, q ≠ a → (H.setIfInBounds a (vp_cell (g_c G) (n1, .inl (va_cpy f g 0 0 n.toNatClampNeg))))[q]? = H[q]? := fun q hq => by simp [Array.getElem?_setIfInBounds, Ne.symm hq]
  obtain ⟨t, a1, b1⟩ := kk _ _ (hP.set hD he (show (H.setIfInBounds a _)[a]? = some _ by simp [Array.getElem?_setIfInBounds, hl]) oq) (hD.set he) ⟨by simp; exact hS.1, fun q g1 g2 => by
      rw [oq q (fun e => g2 (by rw [e]; exact hD.2 q1 _ he))]
      exact hS.2.1 q g1 g2, fun q hq => by
      rcases List.mem_append.mp hq with h | h
      · exact hS.2.2 q h
      · obtain ⟨z, -, hz⟩ := List.mem_map.mp h
        rw [← hz]
        exact hD.2 q1 _ he⟩ _ (show ((T.setVm vm1).setCell a (vp_cell (g_c G) (n1, .inl (va_cpy f g 0 0 n.toNatClampNeg)))).heap = _ by rw [← hTH]; rfl) X1
  exact ⟨t, step t a1, b1⟩
theorem ic_call (C : ic_C G Y A p s m args meth c ls) {Z : aY} {d mc ms ci ix n b : Nat} {fs0 As : List Value} {wf : Nat → (Nat → Nat) → va_W} {wr : va_W} {st0 : List Value} (hM : ic_Met G Z d mc ms ci fs0 As wf) (hcode : Cond.code Z.1 Z.2.1 Z.2.2.1 none ∈ TB) (hzr : Z.2.2.2 = none) (hini : Cond.initialized Z.1.cls ∈ TB) (hinst : Cond.instanceMethod Z.1 ∈ TB) (hlink : Cond.methodLink Y.1.cls ix Z.1 ∈ TB) (hnm : Z.1.name = "<init>")
    (hy : Z.1.cls ≠ "java/lang/invoke/MethodHandle" ∧ Z.1.cls ≠ "java/lang/invoke/VarHandle" ∧ (parseMethodDescriptor Z.1.desc).map (fun d => d.parameters.length) = some n) (hRf : d + 1 ≤ R.frames) (hRl : 8 + (Z.2.2.1 + 11) + 40 * d ≤ R.locals) (hRc : kc + mc ≤ R.cells) (hRs : ks + ms ≤ R.slots) (hn : As.length = n) (hst0 : st0 = As.reverse ++ .ref b :: st) (hfew : (st.map fun v => v.category).sum ≤ 8) (isC isR : List Nat) (hC : isC.map (fun i => ws[i]?) = [(b, .inr (ci, fs0))].map some) (hndC : va_nd isC = true) (hR : isR.map (fun i => ws[i]?) = wr.map some) (hnd : va_nd isR = true) (hdis : ∀ i ∈ isR, i ∉ isC) (hd : decode Y.2.1 pc = .ok (.invokespecial ix, 3)) (hnx : nx = pc + 3)
    (kk : ∀ u : Nat → Nat, ic_J G A p e R s m args below meth c ls Q nx st (wr ++ wf b u) (kc + mc) (ks + ms)) : ic_J G A p e R s m args below meth c ls Q pc st0 ws kc ks := by
  obtain ⟨hx, hb, hml, hr, hown, hts, hlk, hT, hE, hB, hA, hz⟩ := C
  subst hnx
  subst hst0
  intro H locs hP hD hS
  have hPc := va_P.sub (ws' := [(b, .inr (ci, fs0))]) hP isC (ic_fm hC)
  have hDc := hD.sub (ws' := [(b, .inr (ci, fs0))]) isC hndC hC
  have hFc := va_free (wc := [(b, .inr (ci, fs0))]) hD hS hA isC hC
  refine va_callv (va_runI (As := As) (rest := st) ⟨hx, hb, hml, hown, hts⟩ (hM b H.size) (cwI n hts (by rw [← hzr] at hcode; exact am_good Z hcode) (by rw [← hzr]; rfl) rfl rfl (hts _ hini) (hts _ hlink) (hts _ hinst) hnm hy ⟨hRf, hRl⟩) ⟨fun a U g mk q => ⟨q.1, q.2.calling⟩, fun U hU hW => ⟨rfl, by rw [hU], by rw [hU]; exact hPc, hT.warm hW, ?_, ?_, ?_⟩⟩ rfl hn hz rfl (lv_room hfew) hd ⟨hRc, hRs⟩) hS (fun q _ h => hFc q h) hFc (fun u t H1 locs1 ht hvm _ hBB hz1 hk1 hS1 => ?_)
  · rw [hU]
    exact (hE.kept (fun a h1 h2 => hS.2.1 a h1 (fun z => h2 (hB a z)))).moved hW.alike
  · exact fun q hq => hB q (hA q (Nat.le_trans hS.1 hq))
  · exact hDc.weaken (fun k q h1 h2 => hB _ h2)
  · obtain ⟨hP1, hD1⟩ := hBB
    rw [ht] at hP1
    obtain ⟨hP2, hD2⟩ := va_join (wr := wr) (w1 := wf b u) hP hD isC isR hC hR hnd hdis hk1 hFc hP1 hD1
    exact kk u H1 locs1 hP2 hD2 hS1
end ICR
/-- a constructor from its entry -/
theorem ic_entry {G : aG} {Z : aY} {d mc ms ci : Nat} {fs0 As : List Value} {wf : Nat → (Nat → Nat) → va_W} (hy : plainName Z.1.cls = true) (hnm : Z.1.name = "<init>") (hl : ∀ h0, (lg_sl (.ref h0 :: As)).length ≤ Z.2.2.1)
    (h : ∀ (h0 : Nat) (p : Program) (e : Env) (s : State) (m : MethodId) (args : Array Value) (below : List Frame) (meth : Method) (c : Code) (ls : Array Slot), ic_C G Z (va_A [(h0, .inr (ci, fs0))] s.heap.size) p s m args meth c ls → meth.name = "<init>" → lv_has ls Z.2.2.1 (lv_args 0 (.ref h0 :: As)) → ic_J G (va_A [(h0, .inr (ci, fs0))] s.heap.size) p e (ic_room d mc ms) s m args below meth c ls (MQ below (ic_Q G (h0, .inr (ci, fs0)) s.heap.size (wf h0)) args s mc ms (va_A [(h0, .inr (ci, fs0))] s.heap.size)) 0 [] [(h0, .inr (ci, fs0))] 0 0) : ic_Met G Z d mc ms ci fs0 As wf := by
  intro h0 sz
  refine Met.ofW (cc := Z.2.1) (maxL := Z.2.2.1) (ret := Z.2.2.2) hy rfl ?_
  intro p e s m args below meth c s₁ B hml hv
  obtain ⟨rfl, hsz, hP, hT, hE, hB, hD0⟩ := hv
  subst hsz
  have hts := atoms_spec (ws := am_wd Z) B.pre
  have hown : s.vm.findClass Z.1.cls = some m.cls := findClass_of_methodNamed B.named
  have hin : meth.name = "<init>" := ((name_of_methodNamed B.named B.method).1).trans hnm
  have hl0 := lv_entry (.ref h0 :: As) (n := Z.2.2.1) (hl h0)
  rw [lg_entry_eq]
  refine h h0 p e s m _ below meth c _ ⟨B.exec, B.bytes, hml, B.returns, hown, fun w hw => hts w (List.mem_cons_of_mem _ hw), B.notSynchronized, hT, hE, ?_, fun q hq => Or.inr hq, hl0.1⟩ hin hl0 s.heap [] hP (hD0.self) va_S.rf
  rintro q (⟨k, x, hk⟩ | hq)
  · exact hD0.2 k _ hk
  · exact hB q hq
end
section
/-! printed by wip/gen/inits.py: the constructors -/
set_option maxRecDepth 20000 in
theorem w_73 : (Jvm.Cond.initialized "java/lang/System") ∈ TB := tb_of 73 rfl rfl
set_option maxRecDepth 20000 in
theorem w_89 : (Jvm.Cond.methodLink "DatumDesk" (1 : Nat) ({ cls := "java/lang/Object", name := "<init>", desc := "()V" } : Jvm.MethodName)) ∈ TB := tb_of 89 rfl rfl
set_option maxRecDepth 20000 in
theorem w_90 : (Jvm.Cond.instanceMethod ({ cls := "java/lang/Object", name := "<init>", desc := "()V" } : Jvm.MethodName)) ∈ TB := tb_of 90 rfl rfl
set_option maxRecDepth 20000 in
theorem w_91 : (Jvm.Cond.code ({ cls := "java/lang/Object", name := "<init>", desc := "()V" } : Jvm.MethodName) object_method_1_code (1 : Nat) (Option.none : Option Jvm.ClassFile.FieldType)) ∈ TB := tb_of 91 rfl rfl
set_option maxRecDepth 20000 in
theorem w_92 : (Jvm.Cond.classLink "DatumDesk" (7 : Nat) "DatumDesk$Text") ∈ TB := tb_of 92 rfl rfl
set_option maxRecDepth 20000 in
theorem w_93 : (Jvm.Cond.instantiable "DatumDesk$Text" (2 : Nat)) ∈ TB := tb_of 93 rfl rfl
set_option maxRecDepth 20000 in
theorem w_94 : (Jvm.Cond.methodLinkNest "DatumDesk" (9 : Nat) ({ cls := "DatumDesk$Text", name := "<init>", desc := "()V" } : Jvm.MethodName) "DatumDesk") ∈ NWs := nw_of 94 rfl rfl
set_option maxRecDepth 20000 in
theorem w_95 : (Jvm.Cond.instanceMethod ({ cls := "DatumDesk$Text", name := "<init>", desc := "()V" } : Jvm.MethodName)) ∈ TB := tb_of 95 rfl rfl
set_option maxRecDepth 20000 in
theorem w_96 : (Jvm.Cond.code ({ cls := "DatumDesk$Text", name := "<init>", desc := "()V" } : Jvm.MethodName) prog_4_method_1_code (1 : Nat) (Option.none : Option Jvm.ClassFile.FieldType)) ∈ TB := tb_of 96 rfl rfl
set_option maxRecDepth 20000 in
theorem w_97 : (Jvm.Cond.methodLink "DatumDesk$Text" (3 : Nat) ({ cls := "java/lang/Object", name := "<init>", desc := "()V" } : Jvm.MethodName)) ∈ TB := tb_of 97 rfl rfl
set_option maxRecDepth 20000 in
theorem w_106 : (Jvm.Cond.arrayClass Jvm.ClassFile.FieldType.int) ∈ TB := tb_of 106 rfl rfl
set_option maxRecDepth 20000 in
theorem w_107 : (Jvm.Cond.classLink "DatumDesk" (16 : Nat) "DatumDesk$Nodes") ∈ TB := tb_of 107 rfl rfl
set_option maxRecDepth 20000 in
theorem w_108 : (Jvm.Cond.instantiable "DatumDesk$Nodes" (10 : Nat)) ∈ TB := tb_of 108 rfl rfl
set_option maxRecDepth 20000 in
theorem w_109 : (Jvm.Cond.methodLinkNest "DatumDesk" (18 : Nat) ({ cls := "DatumDesk$Nodes", name := "<init>", desc := "()V" } : Jvm.MethodName) "DatumDesk") ∈ NWs := nw_of 109 rfl rfl
set_option maxRecDepth 20000 in
theorem w_110 : (Jvm.Cond.instanceMethod ({ cls := "DatumDesk$Nodes", name := "<init>", desc := "()V" } : Jvm.MethodName)) ∈ TB := tb_of 110 rfl rfl
set_option maxRecDepth 20000 in
theorem w_111 : (Jvm.Cond.code ({ cls := "DatumDesk$Nodes", name := "<init>", desc := "()V" } : Jvm.MethodName) prog_2_method_1_code (1 : Nat) (Option.none : Option Jvm.ClassFile.FieldType)) ∈ TB := tb_of 111 rfl rfl
set_option maxRecDepth 20000 in
theorem w_112 : (Jvm.Cond.methodLink "DatumDesk$Nodes" (3 : Nat) ({ cls := "java/lang/Object", name := "<init>", desc := "()V" } : Jvm.MethodName)) ∈ TB := tb_of 112 rfl rfl
set_option maxRecDepth 20000 in
theorem w_115 : (Jvm.Cond.methodLink "DatumDesk$Nodes" (46 : Nat) ({ cls := "java/lang/System", name := "arraycopy", desc := "(Ljava/lang/Object;ILjava/lang/Object;II)V" } : Jvm.MethodName)) ∈ TB := tb_of 115 rfl rfl
set_option maxRecDepth 20000 in
theorem w_116 : (Jvm.Cond.static ({ cls := "java/lang/System", name := "arraycopy", desc := "(Ljava/lang/Object;ILjava/lang/Object;II)V" } : Jvm.MethodName)) ∈ TB := tb_of 116 rfl rfl
set_option maxRecDepth 20000 in
theorem w_117 : (Jvm.Cond.native ({ cls := "java/lang/System", name := "arraycopy", desc := "(Ljava/lang/Object;ILjava/lang/Object;II)V" } : Jvm.MethodName)) ∈ TB := tb_of 117 rfl rfl
set_option maxRecDepth 20000 in
theorem w_151 : (Jvm.Cond.classLink "DatumDesk" (23 : Nat) "DatumDesk$Reader") ∈ TB := tb_of 151 rfl rfl
set_option maxRecDepth 20000 in
theorem w_152 : (Jvm.Cond.instantiable "DatumDesk$Reader" (5 : Nat)) ∈ TB := tb_of 152 rfl rfl
set_option maxRecDepth 20000 in
theorem w_153 : (Jvm.Cond.methodLinkNest "DatumDesk" (25 : Nat) ({ cls := "DatumDesk$Reader", name := "<init>", desc := "(LDatumDesk$Text;LDatumDesk$Nodes;)V" } : Jvm.MethodName) "DatumDesk") ∈ NWs := nw_of 153 rfl rfl
set_option maxRecDepth 20000 in
theorem w_154 : (Jvm.Cond.instanceMethod ({ cls := "DatumDesk$Reader", name := "<init>", desc := "(LDatumDesk$Text;LDatumDesk$Nodes;)V" } : Jvm.MethodName)) ∈ TB := tb_of 154 rfl rfl
set_option maxRecDepth 20000 in
theorem w_155 : (Jvm.Cond.code ({ cls := "DatumDesk$Reader", name := "<init>", desc := "(LDatumDesk$Text;LDatumDesk$Nodes;)V" } : Jvm.MethodName) prog_3_method_1_code (3 : Nat) (Option.none : Option Jvm.ClassFile.FieldType)) ∈ TB := tb_of 155 rfl rfl
set_option maxRecDepth 20000 in
theorem w_156 : (Jvm.Cond.methodLink "DatumDesk$Reader" (3 : Nat) ({ cls := "java/lang/Object", name := "<init>", desc := "()V" } : Jvm.MethodName)) ∈ TB := tb_of 156 rfl rfl
set_option maxRecDepth 20000 in
theorem w_157 : (Jvm.Cond.classLink "DatumDesk$Reader" (9 : Nat) "DatumDesk$Tokens") ∈ TB := tb_of 157 rfl rfl
set_option maxRecDepth 20000 in
theorem w_158 : (Jvm.Cond.instantiable "DatumDesk$Tokens" (4 : Nat)) ∈ TB := tb_of 158 rfl rfl
set_option maxRecDepth 20000 in
theorem w_159 : (Jvm.Cond.methodLinkNest "DatumDesk$Reader" (11 : Nat) ({ cls := "DatumDesk$Tokens", name := "<init>", desc := "()V" } : Jvm.MethodName) "DatumDesk") ∈ NWs := nw_of 159 rfl rfl
set_option maxRecDepth 20000 in
theorem w_160 : (Jvm.Cond.instanceMethod ({ cls := "DatumDesk$Tokens", name := "<init>", desc := "()V" } : Jvm.MethodName)) ∈ TB := tb_of 160 rfl rfl
set_option maxRecDepth 20000 in
theorem w_161 : (Jvm.Cond.code ({ cls := "DatumDesk$Tokens", name := "<init>", desc := "()V" } : Jvm.MethodName) prog_5_method_1_code (1 : Nat) (Option.none : Option Jvm.ClassFile.FieldType)) ∈ TB := tb_of 161 rfl rfl
set_option maxRecDepth 20000 in
theorem w_162 : (Jvm.Cond.methodLink "DatumDesk$Tokens" (3 : Nat) ({ cls := "java/lang/Object", name := "<init>", desc := "()V" } : Jvm.MethodName)) ∈ TB := tb_of 162 rfl rfl
set_option maxRecDepth 20000 in
theorem w_193 : (Jvm.Cond.classLink "DatumDesk" (32 : Nat) "DatumDesk$Waiting") ∈ TB := tb_of 193 rfl rfl
set_option maxRecDepth 20000 in
theorem w_194 : (Jvm.Cond.instantiable "DatumDesk$Waiting" (3 : Nat)) ∈ TB := tb_of 194 rfl rfl
set_option maxRecDepth 20000 in
theorem w_195 : (Jvm.Cond.methodLinkNest "DatumDesk" (34 : Nat) ({ cls := "DatumDesk$Waiting", name := "<init>", desc := "()V" } : Jvm.MethodName) "DatumDesk") ∈ NWs := nw_of 195 rfl rfl
set_option maxRecDepth 20000 in
theorem w_196 : (Jvm.Cond.instanceMethod ({ cls := "DatumDesk$Waiting", name := "<init>", desc := "()V" } : Jvm.MethodName)) ∈ TB := tb_of 196 rfl rfl
set_option maxRecDepth 20000 in
theorem w_197 : (Jvm.Cond.code ({ cls := "DatumDesk$Waiting", name := "<init>", desc := "()V" } : Jvm.MethodName) prog_6_method_1_code (1 : Nat) (Option.none : Option Jvm.ClassFile.FieldType)) ∈ TB := tb_of 197 rfl rfl
set_option maxRecDepth 20000 in
theorem w_198 : (Jvm.Cond.methodLink "DatumDesk$Waiting" (3 : Nat) ({ cls := "java/lang/Object", name := "<init>", desc := "()V" } : Jvm.MethodName)) ∈ TB := tb_of 198 rfl rfl
set_option maxRecDepth 20000 in
theorem w_210 : (Jvm.Cond.classLink "DatumDesk" (39 : Nat) "DatumDesk$Writer") ∈ TB := tb_of 210 rfl rfl
set_option maxRecDepth 20000 in
theorem w_211 : (Jvm.Cond.instantiable "DatumDesk$Writer" (2 : Nat)) ∈ TB := tb_of 211 rfl rfl
set_option maxRecDepth 20000 in
theorem w_212 : (Jvm.Cond.methodLinkNest "DatumDesk" (41 : Nat) ({ cls := "DatumDesk$Writer", name := "<init>", desc := "(LDatumDesk$Nodes;LDatumDesk$Waiting;)V" } : Jvm.MethodName) "DatumDesk") ∈ NWs := nw_of 212 rfl rfl
set_option maxRecDepth 20000 in
theorem w_213 : (Jvm.Cond.instanceMethod ({ cls := "DatumDesk$Writer", name := "<init>", desc := "(LDatumDesk$Nodes;LDatumDesk$Waiting;)V" } : Jvm.MethodName)) ∈ TB := tb_of 213 rfl rfl
set_option maxRecDepth 20000 in
theorem w_214 : (Jvm.Cond.code ({ cls := "DatumDesk$Writer", name := "<init>", desc := "(LDatumDesk$Nodes;LDatumDesk$Waiting;)V" } : Jvm.MethodName) prog_7_method_1_code (3 : Nat) (Option.none : Option Jvm.ClassFile.FieldType)) ∈ TB := tb_of 214 rfl rfl
set_option maxRecDepth 20000 in
theorem w_215 : (Jvm.Cond.methodLink "DatumDesk$Writer" (3 : Nat) ({ cls := "java/lang/Object", name := "<init>", desc := "()V" } : Jvm.MethodName)) ∈ TB := tb_of 215 rfl rfl
set_option maxRecDepth 20000 in
theorem w_516 : (Jvm.Cond.methodLink "DatumDeskModel" (1 : Nat) ({ cls := "java/lang/Object", name := "<init>", desc := "()V" } : Jvm.MethodName)) ∈ TB := tb_of 516 rfl rfl
def wf_Text (G : aG) (h0 : Nat) (u : Nat → Nat) : va_W := [(h0, .inr (2, [.ref (u 2), .int 0])), ((u 2), .inl (g_c G, 400, .inl (fun _ => 0)))]
set_option maxRecDepth 20000 in
set_option maxHeartbeats 4000000 in
theorem ci_Text (G : aG) : ic_Met G Y_Text_init 1 1 400 2 [.null, .int 0] [] (wf_Text G) := by
  refine ic_entry (by decide +kernel) rfl (fun _ => Nat.le_of_ble_eq_true rfl) ?_
  intro h0 p e s m args below meth c ls C hin hl
  have hl : lv_has ls 1 [(0, .ref h0)] := hl
  refine ic_aload C (q := 0) (nx := 1) (by decide +kernel) rfl (lv_at hl 0 rfl) rfl ?_
  refine ic_objInit C (ix := 3) (nx := 4) w_97 w_90 w_91 (Nat.le_of_ble_eq_true rfl) (Nat.le_of_ble_eq_true rfl) (by decide +kernel) rfl ?_
  refine ic_aload C (q := 0) (nx := 5) (by decide +kernel) rfl (lv_at hl 0 rfl) rfl ?_
  refine ic_sipush C (n := 400) (v := 400) (nx := 8) (by decide +kernel) (by decide +kernel) rfl ?_
  refine ic_newa C (N := 400) (nx := 10) w_106 (by decide) (by decide +kernel) (by decide) (Nat.le_of_ble_eq_true rfl) (Nat.le_of_ble_eq_true rfl) (by decide +kernel) rfl (fun q8 => ?_)
  change ic_J _ _ _ _ _ _ _ _ _ _ _ _ _ 10 [.ref q8, .ref h0] [(h0, .inr (2, [.null, .int 0])), (q8, .inl (g_c G, 400, .inl (fun _ => 0)))] 1 400
  refine ic_putF C hin (T := T_Text) (N := 2) (ci := 2) (k := 0) (q0 := 0) (ix := 9) (nx := 13) (fs := [.null, .int 0]) (v := .ref q8) (ty := .array .int) (ws' := [(h0, .inr (2, [.ref q8, .int 0])), (q8, .inl (g_c G, 400, .inl (fun _ => 0)))]) t_Text rfl in_Text tok_Text nm_Text rfl (by decide) rfl rfl (by decide +kernel) rfl rfl (Nat.le_of_ble_eq_true rfl) w_98 rfl (by decide +kernel) rfl ?_
  refine ic_aload C (q := 0) (nx := 14) (by decide +kernel) rfl (lv_at hl 0 rfl) rfl ?_
  refine ic_iconst C (n := 0) (v := 0) (nx := 15) (by decide +kernel) (by decide +kernel) rfl ?_
  refine ic_put C (T := T_Text) (N := 2) (ci := 2) (k := 1) (q0 := 0) (ix := 15) (nx := 18) (fs := [.ref q8, .int 0]) (v := .int 0) (ty := .int) (ws' := [(h0, .inr (2, [.ref q8, .int 0])), (q8, .inl (g_c G, 400, .inl (fun _ => 0)))]) t_Text rfl in_Text tok_Text nm_Text rfl (by decide) rfl rfl (by decide +kernel) rfl rfl (Nat.le_of_ble_eq_true rfl) w_99 rfl (by decide +kernel) rfl ?_
  exact ic_vret C (fun i => match i with | 2 => q8 | _ => 0) rfl rfl (by decide +kernel)
def wf_Nodes (G : aG) (h0 : Nat) (u : Nat → Nat) : va_W := [(h0, .inr (0, [.ref (u 4), .ref (u 5), .ref (u 6), .ref (u 7), .ref (u 8), .int 0, .ref (u 9), .int 0, .ref (u 10), .int 5])), ((u 4), .inl (g_c G, 200, .inl (fun _ => 0))), ((u 5), .inl (g_c G, 200, .inl (fun _ => 0))), ((u 6), .inl (g_c G, 200, .inl (fun _ => 0))), ((u 7), .inl (g_c G, 200, .inl (fun _ => 0))), ((u 8), .inl (g_c G, 200, .inl (fun _ => 0))), ((u 9), .inl (g_c G, 200, .inl (fun _ => 0))), ((u 10), .inl (g_c G, 405, .inl (va_cpy QF (fun _ => 0) 0 0 5)))]
set_option maxRecDepth 20000 in
set_option maxHeartbeats 4000000 in
theorem ci_Nodes (G : aG) : ic_Met G Y_Nodes_init 1 7 1605 0 [.null, .null, .null, .null, .null, .int 0, .null, .int 0, .null, .int 0] [] (wf_Nodes G) := by
  refine ic_entry (by decide +kernel) rfl (fun _ => Nat.le_of_ble_eq_true rfl) ?_
  intro h0 p e s m args below meth c ls C hin hl
  have hl : lv_has ls 1 [(0, .ref h0)] := hl
  refine ic_aload C (q := 0) (nx := 1) (by decide +kernel) rfl (lv_at hl 0 rfl) rfl ?_
  refine ic_objInit C (ix := 3) (nx := 4) w_112 w_90 w_91 (Nat.le_of_ble_eq_true rfl) (Nat.le_of_ble_eq_true rfl) (by decide +kernel) rfl ?_
  refine ic_aload C (q := 0) (nx := 5) (by decide +kernel) rfl (lv_at hl 0 rfl) rfl ?_
  refine ic_sipush C (n := 200) (v := 200) (nx := 8) (by decide +kernel) (by decide +kernel) rfl ?_
  refine ic_newa C (N := 200) (nx := 10) w_106 (by decide) (by decide +kernel) (by decide) (Nat.le_of_ble_eq_true rfl) (Nat.le_of_ble_eq_true rfl) (by decide +kernel) rfl (fun q8 => ?_)
  change ic_J _ _ _ _ _ _ _ _ _ _ _ _ _ 10 [.ref q8, .ref h0] [(h0, .inr (0, [.null, .null, .null, .null, .null, .int 0, .null, .int 0, .null, .int 0])), (q8, .inl (g_c G, 200, .inl (fun _ => 0)))] 1 200
  refine ic_putF C hin (T := T_Nodes) (N := 10) (ci := 0) (k := 0) (q0 := 0) (ix := 9) (nx := 13) (fs := [.null, .null, .null, .null, .null, .int 0, .null, .int 0, .null, .int 0]) (v := .ref q8) (ty := .array .int) (ws' := [(h0, .inr (0, [.ref q8, .null, .null, .null, .null, .int 0, .null, .int 0, .null, .int 0])), (q8, .inl (g_c G, 200, .inl (fun _ => 0)))]) t_Nodes rfl in_Nodes tok_Nodes nm_Nodes rfl (by decide) rfl rfl (by decide +kernel) rfl rfl (Nat.le_of_ble_eq_true rfl) w_118 rfl (by decide +kernel) rfl ?_
  refine ic_aload C (q := 0) (nx := 14) (by decide +kernel) rfl (lv_at hl 0 rfl) rfl ?_
  refine ic_sipush C (n := 200) (v := 200) (nx := 17) (by decide +kernel) (by decide +kernel) rfl ?_
  refine ic_newa C (N := 200) (nx := 19) w_106 (by decide) (by decide +kernel) (by decide) (Nat.le_of_ble_eq_true rfl) (Nat.le_of_ble_eq_true rfl) (by decide +kernel) rfl (fun q17 => ?_)
  change ic_J _ _ _ _ _ _ _ _ _ _ _ _ _ 19 [.ref q17, .ref h0] [(h0, .inr (0, [.ref q8, .null, .null, .null, .null, .int 0, .null, .int 0, .null, .int 0])), (q8, .inl (g_c G, 200, .inl (fun _ => 0))), (q17, .inl (g_c G, 200, .inl (fun _ => 0)))] 2 400
  refine ic_putF C hin (T := T_Nodes) (N := 10) (ci := 0) (k := 1) (q0 := 0) (ix := 15) (nx := 22) (fs := [.ref q8, .null, .null, .null, .null, .int 0, .null, .int 0, .null, .int 0]) (v := .ref q17) (ty := .array .int) (ws' := [(h0, .inr (0, [.ref q8, .ref q17, .null, .null, .null, .int 0, .null, .int 0, .null, .int 0])), (q8, .inl (g_c G, 200, .inl (fun _ => 0))), (q17, .inl (g_c G, 200, .inl (fun _ => 0)))]) t_Nodes rfl in_Nodes tok_Nodes nm_Nodes rfl (by decide) rfl rfl (by decide +kernel) rfl rfl (Nat.le_of_ble_eq_true rfl) w_119 rfl (by decide +kernel) rfl ?_
  refine ic_aload C (q := 0) (nx := 23) (by decide +kernel) rfl (lv_at hl 0 rfl) rfl ?_
  refine ic_sipush C (n := 200) (v := 200) (nx := 26) (by decide +kernel) (by decide +kernel) rfl ?_
  refine ic_newa C (N := 200) (nx := 28) w_106 (by decide) (by decide +kernel) (by decide) (Nat.le_of_ble_eq_true rfl) (Nat.le_of_ble_eq_true rfl) (by decide +kernel) rfl (fun q26 => ?_)
  change ic_J _ _ _ _ _ _ _ _ _ _ _ _ _ 28 [.ref q26, .ref h0] [(h0, .inr (0, [.ref q8, .ref q17, .null, .null, .null, .int 0, .null, .int 0, .null, .int 0])), (q8, .inl (g_c G, 200, .inl (fun _ => 0))), (q17, .inl (g_c G, 200, .inl (fun _ => 0))), (q26, .inl (g_c G, 200, .inl (fun _ => 0)))] 3 600
  refine ic_putF C hin (T := T_Nodes) (N := 10) (ci := 0) (k := 2) (q0 := 0) (ix := 18) (nx := 31) (fs := [.ref q8, .ref q17, .null, .null, .null, .int 0, .null, .int 0, .null, .int 0]) (v := .ref q26) (ty := .array .int) (ws' := [(h0, .inr (0, [.ref q8, .ref q17, .ref q26, .null, .null, .int 0, .null, .int 0, .null, .int 0])), (q8, .inl (g_c G, 200, .inl (fun _ => 0))), (q17, .inl (g_c G, 200, .inl (fun _ => 0))), (q26, .inl (g_c G, 200, .inl (fun _ => 0)))]) t_Nodes rfl in_Nodes tok_Nodes nm_Nodes rfl (by decide) rfl rfl (by decide +kernel) rfl rfl (Nat.le_of_ble_eq_true rfl) w_120 rfl (by decide +kernel) rfl ?_
  refine ic_aload C (q := 0) (nx := 32) (by decide +kernel) rfl (lv_at hl 0 rfl) rfl ?_
  refine ic_sipush C (n := 200) (v := 200) (nx := 35) (by decide +kernel) (by decide +kernel) rfl ?_
  refine ic_newa C (N := 200) (nx := 37) w_106 (by decide) (by decide +kernel) (by decide) (Nat.le_of_ble_eq_true rfl) (Nat.le_of_ble_eq_true rfl) (by decide +kernel) rfl (fun q35 => ?_)
  change ic_J _ _ _ _ _ _ _ _ _ _ _ _ _ 37 [.ref q35, .ref h0] [(h0, .inr (0, [.ref q8, .ref q17, .ref q26, .null, .null, .int 0, .null, .int 0, .null, .int 0])), (q8, .inl (g_c G, 200, .inl (fun _ => 0))), (q17, .inl (g_c G, 200, .inl (fun _ => 0))), (q26, .inl (g_c G, 200, .inl (fun _ => 0))), (q35, .inl (g_c G, 200, .inl (fun _ => 0)))] 4 800
  refine ic_putF C hin (T := T_Nodes) (N := 10) (ci := 0) (k := 3) (q0 := 0) (ix := 21) (nx := 40) (fs := [.ref q8, .ref q17, .ref q26, .null, .null, .int 0, .null, .int 0, .null, .int 0]) (v := .ref q35) (ty := .array .int) (ws' := [(h0, .inr (0, [.ref q8, .ref q17, .ref q26, .ref q35, .null, .int 0, .null, .int 0, .null, .int 0])), (q8, .inl (g_c G, 200, .inl (fun _ => 0))), (q17, .inl (g_c G, 200, .inl (fun _ => 0))), (q26, .inl (g_c G, 200, .inl (fun _ => 0))), (q35, .inl (g_c G, 200, .inl (fun _ => 0)))]) t_Nodes rfl in_Nodes tok_Nodes nm_Nodes rfl (by decide) rfl rfl (by decide +kernel) rfl rfl (Nat.le_of_ble_eq_true rfl) w_121 rfl (by decide +kernel) rfl ?_
  refine ic_aload C (q := 0) (nx := 41) (by decide +kernel) rfl (lv_at hl 0 rfl) rfl ?_
  refine ic_sipush C (n := 200) (v := 200) (nx := 44) (by decide +kernel) (by decide +kernel) rfl ?_
  refine ic_newa C (N := 200) (nx := 46) w_106 (by decide) (by decide +kernel) (by decide) (Nat.le_of_ble_eq_true rfl) (Nat.le_of_ble_eq_true rfl) (by decide +kernel) rfl (fun q44 => ?_)
  change ic_J _ _ _ _ _ _ _ _ _ _ _ _ _ 46 [.ref q44, .ref h0] [(h0, .inr (0, [.ref q8, .ref q17, .ref q26, .ref q35, .null, .int 0, .null, .int 0, .null, .int 0])), (q8, .inl (g_c G, 200, .inl (fun _ => 0))), (q17, .inl (g_c G, 200, .inl (fun _ => 0))), (q26, .inl (g_c G, 200, .inl (fun _ => 0))), (q35, .inl (g_c G, 200, .inl (fun _ => 0))), (q44, .inl (g_c G, 200, .inl (fun _ => 0)))] 5 1000
  refine ic_putF C hin (T := T_Nodes) (N := 10) (ci := 0) (k := 4) (q0 := 0) (ix := 24) (nx := 49) (fs := [.ref q8, .ref q17, .ref q26, .ref q35, .null, .int 0, .null, .int 0, .null, .int 0]) (v := .ref q44) (ty := .array .int) (ws' := [(h0, .inr (0, [.ref q8, .ref q17, .ref q26, .ref q35, .ref q44, .int 0, .null, .int 0, .null, .int 0])), (q8, .inl (g_c G, 200, .inl (fun _ => 0))), (q17, .inl (g_c G, 200, .inl (fun _ => 0))), (q26, .inl (g_c G, 200, .inl (fun _ => 0))), (q35, .inl (g_c G, 200, .inl (fun _ => 0))), (q44, .inl (g_c G, 200, .inl (fun _ => 0)))]) t_Nodes rfl in_Nodes tok_Nodes nm_Nodes rfl (by decide) rfl rfl (by decide +kernel) rfl rfl (Nat.le_of_ble_eq_true rfl) w_122 rfl (by decide +kernel) rfl ?_
  refine ic_aload C (q := 0) (nx := 50) (by decide +kernel) rfl (lv_at hl 0 rfl) rfl ?_
  refine ic_iconst C (n := 0) (v := 0) (nx := 51) (by decide +kernel) (by decide +kernel) rfl ?_
  refine ic_put C (T := T_Nodes) (N := 10) (ci := 0) (k := 5) (q0 := 0) (ix := 27) (nx := 54) (fs := [.ref q8, .ref q17, .ref q26, .ref q35, .ref q44, .int 0, .null, .int 0, .null, .int 0]) (v := .int 0) (ty := .int) (ws' := [(h0, .inr (0, [.ref q8, .ref q17, .ref q26, .ref q35, .ref q44, .int 0, .null, .int 0, .null, .int 0])), (q8, .inl (g_c G, 200, .inl (fun _ => 0))), (q17, .inl (g_c G, 200, .inl (fun _ => 0))), (q26, .inl (g_c G, 200, .inl (fun _ => 0))), (q35, .inl (g_c G, 200, .inl (fun _ => 0))), (q44, .inl (g_c G, 200, .inl (fun _ => 0)))]) t_Nodes rfl in_Nodes tok_Nodes nm_Nodes rfl (by decide) rfl rfl (by decide +kernel) rfl rfl (Nat.le_of_ble_eq_true rfl) w_123 rfl (by decide +kernel) rfl ?_
  refine ic_aload C (q := 0) (nx := 55) (by decide +kernel) rfl (lv_at hl 0 rfl) rfl ?_
  refine ic_sipush C (n := 200) (v := 200) (nx := 58) (by decide +kernel) (by decide +kernel) rfl ?_
  refine ic_newa C (N := 200) (nx := 60) w_106 (by decide) (by decide +kernel) (by decide) (Nat.le_of_ble_eq_true rfl) (Nat.le_of_ble_eq_true rfl) (by decide +kernel) rfl (fun q58 => ?_)
  change ic_J _ _ _ _ _ _ _ _ _ _ _ _ _ 60 [.ref q58, .ref h0] [(h0, .inr (0, [.ref q8, .ref q17, .ref q26, .ref q35, .ref q44, .int 0, .null, .int 0, .null, .int 0])), (q8, .inl (g_c G, 200, .inl (fun _ => 0))), (q17, .inl (g_c G, 200, .inl (fun _ => 0))), (q26, .inl (g_c G, 200, .inl (fun _ => 0))), (q35, .inl (g_c G, 200, .inl (fun _ => 0))), (q44, .inl (g_c G, 200, .inl (fun _ => 0))), (q58, .inl (g_c G, 200, .inl (fun _ => 0)))] 6 1200
  refine ic_putF C hin (T := T_Nodes) (N := 10) (ci := 0) (k := 6) (q0 := 0) (ix := 31) (nx := 63) (fs := [.ref q8, .ref q17, .ref q26, .ref q35, .ref q44, .int 0, .null, .int 0, .null, .int 0]) (v := .ref q58) (ty := .array .int) (ws' := [(h0, .inr (0, [.ref q8, .ref q17, .ref q26, .ref q35, .ref q44, .int 0, .ref q58, .int 0, .null, .int 0])), (q8, .inl (g_c G, 200, .inl (fun _ => 0))), (q17, .inl (g_c G, 200, .inl (fun _ => 0))), (q26, .inl (g_c G, 200, .inl (fun _ => 0))), (q35, .inl (g_c G, 200, .inl (fun _ => 0))), (q44, .inl (g_c G, 200, .inl (fun _ => 0))), (q58, .inl (g_c G, 200, .inl (fun _ => 0)))]) t_Nodes rfl in_Nodes tok_Nodes nm_Nodes rfl (by decide) rfl rfl (by decide +kernel) rfl rfl (Nat.le_of_ble_eq_true rfl) w_125 rfl (by decide +kernel) rfl ?_
  refine ic_aload C (q := 0) (nx := 64) (by decide +kernel) rfl (lv_at hl 0 rfl) rfl ?_
  refine ic_iconst C (n := 0) (v := 0) (nx := 65) (by decide +kernel) (by decide +kernel) rfl ?_
  refine ic_put C (T := T_Nodes) (N := 10) (ci := 0) (k := 7) (q0 := 0) (ix := 34) (nx := 68) (fs := [.ref q8, .ref q17, .ref q26, .ref q35, .ref q44, .int 0, .ref q58, .int 0, .null, .int 0]) (v := .int 0) (ty := .int) (ws' := [(h0, .inr (0, [.ref q8, .ref q17, .ref q26, .ref q35, .ref q44, .int 0, .ref q58, .int 0, .null, .int 0])), (q8, .inl (g_c G, 200, .inl (fun _ => 0))), (q17, .inl (g_c G, 200, .inl (fun _ => 0))), (q26, .inl (g_c G, 200, .inl (fun _ => 0))), (q35, .inl (g_c G, 200, .inl (fun _ => 0))), (q44, .inl (g_c G, 200, .inl (fun _ => 0))), (q58, .inl (g_c G, 200, .inl (fun _ => 0)))]) t_Nodes rfl in_Nodes tok_Nodes nm_Nodes rfl (by decide) rfl rfl (by decide +kernel) rfl rfl (Nat.le_of_ble_eq_true rfl) w_126 rfl (by decide +kernel) rfl ?_
  refine ic_aload C (q := 0) (nx := 69) (by decide +kernel) rfl (lv_at hl 0 rfl) rfl ?_
  refine ic_getsN C (ix := 37) (Cn := "DatumDesk") (f := "QUOTE") (d := "[I") (v := .ref 1000) (nx := 72) List.mem_cons_self w_113 (by decide +kernel) rfl ?_
  change ic_J _ _ _ _ _ _ _ _ _ _ _ _ _ 72 [.ref (g_a G 1000), .ref h0] [(h0, .inr (0, [.ref q8, .ref q17, .ref q26, .ref q35, .ref q44, .int 0, .ref q58, .int 0, .null, .int 0])), (q8, .inl (g_c G, 200, .inl (fun _ => 0))), (q17, .inl (g_c G, 200, .inl (fun _ => 0))), (q26, .inl (g_c G, 200, .inl (fun _ => 0))), (q35, .inl (g_c G, 200, .inl (fun _ => 0))), (q44, .inl (g_c G, 200, .inl (fun _ => 0))), (q58, .inl (g_c G, 200, .inl (fun _ => 0)))] 6 1200
  refine ic_xlen C (a := 1000) (nx := 73) (hm_1000 G) (by decide +kernel) rfl ?_
  change ic_J _ _ _ _ _ _ _ _ _ _ _ _ _ 73 [.int 5, .ref h0] [(h0, .inr (0, [.ref q8, .ref q17, .ref q26, .ref q35, .ref q44, .int 0, .ref q58, .int 0, .null, .int 0])), (q8, .inl (g_c G, 200, .inl (fun _ => 0))), (q17, .inl (g_c G, 200, .inl (fun _ => 0))), (q26, .inl (g_c G, 200, .inl (fun _ => 0))), (q35, .inl (g_c G, 200, .inl (fun _ => 0))), (q44, .inl (g_c G, 200, .inl (fun _ => 0))), (q58, .inl (g_c G, 200, .inl (fun _ => 0)))] 6 1200
  refine ic_sipush C (n := 400) (v := 400) (nx := 76) (by decide +kernel) (by decide +kernel) rfl ?_
  refine ic_iadd C (v := 405) (nx := 77) (by decide +kernel) (by decide +kernel) rfl ?_
  refine ic_newa C (N := 405) (nx := 79) w_106 (by decide) (by decide +kernel) (by decide) (Nat.le_of_ble_eq_true rfl) (Nat.le_of_ble_eq_true rfl) (by decide +kernel) rfl (fun q77 => ?_)
  change ic_J _ _ _ _ _ _ _ _ _ _ _ _ _ 79 [.ref q77, .ref h0] [(h0, .inr (0, [.ref q8, .ref q17, .ref q26, .ref q35, .ref q44, .int 0, .ref q58, .int 0, .null, .int 0])), (q8, .inl (g_c G, 200, .inl (fun _ => 0))), (q17, .inl (g_c G, 200, .inl (fun _ => 0))), (q26, .inl (g_c G, 200, .inl (fun _ => 0))), (q35, .inl (g_c G, 200, .inl (fun _ => 0))), (q44, .inl (g_c G, 200, .inl (fun _ => 0))), (q58, .inl (g_c G, 200, .inl (fun _ => 0))), (q77, .inl (g_c G, 405, .inl (fun _ => 0)))] 7 1605
  refine ic_putF C hin (T := T_Nodes) (N := 10) (ci := 0) (k := 8) (q0 := 0) (ix := 40) (nx := 82) (fs := [.ref q8, .ref q17, .ref q26, .ref q35, .ref q44, .int 0, .ref q58, .int 0, .null, .int 0]) (v := .ref q77) (ty := .array .int) (ws' := [(h0, .inr (0, [.ref q8, .ref q17, .ref q26, .ref q35, .ref q44, .int 0, .ref q58, .int 0, .ref q77, .int 0])), (q8, .inl (g_c G, 200, .inl (fun _ => 0))), (q17, .inl (g_c G, 200, .inl (fun _ => 0))), (q26, .inl (g_c G, 200, .inl (fun _ => 0))), (q35, .inl (g_c G, 200, .inl (fun _ => 0))), (q44, .inl (g_c G, 200, .inl (fun _ => 0))), (q58, .inl (g_c G, 200, .inl (fun _ => 0))), (q77, .inl (g_c G, 405, .inl (fun _ => 0)))]) t_Nodes rfl in_Nodes tok_Nodes nm_Nodes rfl (by decide) rfl rfl (by decide +kernel) rfl rfl (Nat.le_of_ble_eq_true rfl) w_128 rfl (by decide +kernel) rfl ?_
  refine ic_aload C (q := 0) (nx := 83) (by decide +kernel) rfl (lv_at hl 0 rfl) rfl ?_
  refine ic_getsN C (ix := 37) (Cn := "DatumDesk") (f := "QUOTE") (d := "[I") (v := .ref 1000) (nx := 86) List.mem_cons_self w_113 (by decide +kernel) rfl ?_
  change ic_J _ _ _ _ _ _ _ _ _ _ _ _ _ 86 [.ref (g_a G 1000), .ref h0] [(h0, .inr (0, [.ref q8, .ref q17, .ref q26, .ref q35, .ref q44, .int 0, .ref q58, .int 0, .ref q77, .int 0])), (q8, .inl (g_c G, 200, .inl (fun _ => 0))), (q17, .inl (g_c G, 200, .inl (fun _ => 0))), (q26, .inl (g_c G, 200, .inl (fun _ => 0))), (q35, .inl (g_c G, 200, .inl (fun _ => 0))), (q44, .inl (g_c G, 200, .inl (fun _ => 0))), (q58, .inl (g_c G, 200, .inl (fun _ => 0))), (q77, .inl (g_c G, 405, .inl (fun _ => 0)))] 7 1605
  refine ic_xlen C (a := 1000) (nx := 87) (hm_1000 G) (by decide +kernel) rfl ?_
  change ic_J _ _ _ _ _ _ _ _ _ _ _ _ _ 87 [.int 5, .ref h0] [(h0, .inr (0, [.ref q8, .ref q17, .ref q26, .ref q35, .ref q44, .int 0, .ref q58, .int 0, .ref q77, .int 0])), (q8, .inl (g_c G, 200, .inl (fun _ => 0))), (q17, .inl (g_c G, 200, .inl (fun _ => 0))), (q26, .inl (g_c G, 200, .inl (fun _ => 0))), (q35, .inl (g_c G, 200, .inl (fun _ => 0))), (q44, .inl (g_c G, 200, .inl (fun _ => 0))), (q58, .inl (g_c G, 200, .inl (fun _ => 0))), (q77, .inl (g_c G, 405, .inl (fun _ => 0)))] 7 1605
  refine ic_put C (T := T_Nodes) (N := 10) (ci := 0) (k := 9) (q0 := 0) (ix := 43) (nx := 90) (fs := [.ref q8, .ref q17, .ref q26, .ref q35, .ref q44, .int 0, .ref q58, .int 0, .ref q77, .int 0]) (v := .int 5) (ty := .int) (ws' := [(h0, .inr (0, [.ref q8, .ref q17, .ref q26, .ref q35, .ref q44, .int 0, .ref q58, .int 0, .ref q77, .int 5])), (q8, .inl (g_c G, 200, .inl (fun _ => 0))), (q17, .inl (g_c G, 200, .inl (fun _ => 0))), (q26, .inl (g_c G, 200, .inl (fun _ => 0))), (q35, .inl (g_c G, 200, .inl (fun _ => 0))), (q44, .inl (g_c G, 200, .inl (fun _ => 0))), (q58, .inl (g_c G, 200, .inl (fun _ => 0))), (q77, .inl (g_c G, 405, .inl (fun _ => 0)))]) t_Nodes rfl in_Nodes tok_Nodes nm_Nodes rfl (by decide) rfl rfl (by decide +kernel) rfl rfl (Nat.le_of_ble_eq_true rfl) w_129 rfl (by decide +kernel) rfl ?_
  refine ic_getsN C (ix := 37) (Cn := "DatumDesk") (f := "QUOTE") (d := "[I") (v := .ref 1000) (nx := 93) List.mem_cons_self w_113 (by decide +kernel) rfl ?_
  change ic_J _ _ _ _ _ _ _ _ _ _ _ _ _ 93 [.ref (g_a G 1000)] [(h0, .inr (0, [.ref q8, .ref q17, .ref q26, .ref q35, .ref q44, .int 0, .ref q58, .int 0, .ref q77, .int 5])), (q8, .inl (g_c G, 200, .inl (fun _ => 0))), (q17, .inl (g_c G, 200, .inl (fun _ => 0))), (q26, .inl (g_c G, 200, .inl (fun _ => 0))), (q35, .inl (g_c G, 200, .inl (fun _ => 0))), (q44, .inl (g_c G, 200, .inl (fun _ => 0))), (q58, .inl (g_c G, 200, .inl (fun _ => 0))), (q77, .inl (g_c G, 405, .inl (fun _ => 0)))] 7 1605
  refine ic_iconst C (n := 0) (v := 0) (nx := 94) (by decide +kernel) (by decide +kernel) rfl ?_
  refine ic_aload C (q := 0) (nx := 95) (by decide +kernel) rfl (lv_at hl 0 rfl) rfl ?_
  refine ic_get C (T := T_Nodes) (N := 10) (ci := 0) (k := 8) (q0 := 0) (ix := 40) (nx := 98) (fs := [.ref q8, .ref q17, .ref q26, .ref q35, .ref q44, .int 0, .ref q58, .int 0, .ref q77, .int 5]) (v := .ref q77) rfl in_Nodes rfl (by decide) rfl rfl w_128 (by decide +kernel) rfl ?_
  refine ic_iconst C (n := 0) (v := 0) (nx := 99) (by decide +kernel) (by decide +kernel) rfl ?_
  refine ic_getsN C (ix := 37) (Cn := "DatumDesk") (f := "QUOTE") (d := "[I") (v := .ref 1000) (nx := 102) List.mem_cons_self w_113 (by decide +kernel) rfl ?_
  change ic_J _ _ _ _ _ _ _ _ _ _ _ _ _ 102 [.ref (g_a G 1000), .int 0, .ref q77, .int 0, .ref (g_a G 1000)] [(h0, .inr (0, [.ref q8, .ref q17, .ref q26, .ref q35, .ref q44, .int 0, .ref q58, .int 0, .ref q77, .int 5])), (q8, .inl (g_c G, 200, .inl (fun _ => 0))), (q17, .inl (g_c G, 200, .inl (fun _ => 0))), (q26, .inl (g_c G, 200, .inl (fun _ => 0))), (q35, .inl (g_c G, 200, .inl (fun _ => 0))), (q44, .inl (g_c G, 200, .inl (fun _ => 0))), (q58, .inl (g_c G, 200, .inl (fun _ => 0))), (q77, .inl (g_c G, 405, .inl (fun _ => 0)))] 7 1605
  refine ic_xlen C (a := 1000) (nx := 103) (hm_1000 G) (by decide +kernel) rfl ?_
  change ic_J _ _ _ _ _ _ _ _ _ _ _ _ _ 103 [.int 5, .int 0, .ref q77, .int 0, .ref (g_a G 1000)] [(h0, .inr (0, [.ref q8, .ref q17, .ref q26, .ref q35, .ref q44, .int 0, .ref q58, .int 0, .ref q77, .int 5])), (q8, .inl (g_c G, 200, .inl (fun _ => 0))), (q17, .inl (g_c G, 200, .inl (fun _ => 0))), (q26, .inl (g_c G, 200, .inl (fun _ => 0))), (q35, .inl (g_c G, 200, .inl (fun _ => 0))), (q44, .inl (g_c G, 200, .inl (fun _ => 0))), (q58, .inl (g_c G, 200, .inl (fun _ => 0))), (q77, .inl (g_c G, 405, .inl (fun _ => 0)))] 7 1605
  refine ic_copy C (a0 := 1000) (q1 := 7) (n1 := 405) (k := 5) (ix := 46) (nx := 106) (g := fun _ => 0) (ws' := [(h0, .inr (0, [.ref q8, .ref q17, .ref q26, .ref q35, .ref q44, .int 0, .ref q58, .int 0, .ref q77, .int 5])), (q8, .inl (g_c G, 200, .inl (fun _ => 0))), (q17, .inl (g_c G, 200, .inl (fun _ => 0))), (q26, .inl (g_c G, 200, .inl (fun _ => 0))), (q35, .inl (g_c G, 200, .inl (fun _ => 0))), (q44, .inl (g_c G, 200, .inl (fun _ => 0))), (q58, .inl (g_c G, 200, .inl (fun _ => 0))), (q77, .inl (g_c G, 405, .inl (va_cpy QF (fun _ => 0) 0 0 5)))]) (hm_1000 G) w_115 w_117 w_116 w_73 rfl (by decide) (by decide +kernel) (by decide) (by decide) (Nat.le_of_ble_eq_true rfl) (by decide +kernel) rfl (by decide +kernel) rfl ?_
  exact ic_vret C (fun i => match i with | 4 => q8 | 5 => q17 | 6 => q26 | 7 => q35 | 8 => q44 | 9 => q58 | 10 => q77 | _ => 0) rfl rfl (by decide +kernel)
def wf_Tokens (G : aG) (h0 : Nat) (u : Nat → Nat) : va_W := [(h0, .inr (3, [.ref (u 13), .ref (u 14), .ref (u 15), .int 0])), ((u 13), .inl (g_c G, 401, .inl (fun _ => 0))), ((u 14), .inl (g_c G, 401, .inl (fun _ => 0))), ((u 15), .inl (g_c G, 401, .inl (fun _ => 0)))]
set_option maxRecDepth 20000 in
set_option maxHeartbeats 4000000 in
theorem ci_Tokens (G : aG) : ic_Met G Y_Tokens_init 1 3 1203 3 [.null, .null, .null, .int 0] [] (wf_Tokens G) := by
  refine ic_entry (by decide +kernel) rfl (fun _ => Nat.le_of_ble_eq_true rfl) ?_
  intro h0 p e s m args below meth c ls C hin hl
  have hl : lv_has ls 1 [(0, .ref h0)] := hl
  refine ic_aload C (q := 0) (nx := 1) (by decide +kernel) rfl (lv_at hl 0 rfl) rfl ?_
  refine ic_objInit C (ix := 3) (nx := 4) w_162 w_90 w_91 (Nat.le_of_ble_eq_true rfl) (Nat.le_of_ble_eq_true rfl) (by decide +kernel) rfl ?_
  refine ic_aload C (q := 0) (nx := 5) (by decide +kernel) rfl (lv_at hl 0 rfl) rfl ?_
  refine ic_sipush C (n := 401) (v := 401) (nx := 8) (by decide +kernel) (by decide +kernel) rfl ?_
  refine ic_newa C (N := 401) (nx := 10) w_106 (by decide) (by decide +kernel) (by decide) (Nat.le_of_ble_eq_true rfl) (Nat.le_of_ble_eq_true rfl) (by decide +kernel) rfl (fun q8 => ?_)
  change ic_J _ _ _ _ _ _ _ _ _ _ _ _ _ 10 [.ref q8, .ref h0] [(h0, .inr (3, [.null, .null, .null, .int 0])), (q8, .inl (g_c G, 401, .inl (fun _ => 0)))] 1 401
  refine ic_putF C hin (T := T_Tokens) (N := 4) (ci := 3) (k := 0) (q0 := 0) (ix := 9) (nx := 13) (fs := [.null, .null, .null, .int 0]) (v := .ref q8) (ty := .array .int) (ws' := [(h0, .inr (3, [.ref q8, .null, .null, .int 0])), (q8, .inl (g_c G, 401, .inl (fun _ => 0)))]) t_Tokens rfl in_Tokens tok_Tokens nm_Tokens rfl (by decide) rfl rfl (by decide +kernel) rfl rfl (Nat.le_of_ble_eq_true rfl) w_163 rfl (by decide +kernel) rfl ?_
  refine ic_aload C (q := 0) (nx := 14) (by decide +kernel) rfl (lv_at hl 0 rfl) rfl ?_
  refine ic_sipush C (n := 401) (v := 401) (nx := 17) (by decide +kernel) (by decide +kernel) rfl ?_
  refine ic_newa C (N := 401) (nx := 19) w_106 (by decide) (by decide +kernel) (by decide) (Nat.le_of_ble_eq_true rfl) (Nat.le_of_ble_eq_true rfl) (by decide +kernel) rfl (fun q17 => ?_)
  change ic_J _ _ _ _ _ _ _ _ _ _ _ _ _ 19 [.ref q17, .ref h0] [(h0, .inr (3, [.ref q8, .null, .null, .int 0])), (q8, .inl (g_c G, 401, .inl (fun _ => 0))), (q17, .inl (g_c G, 401, .inl (fun _ => 0)))] 2 802
  refine ic_putF C hin (T := T_Tokens) (N := 4) (ci := 3) (k := 1) (q0 := 0) (ix := 15) (nx := 22) (fs := [.ref q8, .null, .null, .int 0]) (v := .ref q17) (ty := .array .int) (ws' := [(h0, .inr (3, [.ref q8, .ref q17, .null, .int 0])), (q8, .inl (g_c G, 401, .inl (fun _ => 0))), (q17, .inl (g_c G, 401, .inl (fun _ => 0)))]) t_Tokens rfl in_Tokens tok_Tokens nm_Tokens rfl (by decide) rfl rfl (by decide +kernel) rfl rfl (Nat.le_of_ble_eq_true rfl) w_164 rfl (by decide +kernel) rfl ?_
  refine ic_aload C (q := 0) (nx := 23) (by decide +kernel) rfl (lv_at hl 0 rfl) rfl ?_
  refine ic_sipush C (n := 401) (v := 401) (nx := 26) (by decide +kernel) (by decide +kernel) rfl ?_
  refine ic_newa C (N := 401) (nx := 28) w_106 (by decide) (by decide +kernel) (by decide) (Nat.le_of_ble_eq_true rfl) (Nat.le_of_ble_eq_true rfl) (by decide +kernel) rfl (fun q26 => ?_)
  change ic_J _ _ _ _ _ _ _ _ _ _ _ _ _ 28 [.ref q26, .ref h0] [(h0, .inr (3, [.ref q8, .ref q17, .null, .int 0])), (q8, .inl (g_c G, 401, .inl (fun _ => 0))), (q17, .inl (g_c G, 401, .inl (fun _ => 0))), (q26, .inl (g_c G, 401, .inl (fun _ => 0)))] 3 1203
  refine ic_putF C hin (T := T_Tokens) (N := 4) (ci := 3) (k := 2) (q0 := 0) (ix := 18) (nx := 31) (fs := [.ref q8, .ref q17, .null, .int 0]) (v := .ref q26) (ty := .array .int) (ws' := [(h0, .inr (3, [.ref q8, .ref q17, .ref q26, .int 0])), (q8, .inl (g_c G, 401, .inl (fun _ => 0))), (q17, .inl (g_c G, 401, .inl (fun _ => 0))), (q26, .inl (g_c G, 401, .inl (fun _ => 0)))]) t_Tokens rfl in_Tokens tok_Tokens nm_Tokens rfl (by decide) rfl rfl (by decide +kernel) rfl rfl (Nat.le_of_ble_eq_true rfl) w_165 rfl (by decide +kernel) rfl ?_
  refine ic_aload C (q := 0) (nx := 32) (by decide +kernel) rfl (lv_at hl 0 rfl) rfl ?_
  refine ic_iconst C (n := 0) (v := 0) (nx := 33) (by decide +kernel) (by decide +kernel) rfl ?_
  refine ic_put C (T := T_Tokens) (N := 4) (ci := 3) (k := 3) (q0 := 0) (ix := 21) (nx := 36) (fs := [.ref q8, .ref q17, .ref q26, .int 0]) (v := .int 0) (ty := .int) (ws' := [(h0, .inr (3, [.ref q8, .ref q17, .ref q26, .int 0])), (q8, .inl (g_c G, 401, .inl (fun _ => 0))), (q17, .inl (g_c G, 401, .inl (fun _ => 0))), (q26, .inl (g_c G, 401, .inl (fun _ => 0)))]) t_Tokens rfl in_Tokens tok_Tokens nm_Tokens rfl (by decide) rfl rfl (by decide +kernel) rfl rfl (Nat.le_of_ble_eq_true rfl) w_166 rfl (by decide +kernel) rfl ?_
  exact ic_vret C (fun i => match i with | 13 => q8 | 14 => q17 | 15 => q26 | _ => 0) rfl rfl (by decide +kernel)
def wf_Reader (G : aG) (a b : Nat) (h0 : Nat) (u : Nat → Nat) : va_W := [(h0, .inr (1, [.ref a, .ref b, .ref (u 12), .int 0, .int (-1)])), ((u 12), .inr (3, [.ref (u 13), .ref (u 14), .ref (u 15), .int 0])), ((u 13), .inl (g_c G, 401, .inl (fun _ => 0))), ((u 14), .inl (g_c G, 401, .inl (fun _ => 0))), ((u 15), .inl (g_c G, 401, .inl (fun _ => 0)))]
set_option maxRecDepth 20000 in
set_option maxHeartbeats 4000000 in
theorem ci_Reader (G : aG) (a b : Nat) : ic_Met G Y_Reader_init 2 4 1207 1 [.null, .null, .null, .int 0, .int 0] [.ref a, .ref b] (wf_Reader G a b) := by
  refine ic_entry (by decide +kernel) rfl (fun _ => Nat.le_of_ble_eq_true rfl) ?_
  intro h0 p e s m args below meth c ls C hin hl
  have hl : lv_has ls 3 [(0, .ref h0), (1, .ref a), (2, .ref b)] := hl
  refine ic_aload C (q := 0) (nx := 1) (by decide +kernel) rfl (lv_at hl 0 rfl) rfl ?_
  refine ic_objInit C (ix := 3) (nx := 4) w_156 w_90 w_91 (Nat.le_of_ble_eq_true rfl) (Nat.le_of_ble_eq_true rfl) (by decide +kernel) rfl ?_
  refine ic_aload C (q := 0) (nx := 5) (by decide +kernel) rfl (lv_at hl 0 rfl) rfl ?_
  refine ic_new C (Cn := "DatumDesk$Tokens") (T := T_Tokens) (N := 4) (ci := 3) (ix := 9) (nx := 8) t_Tokens (fs := [.null, .null, .null, .int 0]) rfl in_Tokens tok_Tokens w_157 w_158 w_75 (fun j hj => by rcases (show j = 0 ∨ j = 1 ∨ j = 2 ∨ j = 3 by omega) with rfl | rfl | rfl | rfl <;> rfl) (Nat.le_of_ble_eq_true rfl) (Nat.le_of_ble_eq_true rfl) (by decide +kernel) rfl (fun q5 => ?_)
  change ic_J _ _ _ _ _ _ _ _ _ _ _ _ _ 8 [.ref q5, .ref h0] [(h0, .inr (1, [.null, .null, .null, .int 0, .int 0])), (q5, .inr (3, [.null, .null, .null, .int 0]))] 1 4
  refine ic_dup C (nx := 9) (by decide +kernel) rfl ?_
  refine ic_callN C (b := q5) (st := [.ref q5, .ref h0]) (wr := [(h0, .inr (1, [.null, .null, .null, .int 0, .int 0]))]) (nx := 12) (ci_Tokens G) w_161 rfl w_75 w_160 w_159 rfl hy_Tokens_init (Nat.le_of_ble_eq_true rfl) (Nat.le_of_ble_eq_true rfl) (Nat.le_of_ble_eq_true rfl) (Nat.le_of_ble_eq_true rfl) rfl rfl (Nat.le_of_ble_eq_true rfl) [1] [0] rfl (by decide) rfl (by decide) (by decide) (by decide +kernel) rfl (fun u9 => ?_)
  change ic_J _ _ _ _ _ _ _ _ _ _ _ _ _ 12 [.ref q5, .ref h0] [(h0, .inr (1, [.null, .null, .null, .int 0, .int 0])), (q5, .inr (3, [.ref (u9 13), .ref (u9 14), .ref (u9 15), .int 0])), ((u9 13), .inl (g_c G, 401, .inl (fun _ => 0))), ((u9 14), .inl (g_c G, 401, .inl (fun _ => 0))), ((u9 15), .inl (g_c G, 401, .inl (fun _ => 0)))] 4 1207
  refine ic_putF C hin (T := T_Reader) (N := 5) (ci := 1) (k := 2) (q0 := 0) (ix := 12) (nx := 15) (fs := [.null, .null, .null, .int 0, .int 0]) (v := .ref q5) (ty := .object "DatumDesk$Tokens") (ws' := [(h0, .inr (1, [.null, .null, .ref q5, .int 0, .int 0])), (q5, .inr (3, [.ref (u9 13), .ref (u9 14), .ref (u9 15), .int 0])), ((u9 13), .inl (g_c G, 401, .inl (fun _ => 0))), ((u9 14), .inl (g_c G, 401, .inl (fun _ => 0))), ((u9 15), .inl (g_c G, 401, .inl (fun _ => 0)))]) t_Reader rfl in_Reader tok_Reader nm_Reader rfl (by decide) rfl rfl (by decide +kernel) rfl rfl (Nat.le_of_ble_eq_true rfl) w_178 rfl (by decide +kernel) rfl ?_
  refine ic_aload C (q := 0) (nx := 16) (by decide +kernel) rfl (lv_at hl 0 rfl) rfl ?_
  refine ic_iconst C (n := 0) (v := 0) (nx := 17) (by decide +kernel) (by decide +kernel) rfl ?_
  refine ic_put C (T := T_Reader) (N := 5) (ci := 1) (k := 3) (q0 := 0) (ix := 18) (nx := 20) (fs := [.null, .null, .ref q5, .int 0, .int 0]) (v := .int 0) (ty := .int) (ws' := [(h0, .inr (1, [.null, .null, .ref q5, .int 0, .int 0])), (q5, .inr (3, [.ref (u9 13), .ref (u9 14), .ref (u9 15), .int 0])), ((u9 13), .inl (g_c G, 401, .inl (fun _ => 0))), ((u9 14), .inl (g_c G, 401, .inl (fun _ => 0))), ((u9 15), .inl (g_c G, 401, .inl (fun _ => 0)))]) t_Reader rfl in_Reader tok_Reader nm_Reader rfl (by decide) rfl rfl (by decide +kernel) rfl rfl (Nat.le_of_ble_eq_true rfl) w_179 rfl (by decide +kernel) rfl ?_
  refine ic_aload C (q := 0) (nx := 21) (by decide +kernel) rfl (lv_at hl 0 rfl) rfl ?_
  refine ic_iconst C (n := (-1)) (v := (-1)) (nx := 22) (by decide +kernel) (by decide +kernel) rfl ?_
  refine ic_put C (T := T_Reader) (N := 5) (ci := 1) (k := 4) (q0 := 0) (ix := 22) (nx := 25) (fs := [.null, .null, .ref q5, .int 0, .int 0]) (v := .int (-1)) (ty := .int) (ws' := [(h0, .inr (1, [.null, .null, .ref q5, .int 0, .int (-1)])), (q5, .inr (3, [.ref (u9 13), .ref (u9 14), .ref (u9 15), .int 0])), ((u9 13), .inl (g_c G, 401, .inl (fun _ => 0))), ((u9 14), .inl (g_c G, 401, .inl (fun _ => 0))), ((u9 15), .inl (g_c G, 401, .inl (fun _ => 0)))]) t_Reader rfl in_Reader tok_Reader nm_Reader rfl (by decide) rfl rfl (by decide +kernel) rfl rfl (Nat.le_of_ble_eq_true rfl) w_180 rfl (by decide +kernel) rfl ?_
  refine ic_aload C (q := 0) (nx := 26) (by decide +kernel) rfl (lv_at hl 0 rfl) rfl ?_
  refine ic_aload C (q := 1) (nx := 27) (by decide +kernel) rfl (lv_at hl 1 rfl) rfl ?_
  refine ic_putF C hin (T := T_Reader) (N := 5) (ci := 1) (k := 0) (q0 := 0) (ix := 25) (nx := 30) (fs := [.null, .null, .ref q5, .int 0, .int (-1)]) (v := .ref a) (ty := .object "DatumDesk$Text") (ws' := [(h0, .inr (1, [.ref a, .null, .ref q5, .int 0, .int (-1)])), (q5, .inr (3, [.ref (u9 13), .ref (u9 14), .ref (u9 15), .int 0])), ((u9 13), .inl (g_c G, 401, .inl (fun _ => 0))), ((u9 14), .inl (g_c G, 401, .inl (fun _ => 0))), ((u9 15), .inl (g_c G, 401, .inl (fun _ => 0)))]) t_Reader rfl in_Reader tok_Reader nm_Reader rfl (by decide) rfl rfl (by decide +kernel) rfl rfl (Nat.le_of_ble_eq_true rfl) w_176 rfl (by decide +kernel) rfl ?_
  refine ic_aload C (q := 0) (nx := 31) (by decide +kernel) rfl (lv_at hl 0 rfl) rfl ?_
  refine ic_aload C (q := 2) (nx := 32) (by decide +kernel) rfl (lv_at hl 2 rfl) rfl ?_
  refine ic_putF C hin (T := T_Reader) (N := 5) (ci := 1) (k := 1) (q0 := 0) (ix := 29) (nx := 35) (fs := [.ref a, .null, .ref q5, .int 0, .int (-1)]) (v := .ref b) (ty := .object "DatumDesk$Nodes") (ws' := [(h0, .inr (1, [.ref a, .ref b, .ref q5, .int 0, .int (-1)])), (q5, .inr (3, [.ref (u9 13), .ref (u9 14), .ref (u9 15), .int 0])), ((u9 13), .inl (g_c G, 401, .inl (fun _ => 0))), ((u9 14), .inl (g_c G, 401, .inl (fun _ => 0))), ((u9 15), .inl (g_c G, 401, .inl (fun _ => 0)))]) t_Reader rfl in_Reader tok_Reader nm_Reader rfl (by decide) rfl rfl (by decide +kernel) rfl rfl (Nat.le_of_ble_eq_true rfl) w_177 rfl (by decide +kernel) rfl ?_
  exact ic_vret C (fun i => match i with | 12 => q5 | 13 => (u9 13) | 14 => (u9 14) | 15 => (u9 15) | _ => 0) rfl rfl (by decide +kernel)
def wf_Waiting (G : aG) (h0 : Nat) (u : Nat → Nat) : va_W := [(h0, .inr (4, [.ref (u 17), .int 0, .int 0])), ((u 17), .inl (g_c G, 500, .inl (fun _ => 0)))]
set_option maxRecDepth 20000 in
set_option maxHeartbeats 4000000 in
theorem ci_Waiting (G : aG) : ic_Met G Y_Waiting_init 1 1 500 4 [.null, .int 0, .int 0] [] (wf_Waiting G) := by
  refine ic_entry (by decide +kernel) rfl (fun _ => Nat.le_of_ble_eq_true rfl) ?_
  intro h0 p e s m args below meth c ls C hin hl
  have hl : lv_has ls 1 [(0, .ref h0)] := hl
  refine ic_aload C (q := 0) (nx := 1) (by decide +kernel) rfl (lv_at hl 0 rfl) rfl ?_
  refine ic_objInit C (ix := 3) (nx := 4) w_198 w_90 w_91 (Nat.le_of_ble_eq_true rfl) (Nat.le_of_ble_eq_true rfl) (by decide +kernel) rfl ?_
  refine ic_aload C (q := 0) (nx := 5) (by decide +kernel) rfl (lv_at hl 0 rfl) rfl ?_
  refine ic_sipush C (n := 500) (v := 500) (nx := 8) (by decide +kernel) (by decide +kernel) rfl ?_
  refine ic_newa C (N := 500) (nx := 10) w_106 (by decide) (by decide +kernel) (by decide) (Nat.le_of_ble_eq_true rfl) (Nat.le_of_ble_eq_true rfl) (by decide +kernel) rfl (fun q8 => ?_)
  change ic_J _ _ _ _ _ _ _ _ _ _ _ _ _ 10 [.ref q8, .ref h0] [(h0, .inr (4, [.null, .int 0, .int 0])), (q8, .inl (g_c G, 500, .inl (fun _ => 0)))] 1 500
  refine ic_putF C hin (T := T_Waiting) (N := 3) (ci := 4) (k := 0) (q0 := 0) (ix := 9) (nx := 13) (fs := [.null, .int 0, .int 0]) (v := .ref q8) (ty := .array .int) (ws' := [(h0, .inr (4, [.ref q8, .int 0, .int 0])), (q8, .inl (g_c G, 500, .inl (fun _ => 0)))]) t_Waiting rfl in_Waiting tok_Waiting nm_Waiting rfl (by decide) rfl rfl (by decide +kernel) rfl rfl (Nat.le_of_ble_eq_true rfl) w_199 rfl (by decide +kernel) rfl ?_
  refine ic_aload C (q := 0) (nx := 14) (by decide +kernel) rfl (lv_at hl 0 rfl) rfl ?_
  refine ic_iconst C (n := 0) (v := 0) (nx := 15) (by decide +kernel) (by decide +kernel) rfl ?_
  refine ic_put C (T := T_Waiting) (N := 3) (ci := 4) (k := 1) (q0 := 0) (ix := 15) (nx := 18) (fs := [.ref q8, .int 0, .int 0]) (v := .int 0) (ty := .int) (ws' := [(h0, .inr (4, [.ref q8, .int 0, .int 0])), (q8, .inl (g_c G, 500, .inl (fun _ => 0)))]) t_Waiting rfl in_Waiting tok_Waiting nm_Waiting rfl (by decide) rfl rfl (by decide +kernel) rfl rfl (Nat.le_of_ble_eq_true rfl) w_200 rfl (by decide +kernel) rfl ?_
  refine ic_aload C (q := 0) (nx := 19) (by decide +kernel) rfl (lv_at hl 0 rfl) rfl ?_
  refine ic_iconst C (n := 0) (v := 0) (nx := 20) (by decide +kernel) (by decide +kernel) rfl ?_
  refine ic_put C (T := T_Waiting) (N := 3) (ci := 4) (k := 2) (q0 := 0) (ix := 19) (nx := 23) (fs := [.ref q8, .int 0, .int 0]) (v := .int 0) (ty := .int) (ws' := [(h0, .inr (4, [.ref q8, .int 0, .int 0])), (q8, .inl (g_c G, 500, .inl (fun _ => 0)))]) t_Waiting rfl in_Waiting tok_Waiting nm_Waiting rfl (by decide) rfl rfl (by decide +kernel) rfl rfl (Nat.le_of_ble_eq_true rfl) w_201 rfl (by decide +kernel) rfl ?_
  exact ic_vret C (fun i => match i with | 17 => q8 | _ => 0) rfl rfl (by decide +kernel)
def wf_Writer (G : aG) (a b : Nat) (h0 : Nat) (u : Nat → Nat) : va_W := [(h0, .inr (5, [.ref a, .ref b]))]
set_option maxRecDepth 20000 in
set_option maxHeartbeats 4000000 in
theorem ci_Writer (G : aG) (a b : Nat) : ic_Met G Y_Writer_init 1 0 0 5 [.null, .null] [.ref a, .ref b] (wf_Writer G a b) := by
  refine ic_entry (by decide +kernel) rfl (fun _ => Nat.le_of_ble_eq_true rfl) ?_
  intro h0 p e s m args below meth c ls C hin hl
  have hl : lv_has ls 3 [(0, .ref h0), (1, .ref a), (2, .ref b)] := hl
  refine ic_aload C (q := 0) (nx := 1) (by decide +kernel) rfl (lv_at hl 0 rfl) rfl ?_
  refine ic_objInit C (ix := 3) (nx := 4) w_215 w_90 w_91 (Nat.le_of_ble_eq_true rfl) (Nat.le_of_ble_eq_true rfl) (by decide +kernel) rfl ?_
  refine ic_aload C (q := 0) (nx := 5) (by decide +kernel) rfl (lv_at hl 0 rfl) rfl ?_
  refine ic_aload C (q := 1) (nx := 6) (by decide +kernel) rfl (lv_at hl 1 rfl) rfl ?_
  refine ic_putF C hin (T := T_Writer) (N := 2) (ci := 5) (k := 0) (q0 := 0) (ix := 9) (nx := 9) (fs := [.null, .null]) (v := .ref a) (ty := .object "DatumDesk$Nodes") (ws' := [(h0, .inr (5, [.ref a, .null]))]) t_Writer rfl in_Writer tok_Writer nm_Writer rfl (by decide) rfl rfl (by decide +kernel) rfl rfl (Nat.le_of_ble_eq_true rfl) w_216 rfl (by decide +kernel) rfl ?_
  refine ic_aload C (q := 0) (nx := 10) (by decide +kernel) rfl (lv_at hl 0 rfl) rfl ?_
  refine ic_aload C (q := 2) (nx := 11) (by decide +kernel) rfl (lv_at hl 2 rfl) rfl ?_
  refine ic_putF C hin (T := T_Writer) (N := 2) (ci := 5) (k := 1) (q0 := 0) (ix := 15) (nx := 14) (fs := [.ref a, .null]) (v := .ref b) (ty := .object "DatumDesk$Waiting") (ws' := [(h0, .inr (5, [.ref a, .ref b]))]) t_Writer rfl in_Writer tok_Writer nm_Writer rfl (by decide) rfl rfl (by decide +kernel) rfl rfl (Nat.le_of_ble_eq_true rfl) w_217 rfl (by decide +kernel) rfl ?_
  exact ic_vret C (fun i => match i with  | _ => 0) rfl rfl (by decide +kernel)
def wf_Desk (G : aG) (h0 : Nat) (u : Nat → Nat) : va_W := [(h0, .inr (6, [.ref (u 1), .ref (u 3), .ref (u 11), .ref (u 16), .ref (u 18)])), ((u 1), .inr (2, [.ref (u 2), .int 0])), ((u 2), .inl (g_c G, 400, .inl (fun _ => 0))), ((u 3), .inr (0, [.ref (u 4), .ref (u 5), .ref (u 6), .ref (u 7), .ref (u 8), .int 0, .ref (u 9), .int 0, .ref (u 10), .int 5])), ((u 4), .inl (g_c G, 200, .inl (fun _ => 0))), ((u 5), .inl (g_c G, 200, .inl (fun _ => 0))), ((u 6), .inl (g_c G, 200, .inl (fun _ => 0))), ((u 7), .inl (g_c G, 200, .inl (fun _ => 0))), ((u 8), .inl (g_c G, 200, .inl (fun _ => 0))), ((u 9), .inl (g_c G, 200, .inl (fun _ => 0))), ((u 10), .inl (g_c G, 405, .inl (va_cpy QF (fun _ => 0) 0 0 5))), ((u 11), .inr (1, [.ref (u 1), .ref (u 3), .ref (u 12), .int 0, .int (-1)])), ((u 12), .inr (3, [.ref (u 13), .ref (u 14), .ref (u 15), .int 0])), ((u 13), .inl (g_c G, 401, .inl (fun _ => 0))), ((u 14), .inl (g_c G, 401, .inl (fun _ => 0))), ((u 15), .inl (g_c G, 401, .inl (fun _ => 0))), ((u 16), .inr (4, [.ref (u 17), .int 0, .int 0])), ((u 17), .inl (g_c G, 500, .inl (fun _ => 0))), ((u 18), .inr (5, [.ref (u 3), .ref (u 16)]))]
set_option maxRecDepth 20000 in
set_option maxHeartbeats 4000000 in
theorem ci_Desk (G : aG) : ic_Met G Y_Desk_init 3 18 3734 6 [.null, .null, .null, .null, .null] [] (wf_Desk G) := by
  refine ic_entry (by decide +kernel) rfl (fun _ => Nat.le_of_ble_eq_true rfl) ?_
  intro h0 p e s m args below meth c ls C hin hl
  have hl : lv_has ls 1 [(0, .ref h0)] := hl
  refine ic_aload C (q := 0) (nx := 1) (by decide +kernel) rfl (lv_at hl 0 rfl) rfl ?_
  refine ic_objInit C (ix := 1) (nx := 4) w_89 w_90 w_91 (Nat.le_of_ble_eq_true rfl) (Nat.le_of_ble_eq_true rfl) (by decide +kernel) rfl ?_
  refine ic_aload C (q := 0) (nx := 5) (by decide +kernel) rfl (lv_at hl 0 rfl) rfl ?_
  refine ic_new C (Cn := "DatumDesk$Text") (T := T_Text) (N := 2) (ci := 2) (ix := 7) (nx := 8) t_Text (fs := [.null, .int 0]) rfl in_Text tok_Text w_92 w_93 w_71 (fun j hj => by rcases (show j = 0 ∨ j = 1 by omega) with rfl | rfl <;> rfl) (Nat.le_of_ble_eq_true rfl) (Nat.le_of_ble_eq_true rfl) (by decide +kernel) rfl (fun q5 => ?_)
  change ic_J _ _ _ _ _ _ _ _ _ _ _ _ _ 8 [.ref q5, .ref h0] [(h0, .inr (6, [.null, .null, .null, .null, .null])), (q5, .inr (2, [.null, .int 0]))] 1 2
  refine ic_dup C (nx := 9) (by decide +kernel) rfl ?_
  refine ic_callN C (b := q5) (st := [.ref q5, .ref h0]) (wr := [(h0, .inr (6, [.null, .null, .null, .null, .null]))]) (nx := 12) (ci_Text G) w_96 rfl w_71 w_95 w_94 rfl hy_Text_init (Nat.le_of_ble_eq_true rfl) (Nat.le_of_ble_eq_true rfl) (Nat.le_of_ble_eq_true rfl) (Nat.le_of_ble_eq_true rfl) rfl rfl (Nat.le_of_ble_eq_true rfl) [1] [0] rfl (by decide) rfl (by decide) (by decide) (by decide +kernel) rfl (fun u9 => ?_)
  change ic_J _ _ _ _ _ _ _ _ _ _ _ _ _ 12 [.ref q5, .ref h0] [(h0, .inr (6, [.null, .null, .null, .null, .null])), (q5, .inr (2, [.ref (u9 2), .int 0])), ((u9 2), .inl (g_c G, 400, .inl (fun _ => 0)))] 2 402
  refine ic_putF C hin (T := T_Desk) (N := 5) (ci := 6) (k := 0) (q0 := 0) (ix := 10) (nx := 15) (fs := [.null, .null, .null, .null, .null]) (v := .ref q5) (ty := .object "DatumDesk$Text") (ws' := [(h0, .inr (6, [.ref q5, .null, .null, .null, .null])), (q5, .inr (2, [.ref (u9 2), .int 0])), ((u9 2), .inl (g_c G, 400, .inl (fun _ => 0)))]) t_Desk rfl in_Desk tok_Desk nm_Desk rfl (by decide) rfl rfl (by decide +kernel) rfl rfl (Nat.le_of_ble_eq_true rfl) w_223 rfl (by decide +kernel) rfl ?_
  refine ic_aload C (q := 0) (nx := 16) (by decide +kernel) rfl (lv_at hl 0 rfl) rfl ?_
  refine ic_new C (Cn := "DatumDesk$Nodes") (T := T_Nodes) (N := 10) (ci := 0) (ix := 16) (nx := 19) t_Nodes (fs := [.null, .null, .null, .null, .null, .int 0, .null, .int 0, .null, .int 0]) rfl in_Nodes tok_Nodes w_107 w_108 w_72 (fun j hj => by rcases (show j = 0 ∨ j = 1 ∨ j = 2 ∨ j = 3 ∨ j = 4 ∨ j = 5 ∨ j = 6 ∨ j = 7 ∨ j = 8 ∨ j = 9 by omega) with rfl | rfl | rfl | rfl | rfl | rfl | rfl | rfl | rfl | rfl <;> rfl) (Nat.le_of_ble_eq_true rfl) (Nat.le_of_ble_eq_true rfl) (by decide +kernel) rfl (fun q16 => ?_)
  change ic_J _ _ _ _ _ _ _ _ _ _ _ _ _ 19 [.ref q16, .ref h0] [(h0, .inr (6, [.ref q5, .null, .null, .null, .null])), (q5, .inr (2, [.ref (u9 2), .int 0])), ((u9 2), .inl (g_c G, 400, .inl (fun _ => 0))), (q16, .inr (0, [.null, .null, .null, .null, .null, .int 0, .null, .int 0, .null, .int 0]))] 3 412
  refine ic_dup C (nx := 20) (by decide +kernel) rfl ?_
  refine ic_callN C (b := q16) (st := [.ref q16, .ref h0]) (wr := [(h0, .inr (6, [.ref q5, .null, .null, .null, .null])), (q5, .inr (2, [.ref (u9 2), .int 0])), ((u9 2), .inl (g_c G, 400, .inl (fun _ => 0)))]) (nx := 23) (ci_Nodes G) w_111 rfl w_72 w_110 w_109 rfl hy_Nodes_init (Nat.le_of_ble_eq_true rfl) (Nat.le_of_ble_eq_true rfl) (Nat.le_of_ble_eq_true rfl) (Nat.le_of_ble_eq_true rfl) rfl rfl (Nat.le_of_ble_eq_true rfl) [3] [0, 1, 2] rfl (by decide) rfl (by decide) (by decide) (by decide +kernel) rfl (fun u20 => ?_)
  change ic_J _ _ _ _ _ _ _ _ _ _ _ _ _ 23 [.ref q16, .ref h0] [(h0, .inr (6, [.ref q5, .null, .null, .null, .null])), (q5, .inr (2, [.ref (u9 2), .int 0])), ((u9 2), .inl (g_c G, 400, .inl (fun _ => 0))), (q16, .inr (0, [.ref (u20 4), .ref (u20 5), .ref (u20 6), .ref (u20 7), .ref (u20 8), .int 0, .ref (u20 9), .int 0, .ref (u20 10), .int 5])), ((u20 4), .inl (g_c G, 200, .inl (fun _ => 0))), ((u20 5), .inl (g_c G, 200, .inl (fun _ => 0))), ((u20 6), .inl (g_c G, 200, .inl (fun _ => 0))), ((u20 7), .inl (g_c G, 200, .inl (fun _ => 0))), ((u20 8), .inl (g_c G, 200, .inl (fun _ => 0))), ((u20 9), .inl (g_c G, 200, .inl (fun _ => 0))), ((u20 10), .inl (g_c G, 405, .inl (va_cpy QF (fun _ => 0) 0 0 5)))] 10 2017
  refine ic_putF C hin (T := T_Desk) (N := 5) (ci := 6) (k := 1) (q0 := 0) (ix := 19) (nx := 26) (fs := [.ref q5, .null, .null, .null, .null]) (v := .ref q16) (ty := .object "DatumDesk$Nodes") (ws' := [(h0, .inr (6, [.ref q5, .ref q16, .null, .null, .null])), (q5, .inr (2, [.ref (u9 2), .int 0])), ((u9 2), .inl (g_c G, 400, .inl (fun _ => 0))), (q16, .inr (0, [.ref (u20 4), .ref (u20 5), .ref (u20 6), .ref (u20 7), .ref (u20 8), .int 0, .ref (u20 9), .int 0, .ref (u20 10), .int 5])), ((u20 4), .inl (g_c G, 200, .inl (fun _ => 0))), ((u20 5), .inl (g_c G, 200, .inl (fun _ => 0))), ((u20 6), .inl (g_c G, 200, .inl (fun _ => 0))), ((u20 7), .inl (g_c G, 200, .inl (fun _ => 0))), ((u20 8), .inl (g_c G, 200, .inl (fun _ => 0))), ((u20 9), .inl (g_c G, 200, .inl (fun _ => 0))), ((u20 10), .inl (g_c G, 405, .inl (va_cpy QF (fun _ => 0) 0 0 5)))]) t_Desk rfl in_Desk tok_Desk nm_Desk rfl (by decide) rfl rfl (by decide +kernel) rfl rfl (Nat.le_of_ble_eq_true rfl) w_224 rfl (by decide +kernel) rfl ?_
  refine ic_aload C (q := 0) (nx := 27) (by decide +kernel) rfl (lv_at hl 0 rfl) rfl ?_
  refine ic_new C (Cn := "DatumDesk$Reader") (T := T_Reader) (N := 5) (ci := 1) (ix := 23) (nx := 30) t_Reader (fs := [.null, .null, .null, .int 0, .int 0]) rfl in_Reader tok_Reader w_151 w_152 w_74 (fun j hj => by rcases (show j = 0 ∨ j = 1 ∨ j = 2 ∨ j = 3 ∨ j = 4 by omega) with rfl | rfl | rfl | rfl | rfl <;> rfl) (Nat.le_of_ble_eq_true rfl) (Nat.le_of_ble_eq_true rfl) (by decide +kernel) rfl (fun q27 => ?_)
  change ic_J _ _ _ _ _ _ _ _ _ _ _ _ _ 30 [.ref q27, .ref h0] [(h0, .inr (6, [.ref q5, .ref q16, .null, .null, .null])), (q5, .inr (2, [.ref (u9 2), .int 0])), ((u9 2), .inl (g_c G, 400, .inl (fun _ => 0))), (q16, .inr (0, [.ref (u20 4), .ref (u20 5), .ref (u20 6), .ref (u20 7), .ref (u20 8), .int 0, .ref (u20 9), .int 0, .ref (u20 10), .int 5])), ((u20 4), .inl (g_c G, 200, .inl (fun _ => 0))), ((u20 5), .inl (g_c G, 200, .inl (fun _ => 0))), ((u20 6), .inl (g_c G, 200, .inl (fun _ => 0))), ((u20 7), .inl (g_c G, 200, .inl (fun _ => 0))), ((u20 8), .inl (g_c G, 200, .inl (fun _ => 0))), ((u20 9), .inl (g_c G, 200, .inl (fun _ => 0))), ((u20 10), .inl (g_c G, 405, .inl (va_cpy QF (fun _ => 0) 0 0 5))), (q27, .inr (1, [.null, .null, .null, .int 0, .int 0]))] 11 2022
  refine ic_dup C (nx := 31) (by decide +kernel) rfl ?_
  refine ic_aload C (q := 0) (nx := 32) (by decide +kernel) rfl (lv_at hl 0 rfl) rfl ?_
  refine ic_get C (T := T_Desk) (N := 5) (ci := 6) (k := 0) (q0 := 0) (ix := 10) (nx := 35) (fs := [.ref q5, .ref q16, .null, .null, .null]) (v := .ref q5) rfl in_Desk rfl (by decide) rfl rfl w_223 (by decide +kernel) rfl ?_
  refine ic_aload C (q := 0) (nx := 36) (by decide +kernel) rfl (lv_at hl 0 rfl) rfl ?_
  refine ic_get C (T := T_Desk) (N := 5) (ci := 6) (k := 1) (q0 := 0) (ix := 19) (nx := 39) (fs := [.ref q5, .ref q16, .null, .null, .null]) (v := .ref q16) rfl in_Desk rfl (by decide) rfl rfl w_224 (by decide +kernel) rfl ?_
  refine ic_callN C (b := q27) (st := [.ref q27, .ref h0]) (wr := [(h0, .inr (6, [.ref q5, .ref q16, .null, .null, .null])), (q5, .inr (2, [.ref (u9 2), .int 0])), ((u9 2), .inl (g_c G, 400, .inl (fun _ => 0))), (q16, .inr (0, [.ref (u20 4), .ref (u20 5), .ref (u20 6), .ref (u20 7), .ref (u20 8), .int 0, .ref (u20 9), .int 0, .ref (u20 10), .int 5])), ((u20 4), .inl (g_c G, 200, .inl (fun _ => 0))), ((u20 5), .inl (g_c G, 200, .inl (fun _ => 0))), ((u20 6), .inl (g_c G, 200, .inl (fun _ => 0))), ((u20 7), .inl (g_c G, 200, .inl (fun _ => 0))), ((u20 8), .inl (g_c G, 200, .inl (fun _ => 0))), ((u20 9), .inl (g_c G, 200, .inl (fun _ => 0))), ((u20 10), .inl (g_c G, 405, .inl (va_cpy QF (fun _ => 0) 0 0 5)))]) (nx := 42) (ci_Reader G q5 q16) w_155 rfl w_74 w_154 w_153 rfl hy_Reader_init (Nat.le_of_ble_eq_true rfl) (Nat.le_of_ble_eq_true rfl) (Nat.le_of_ble_eq_true rfl) (Nat.le_of_ble_eq_true rfl) rfl rfl (Nat.le_of_ble_eq_true rfl) [11] [0, 1, 2, 3, 4, 5, 6, 7, 8, 9, 10] rfl (by decide) rfl (by decide) (by decide) (by decide +kernel) rfl (fun u39 => ?_)
  change ic_J _ _ _ _ _ _ _ _ _ _ _ _ _ 42 [.ref q27, .ref h0] [(h0, .inr (6, [.ref q5, .ref q16, .null, .null, .null])), (q5, .inr (2, [.ref (u9 2), .int 0])), ((u9 2), .inl (g_c G, 400, .inl (fun _ => 0))), (q16, .inr (0, [.ref (u20 4), .ref (u20 5), .ref (u20 6), .ref (u20 7), .ref (u20 8), .int 0, .ref (u20 9), .int 0, .ref (u20 10), .int 5])), ((u20 4), .inl (g_c G, 200, .inl (fun _ => 0))), ((u20 5), .inl (g_c G, 200, .inl (fun _ => 0))), ((u20 6), .inl (g_c G, 200, .inl (fun _ => 0))), ((u20 7), .inl (g_c G, 200, .inl (fun _ => 0))), ((u20 8), .inl (g_c G, 200, .inl (fun _ => 0))), ((u20 9), .inl (g_c G, 200, .inl (fun _ => 0))), ((u20 10), .inl (g_c G, 405, .inl (va_cpy QF (fun _ => 0) 0 0 5))), (q27, .inr (1, [.ref q5, .ref q16, .ref (u39 12), .int 0, .int (-1)])), ((u39 12), .inr (3, [.ref (u39 13), .ref (u39 14), .ref (u39 15), .int 0])), ((u39 13), .inl (g_c G, 401, .inl (fun _ => 0))), ((u39 14), .inl (g_c G, 401, .inl (fun _ => 0))), ((u39 15), .inl (g_c G, 401, .inl (fun _ => 0)))] 15 3229
  refine ic_putF C hin (T := T_Desk) (N := 5) (ci := 6) (k := 2) (q0 := 0) (ix := 28) (nx := 45) (fs := [.ref q5, .ref q16, .null, .null, .null]) (v := .ref q27) (ty := .object "DatumDesk$Reader") (ws' := [(h0, .inr (6, [.ref q5, .ref q16, .ref q27, .null, .null])), (q5, .inr (2, [.ref (u9 2), .int 0])), ((u9 2), .inl (g_c G, 400, .inl (fun _ => 0))), (q16, .inr (0, [.ref (u20 4), .ref (u20 5), .ref (u20 6), .ref (u20 7), .ref (u20 8), .int 0, .ref (u20 9), .int 0, .ref (u20 10), .int 5])), ((u20 4), .inl (g_c G, 200, .inl (fun _ => 0))), ((u20 5), .inl (g_c G, 200, .inl (fun _ => 0))), ((u20 6), .inl (g_c G, 200, .inl (fun _ => 0))), ((u20 7), .inl (g_c G, 200, .inl (fun _ => 0))), ((u20 8), .inl (g_c G, 200, .inl (fun _ => 0))), ((u20 9), .inl (g_c G, 200, .inl (fun _ => 0))), ((u20 10), .inl (g_c G, 405, .inl (va_cpy QF (fun _ => 0) 0 0 5))), (q27, .inr (1, [.ref q5, .ref q16, .ref (u39 12), .int 0, .int (-1)])), ((u39 12), .inr (3, [.ref (u39 13), .ref (u39 14), .ref (u39 15), .int 0])), ((u39 13), .inl (g_c G, 401, .inl (fun _ => 0))), ((u39 14), .inl (g_c G, 401, .inl (fun _ => 0))), ((u39 15), .inl (g_c G, 401, .inl (fun _ => 0)))]) t_Desk rfl in_Desk tok_Desk nm_Desk rfl (by decide) rfl rfl (by decide +kernel) rfl rfl (Nat.le_of_ble_eq_true rfl) w_225 rfl (by decide +kernel) rfl ?_
  refine ic_aload C (q := 0) (nx := 46) (by decide +kernel) rfl (lv_at hl 0 rfl) rfl ?_
  refine ic_new C (Cn := "DatumDesk$Waiting") (T := T_Waiting) (N := 3) (ci := 4) (ix := 32) (nx := 49) t_Waiting (fs := [.null, .int 0, .int 0]) rfl in_Waiting tok_Waiting w_193 w_194 w_76 (fun j hj => by rcases (show j = 0 ∨ j = 1 ∨ j = 2 by omega) with rfl | rfl | rfl <;> rfl) (Nat.le_of_ble_eq_true rfl) (Nat.le_of_ble_eq_true rfl) (by decide +kernel) rfl (fun q46 => ?_)
  change ic_J _ _ _ _ _ _ _ _ _ _ _ _ _ 49 [.ref q46, .ref h0] [(h0, .inr (6, [.ref q5, .ref q16, .ref q27, .null, .null])), (q5, .inr (2, [.ref (u9 2), .int 0])), ((u9 2), .inl (g_c G, 400, .inl (fun _ => 0))), (q16, .inr (0, [.ref (u20 4), .ref (u20 5), .ref (u20 6), .ref (u20 7), .ref (u20 8), .int 0, .ref (u20 9), .int 0, .ref (u20 10), .int 5])), ((u20 4), .inl (g_c G, 200, .inl (fun _ => 0))), ((u20 5), .inl (g_c G, 200, .inl (fun _ => 0))), ((u20 6), .inl (g_c G, 200, .inl (fun _ => 0))), ((u20 7), .inl (g_c G, 200, .inl (fun _ => 0))), ((u20 8), .inl (g_c G, 200, .inl (fun _ => 0))), ((u20 9), .inl (g_c G, 200, .inl (fun _ => 0))), ((u20 10), .inl (g_c G, 405, .inl (va_cpy QF (fun _ => 0) 0 0 5))), (q27, .inr (1, [.ref q5, .ref q16, .ref (u39 12), .int 0, .int (-1)])), ((u39 12), .inr (3, [.ref (u39 13), .ref (u39 14), .ref (u39 15), .int 0])), ((u39 13), .inl (g_c G, 401, .inl (fun _ => 0))), ((u39 14), .inl (g_c G, 401, .inl (fun _ => 0))), ((u39 15), .inl (g_c G, 401, .inl (fun _ => 0))), (q46, .inr (4, [.null, .int 0, .int 0]))] 16 3232
  refine ic_dup C (nx := 50) (by decide +kernel) rfl ?_
  refine ic_callN C (b := q46) (st := [.ref q46, .ref h0]) (wr := [(h0, .inr (6, [.ref q5, .ref q16, .ref q27, .null, .null])), (q5, .inr (2, [.ref (u9 2), .int 0])), ((u9 2), .inl (g_c G, 400, .inl (fun _ => 0))), (q16, .inr (0, [.ref (u20 4), .ref (u20 5), .ref (u20 6), .ref (u20 7), .ref (u20 8), .int 0, .ref (u20 9), .int 0, .ref (u20 10), .int 5])), ((u20 4), .inl (g_c G, 200, .inl (fun _ => 0))), ((u20 5), .inl (g_c G, 200, .inl (fun _ => 0))), ((u20 6), .inl (g_c G, 200, .inl (fun _ => 0))), ((u20 7), .inl (g_c G, 200, .inl (fun _ => 0))), ((u20 8), .inl (g_c G, 200, .inl (fun _ => 0))), ((u20 9), .inl (g_c G, 200, .inl (fun _ => 0))), ((u20 10), .inl (g_c G, 405, .inl (va_cpy QF (fun _ => 0) 0 0 5))), (q27, .inr (1, [.ref q5, .ref q16, .ref (u39 12), .int 0, .int (-1)])), ((u39 12), .inr (3, [.ref (u39 13), .ref (u39 14), .ref (u39 15), .int 0])), ((u39 13), .inl (g_c G, 401, .inl (fun _ => 0))), ((u39 14), .inl (g_c G, 401, .inl (fun _ => 0))), ((u39 15), .inl (g_c G, 401, .inl (fun _ => 0)))]) (nx := 53) (ci_Waiting G) w_197 rfl w_76 w_196 w_195 rfl hy_Waiting_init (Nat.le_of_ble_eq_true rfl) (Nat.le_of_ble_eq_true rfl) (Nat.le_of_ble_eq_true rfl) (Nat.le_of_ble_eq_true rfl) rfl rfl (Nat.le_of_ble_eq_true rfl) [16] [0, 1, 2, 3, 4, 5, 6, 7, 8, 9, 10, 11, 12, 13, 14, 15] rfl (by decide) rfl (by decide) (by decide) (by decide +kernel) rfl (fun u50 => ?_)
  change ic_J _ _ _ _ _ _ _ _ _ _ _ _ _ 53 [.ref q46, .ref h0] [(h0, .inr (6, [.ref q5, .ref q16, .ref q27, .null, .null])), (q5, .inr (2, [.ref (u9 2), .int 0])), ((u9 2), .inl (g_c G, 400, .inl (fun _ => 0))), (q16, .inr (0, [.ref (u20 4), .ref (u20 5), .ref (u20 6), .ref (u20 7), .ref (u20 8), .int 0, .ref (u20 9), .int 0, .ref (u20 10), .int 5])), ((u20 4), .inl (g_c G, 200, .inl (fun _ => 0))), ((u20 5), .inl (g_c G, 200, .inl (fun _ => 0))), ((u20 6), .inl (g_c G, 200, .inl (fun _ => 0))), ((u20 7), .inl (g_c G, 200, .inl (fun _ => 0))), ((u20 8), .inl (g_c G, 200, .inl (fun _ => 0))), ((u20 9), .inl (g_c G, 200, .inl (fun _ => 0))), ((u20 10), .inl (g_c G, 405, .inl (va_cpy QF (fun _ => 0) 0 0 5))), (q27, .inr (1, [.ref q5, .ref q16, .ref (u39 12), .int 0, .int (-1)])), ((u39 12), .inr (3, [.ref (u39 13), .ref (u39 14), .ref (u39 15), .int 0])), ((u39 13), .inl (g_c G, 401, .inl (fun _ => 0))), ((u39 14), .inl (g_c G, 401, .inl (fun _ => 0))), ((u39 15), .inl (g_c G, 401, .inl (fun _ => 0))), (q46, .inr (4, [.ref (u50 17), .int 0, .int 0])), ((u50 17), .inl (g_c G, 500, .inl (fun _ => 0)))] 17 3732
  refine ic_putF C hin (T := T_Desk) (N := 5) (ci := 6) (k := 3) (q0 := 0) (ix := 35) (nx := 56) (fs := [.ref q5, .ref q16, .ref q27, .null, .null]) (v := .ref q46) (ty := .object "DatumDesk$Waiting") (ws' := [(h0, .inr (6, [.ref q5, .ref q16, .ref q27, .ref q46, .null])), (q5, .inr (2, [.ref (u9 2), .int 0])), ((u9 2), .inl (g_c G, 400, .inl (fun _ => 0))), (q16, .inr (0, [.ref (u20 4), .ref (u20 5), .ref (u20 6), .ref (u20 7), .ref (u20 8), .int 0, .ref (u20 9), .int 0, .ref (u20 10), .int 5])), ((u20 4), .inl (g_c G, 200, .inl (fun _ => 0))), ((u20 5), .inl (g_c G, 200, .inl (fun _ => 0))), ((u20 6), .inl (g_c G, 200, .inl (fun _ => 0))), ((u20 7), .inl (g_c G, 200, .inl (fun _ => 0))), ((u20 8), .inl (g_c G, 200, .inl (fun _ => 0))), ((u20 9), .inl (g_c G, 200, .inl (fun _ => 0))), ((u20 10), .inl (g_c G, 405, .inl (va_cpy QF (fun _ => 0) 0 0 5))), (q27, .inr (1, [.ref q5, .ref q16, .ref (u39 12), .int 0, .int (-1)])), ((u39 12), .inr (3, [.ref (u39 13), .ref (u39 14), .ref (u39 15), .int 0])), ((u39 13), .inl (g_c G, 401, .inl (fun _ => 0))), ((u39 14), .inl (g_c G, 401, .inl (fun _ => 0))), ((u39 15), .inl (g_c G, 401, .inl (fun _ => 0))), (q46, .inr (4, [.ref (u50 17), .int 0, .int 0])), ((u50 17), .inl (g_c G, 500, .inl (fun _ => 0)))]) t_Desk rfl in_Desk tok_Desk nm_Desk rfl (by decide) rfl rfl (by decide +kernel) rfl rfl (Nat.le_of_ble_eq_true rfl) w_226 rfl (by decide +kernel) rfl ?_
  refine ic_aload C (q := 0) (nx := 57) (by decide +kernel) rfl (lv_at hl 0 rfl) rfl ?_
  refine ic_new C (Cn := "DatumDesk$Writer") (T := T_Writer) (N := 2) (ci := 5) (ix := 39) (nx := 60) t_Writer (fs := [.null, .null]) rfl in_Writer tok_Writer w_210 w_211 w_77 (fun j hj => by rcases (show j = 0 ∨ j = 1 by omega) with rfl | rfl <;> rfl) (Nat.le_of_ble_eq_true rfl) (Nat.le_of_ble_eq_true rfl) (by decide +kernel) rfl (fun q57 => ?_)
  change ic_J _ _ _ _ _ _ _ _ _ _ _ _ _ 60 [.ref q57, .ref h0] [(h0, .inr (6, [.ref q5, .ref q16, .ref q27, .ref q46, .null])), (q5, .inr (2, [.ref (u9 2), .int 0])), ((u9 2), .inl (g_c G, 400, .inl (fun _ => 0))), (q16, .inr (0, [.ref (u20 4), .ref (u20 5), .ref (u20 6), .ref (u20 7), .ref (u20 8), .int 0, .ref (u20 9), .int 0, .ref (u20 10), .int 5])), ((u20 4), .inl (g_c G, 200, .inl (fun _ => 0))), ((u20 5), .inl (g_c G, 200, .inl (fun _ => 0))), ((u20 6), .inl (g_c G, 200, .inl (fun _ => 0))), ((u20 7), .inl (g_c G, 200, .inl (fun _ => 0))), ((u20 8), .inl (g_c G, 200, .inl (fun _ => 0))), ((u20 9), .inl (g_c G, 200, .inl (fun _ => 0))), ((u20 10), .inl (g_c G, 405, .inl (va_cpy QF (fun _ => 0) 0 0 5))), (q27, .inr (1, [.ref q5, .ref q16, .ref (u39 12), .int 0, .int (-1)])), ((u39 12), .inr (3, [.ref (u39 13), .ref (u39 14), .ref (u39 15), .int 0])), ((u39 13), .inl (g_c G, 401, .inl (fun _ => 0))), ((u39 14), .inl (g_c G, 401, .inl (fun _ => 0))), ((u39 15), .inl (g_c G, 401, .inl (fun _ => 0))), (q46, .inr (4, [.ref (u50 17), .int 0, .int 0])), ((u50 17), .inl (g_c G, 500, .inl (fun _ => 0))), (q57, .inr (5, [.null, .null]))] 18 3734
  refine ic_dup C (nx := 61) (by decide +kernel) rfl ?_
  refine ic_aload C (q := 0) (nx := 62) (by decide +kernel) rfl (lv_at hl 0 rfl) rfl ?_
  refine ic_get C (T := T_Desk) (N := 5) (ci := 6) (k := 1) (q0 := 0) (ix := 19) (nx := 65) (fs := [.ref q5, .ref q16, .ref q27, .ref q46, .null]) (v := .ref q16) rfl in_Desk rfl (by decide) rfl rfl w_224 (by decide +kernel) rfl ?_
  refine ic_aload C (q := 0) (nx := 66) (by decide +kernel) rfl (lv_at hl 0 rfl) rfl ?_
  refine ic_get C (T := T_Desk) (N := 5) (ci := 6) (k := 3) (q0 := 0) (ix := 35) (nx := 69) (fs := [.ref q5, .ref q16, .ref q27, .ref q46, .null]) (v := .ref q46) rfl in_Desk rfl (by decide) rfl rfl w_226 (by decide +kernel) rfl ?_
  refine ic_callN C (b := q57) (st := [.ref q57, .ref h0]) (wr := [(h0, .inr (6, [.ref q5, .ref q16, .ref q27, .ref q46, .null])), (q5, .inr (2, [.ref (u9 2), .int 0])), ((u9 2), .inl (g_c G, 400, .inl (fun _ => 0))), (q16, .inr (0, [.ref (u20 4), .ref (u20 5), .ref (u20 6), .ref (u20 7), .ref (u20 8), .int 0, .ref (u20 9), .int 0, .ref (u20 10), .int 5])), ((u20 4), .inl (g_c G, 200, .inl (fun _ => 0))), ((u20 5), .inl (g_c G, 200, .inl (fun _ => 0))), ((u20 6), .inl (g_c G, 200, .inl (fun _ => 0))), ((u20 7), .inl (g_c G, 200, .inl (fun _ => 0))), ((u20 8), .inl (g_c G, 200, .inl (fun _ => 0))), ((u20 9), .inl (g_c G, 200, .inl (fun _ => 0))), ((u20 10), .inl (g_c G, 405, .inl (va_cpy QF (fun _ => 0) 0 0 5))), (q27, .inr (1, [.ref q5, .ref q16, .ref (u39 12), .int 0, .int (-1)])), ((u39 12), .inr (3, [.ref (u39 13), .ref (u39 14), .ref (u39 15), .int 0])), ((u39 13), .inl (g_c G, 401, .inl (fun _ => 0))), ((u39 14), .inl (g_c G, 401, .inl (fun _ => 0))), ((u39 15), .inl (g_c G, 401, .inl (fun _ => 0))), (q46, .inr (4, [.ref (u50 17), .int 0, .int 0])), ((u50 17), .inl (g_c G, 500, .inl (fun _ => 0)))]) (nx := 72) (ci_Writer G q16 q46) w_214 rfl w_77 w_213 w_212 rfl hy_Writer_init (Nat.le_of_ble_eq_true rfl) (Nat.le_of_ble_eq_true rfl) (Nat.le_of_ble_eq_true rfl) (Nat.le_of_ble_eq_true rfl) rfl rfl (Nat.le_of_ble_eq_true rfl) [18] [0, 1, 2, 3, 4, 5, 6, 7, 8, 9, 10, 11, 12, 13, 14, 15, 16, 17] rfl (by decide) rfl (by decide) (by decide) (by decide +kernel) rfl (fun u69 => ?_)
  change ic_J _ _ _ _ _ _ _ _ _ _ _ _ _ 72 [.ref q57, .ref h0] [(h0, .inr (6, [.ref q5, .ref q16, .ref q27, .ref q46, .null])), (q5, .inr (2, [.ref (u9 2), .int 0])), ((u9 2), .inl (g_c G, 400, .inl (fun _ => 0))), (q16, .inr (0, [.ref (u20 4), .ref (u20 5), .ref (u20 6), .ref (u20 7), .ref (u20 8), .int 0, .ref (u20 9), .int 0, .ref (u20 10), .int 5])), ((u20 4), .inl (g_c G, 200, .inl (fun _ => 0))), ((u20 5), .inl (g_c G, 200, .inl (fun _ => 0))), ((u20 6), .inl (g_c G, 200, .inl (fun _ => 0))), ((u20 7), .inl (g_c G, 200, .inl (fun _ => 0))), ((u20 8), .inl (g_c G, 200, .inl (fun _ => 0))), ((u20 9), .inl (g_c G, 200, .inl (fun _ => 0))), ((u20 10), .inl (g_c G, 405, .inl (va_cpy QF (fun _ => 0) 0 0 5))), (q27, .inr (1, [.ref q5, .ref q16, .ref (u39 12), .int 0, .int (-1)])), ((u39 12), .inr (3, [.ref (u39 13), .ref (u39 14), .ref (u39 15), .int 0])), ((u39 13), .inl (g_c G, 401, .inl (fun _ => 0))), ((u39 14), .inl (g_c G, 401, .inl (fun _ => 0))), ((u39 15), .inl (g_c G, 401, .inl (fun _ => 0))), (q46, .inr (4, [.ref (u50 17), .int 0, .int 0])), ((u50 17), .inl (g_c G, 500, .inl (fun _ => 0))), (q57, .inr (5, [.ref q16, .ref q46]))] 18 3734
  refine ic_putF C hin (T := T_Desk) (N := 5) (ci := 6) (k := 4) (q0 := 0) (ix := 44) (nx := 75) (fs := [.ref q5, .ref q16, .ref q27, .ref q46, .null]) (v := .ref q57) (ty := .object "DatumDesk$Writer") (ws' := [(h0, .inr (6, [.ref q5, .ref q16, .ref q27, .ref q46, .ref q57])), (q5, .inr (2, [.ref (u9 2), .int 0])), ((u9 2), .inl (g_c G, 400, .inl (fun _ => 0))), (q16, .inr (0, [.ref (u20 4), .ref (u20 5), .ref (u20 6), .ref (u20 7), .ref (u20 8), .int 0, .ref (u20 9), .int 0, .ref (u20 10), .int 5])), ((u20 4), .inl (g_c G, 200, .inl (fun _ => 0))), ((u20 5), .inl (g_c G, 200, .inl (fun _ => 0))), ((u20 6), .inl (g_c G, 200, .inl (fun _ => 0))), ((u20 7), .inl (g_c G, 200, .inl (fun _ => 0))), ((u20 8), .inl (g_c G, 200, .inl (fun _ => 0))), ((u20 9), .inl (g_c G, 200, .inl (fun _ => 0))), ((u20 10), .inl (g_c G, 405, .inl (va_cpy QF (fun _ => 0) 0 0 5))), (q27, .inr (1, [.ref q5, .ref q16, .ref (u39 12), .int 0, .int (-1)])), ((u39 12), .inr (3, [.ref (u39 13), .ref (u39 14), .ref (u39 15), .int 0])), ((u39 13), .inl (g_c G, 401, .inl (fun _ => 0))), ((u39 14), .inl (g_c G, 401, .inl (fun _ => 0))), ((u39 15), .inl (g_c G, 401, .inl (fun _ => 0))), (q46, .inr (4, [.ref (u50 17), .int 0, .int 0])), ((u50 17), .inl (g_c G, 500, .inl (fun _ => 0))), (q57, .inr (5, [.ref q16, .ref q46]))]) t_Desk rfl in_Desk tok_Desk nm_Desk rfl (by decide) rfl rfl (by decide +kernel) rfl rfl (Nat.le_of_ble_eq_true rfl) w_227 rfl (by decide +kernel) rfl ?_
  exact ic_vret C (fun i => match i with | 1 => q5 | 2 => (u9 2) | 3 => q16 | 4 => (u20 4) | 5 => (u20 5) | 6 => (u20 6) | 7 => (u20 7) | 8 => (u20 8) | 9 => (u20 9) | 10 => (u20 10) | 11 => q27 | 12 => (u39 12) | 13 => (u39 13) | 14 => (u39 14) | 15 => (u39 15) | 16 => q46 | 17 => (u50 17) | 18 => q57 | _ => 0) rfl rfl (by decide +kernel)
def wf_Model (G : aG) (h0 : Nat) (u : Nat → Nat) : va_W := [(h0, .inr (7, [.ref (u 20), .int 0, .int 0, .int 0, .int (-1), .int 0, .ref (u 21), .ref (u 22), .ref (u 23), .ref (u 24), .ref (u 25), .int 0, .ref (u 26), .int 0, .ref (u 27), .ref (u 28), .ref (u 29), .ref (u 30), .int 0, .ref (u 31), .ref (u 32)])), ((u 20), .inl (g_c G, 400, .inl (fun _ => 0))), ((u 21), .inl (g_c G, 200, .inl (fun _ => 0))), ((u 22), .inl (g_c G, 200, .inl (fun _ => 0))), ((u 23), .inl (g_c G, 4000, .inl (fun _ => 0))), ((u 24), .inl (g_c G, 200, .inl (fun _ => 0))), ((u 25), .inl (g_c G, 200, .inl (fun _ => 0))), ((u 26), .inl (g_c G, 200, .inl (fun _ => 0))), ((u 27), .inl (g_c G, 15, .inl (fun _ => 0))), ((u 28), .inl (g_c G, 15, .inl (fun _ => 0))), ((u 29), .inl (g_c G, 15, .inl (fun _ => 0))), ((u 30), .inl (g_c G, 500, .inl (fun _ => 0))), ((u 31), .inl (g_c G, 420, .inl (fun _ => 0))), ((u 32), .inl (g_c G, 420, .inl (fun _ => 0)))]
set_option maxRecDepth 20000 in
set_option maxHeartbeats 4000000 in
theorem ci_Model (G : aG) : ic_Met G Y_Model_init 1 13 6785 7 [.null, .int 0, .int 0, .int 0, .int 0, .int 0, .null, .null, .null, .null, .null, .int 0, .null, .int 0, .null, .null, .null, .null, .int 0, .null, .null] [] (wf_Model G) := by
  refine ic_entry (by decide +kernel) rfl (fun _ => Nat.le_of_ble_eq_true rfl) ?_
  intro h0 p e s m args below meth c ls C hin hl
  have hl : lv_has ls 1 [(0, .ref h0)] := hl
  refine ic_aload C (q := 0) (nx := 1) (by decide +kernel) rfl (lv_at hl 0 rfl) rfl ?_
  refine ic_objInit C (ix := 1) (nx := 4) w_516 w_90 w_91 (Nat.le_of_ble_eq_true rfl) (Nat.le_of_ble_eq_true rfl) (by decide +kernel) rfl ?_
  refine ic_aload C (q := 0) (nx := 5) (by decide +kernel) rfl (lv_at hl 0 rfl) rfl ?_
  refine ic_sipush C (n := 400) (v := 400) (nx := 8) (by decide +kernel) (by decide +kernel) rfl ?_
  refine ic_newa C (N := 400) (nx := 10) w_106 (by decide) (by decide +kernel) (by decide) (Nat.le_of_ble_eq_true rfl) (Nat.le_of_ble_eq_true rfl) (by decide +kernel) rfl (fun q8 => ?_)
  change ic_J _ _ _ _ _ _ _ _ _ _ _ _ _ 10 [.ref q8, .ref h0] [(h0, .inr (7, [.null, .int 0, .int 0, .int 0, .int 0, .int 0, .null, .null, .null, .null, .null, .int 0, .null, .int 0, .null, .null, .null, .null, .int 0, .null, .null])), (q8, .inl (g_c G, 400, .inl (fun _ => 0)))] 1 400
  refine ic_putF C hin (T := T_Model) (N := 21) (ci := 7) (k := 0) (q0 := 0) (ix := 7) (nx := 13) (fs := [.null, .int 0, .int 0, .int 0, .int 0, .int 0, .null, .null, .null, .null, .null, .int 0, .null, .int 0, .null, .null, .null, .null, .int 0, .null, .null]) (v := .ref q8) (ty := .array .int) (ws' := [(h0, .inr (7, [.ref q8, .int 0, .int 0, .int 0, .int 0, .int 0, .null, .null, .null, .null, .null, .int 0, .null, .int 0, .null, .null, .null, .null, .int 0, .null, .null])), (q8, .inl (g_c G, 400, .inl (fun _ => 0)))]) t_Model rfl in_Model tok_Model nm_Model rfl (by decide) rfl rfl (by decide +kernel) rfl rfl (Nat.le_of_ble_eq_true rfl) w_517 rfl (by decide +kernel) rfl ?_
  refine ic_aload C (q := 0) (nx := 14) (by decide +kernel) rfl (lv_at hl 0 rfl) rfl ?_
  refine ic_iconst C (n := (-1)) (v := (-1)) (nx := 15) (by decide +kernel) (by decide +kernel) rfl ?_
  refine ic_put C (T := T_Model) (N := 21) (ci := 7) (k := 4) (q0 := 0) (ix := 13) (nx := 18) (fs := [.ref q8, .int 0, .int 0, .int 0, .int 0, .int 0, .null, .null, .null, .null, .null, .int 0, .null, .int 0, .null, .null, .null, .null, .int 0, .null, .null]) (v := .int (-1)) (ty := .int) (ws' := [(h0, .inr (7, [.ref q8, .int 0, .int 0, .int 0, .int (-1), .int 0, .null, .null, .null, .null, .null, .int 0, .null, .int 0, .null, .null, .null, .null, .int 0, .null, .null])), (q8, .inl (g_c G, 400, .inl (fun _ => 0)))]) t_Model rfl in_Model tok_Model nm_Model rfl (by decide) rfl rfl (by decide +kernel) rfl rfl (Nat.le_of_ble_eq_true rfl) w_521 rfl (by decide +kernel) rfl ?_
  refine ic_aload C (q := 0) (nx := 19) (by decide +kernel) rfl (lv_at hl 0 rfl) rfl ?_
  refine ic_sipush C (n := 200) (v := 200) (nx := 22) (by decide +kernel) (by decide +kernel) rfl ?_
  refine ic_newa C (N := 200) (nx := 24) w_106 (by decide) (by decide +kernel) (by decide) (Nat.le_of_ble_eq_true rfl) (Nat.le_of_ble_eq_true rfl) (by decide +kernel) rfl (fun q22 => ?_)
  change ic_J _ _ _ _ _ _ _ _ _ _ _ _ _ 24 [.ref q22, .ref h0] [(h0, .inr (7, [.ref q8, .int 0, .int 0, .int 0, .int (-1), .int 0, .null, .null, .null, .null, .null, .int 0, .null, .int 0, .null, .null, .null, .null, .int 0, .null, .null])), (q8, .inl (g_c G, 400, .inl (fun _ => 0))), (q22, .inl (g_c G, 200, .inl (fun _ => 0)))] 2 600
  refine ic_putF C hin (T := T_Model) (N := 21) (ci := 7) (k := 6) (q0 := 0) (ix := 17) (nx := 27) (fs := [.ref q8, .int 0, .int 0, .int 0, .int (-1), .int 0, .null, .null, .null, .null, .null, .int 0, .null, .int 0, .null, .null, .null, .null, .int 0, .null, .null]) (v := .ref q22) (ty := .array .int) (ws' := [(h0, .inr (7, [.ref q8, .int 0, .int 0, .int 0, .int (-1), .int 0, .ref q22, .null, .null, .null, .null, .int 0, .null, .int 0, .null, .null, .null, .null, .int 0, .null, .null])), (q8, .inl (g_c G, 400, .inl (fun _ => 0))), (q22, .inl (g_c G, 200, .inl (fun _ => 0)))]) t_Model rfl in_Model tok_Model nm_Model rfl (by decide) rfl rfl (by decide +kernel) rfl rfl (Nat.le_of_ble_eq_true rfl) w_523 rfl (by decide +kernel) rfl ?_
  refine ic_aload C (q := 0) (nx := 28) (by decide +kernel) rfl (lv_at hl 0 rfl) rfl ?_
  refine ic_sipush C (n := 200) (v := 200) (nx := 31) (by decide +kernel) (by decide +kernel) rfl ?_
  refine ic_newa C (N := 200) (nx := 33) w_106 (by decide) (by decide +kernel) (by decide) (Nat.le_of_ble_eq_true rfl) (Nat.le_of_ble_eq_true rfl) (by decide +kernel) rfl (fun q31 => ?_)
  change ic_J _ _ _ _ _ _ _ _ _ _ _ _ _ 33 [.ref q31, .ref h0] [(h0, .inr (7, [.ref q8, .int 0, .int 0, .int 0, .int (-1), .int 0, .ref q22, .null, .null, .null, .null, .int 0, .null, .int 0, .null, .null, .null, .null, .int 0, .null, .null])), (q8, .inl (g_c G, 400, .inl (fun _ => 0))), (q22, .inl (g_c G, 200, .inl (fun _ => 0))), (q31, .inl (g_c G, 200, .inl (fun _ => 0)))] 3 800
  refine ic_putF C hin (T := T_Model) (N := 21) (ci := 7) (k := 7) (q0 := 0) (ix := 20) (nx := 36) (fs := [.ref q8, .int 0, .int 0, .int 0, .int (-1), .int 0, .ref q22, .null, .null, .null, .null, .int 0, .null, .int 0, .null, .null, .null, .null, .int 0, .null, .null]) (v := .ref q31) (ty := .array .int) (ws' := [(h0, .inr (7, [.ref q8, .int 0, .int 0, .int 0, .int (-1), .int 0, .ref q22, .ref q31, .null, .null, .null, .int 0, .null, .int 0, .null, .null, .null, .null, .int 0, .null, .null])), (q8, .inl (g_c G, 400, .inl (fun _ => 0))), (q22, .inl (g_c G, 200, .inl (fun _ => 0))), (q31, .inl (g_c G, 200, .inl (fun _ => 0)))]) t_Model rfl in_Model tok_Model nm_Model rfl (by decide) rfl rfl (by decide +kernel) rfl rfl (Nat.le_of_ble_eq_true rfl) w_524 rfl (by decide +kernel) rfl ?_
  refine ic_aload C (q := 0) (nx := 37) (by decide +kernel) rfl (lv_at hl 0 rfl) rfl ?_
  refine ic_sipush C (n := 4000) (v := 4000) (nx := 40) (by decide +kernel) (by decide +kernel) rfl ?_
  refine ic_newa C (N := 4000) (nx := 42) w_106 (by decide) (by decide +kernel) (by decide) (Nat.le_of_ble_eq_true rfl) (Nat.le_of_ble_eq_true rfl) (by decide +kernel) rfl (fun q40 => ?_)
  change ic_J _ _ _ _ _ _ _ _ _ _ _ _ _ 42 [.ref q40, .ref h0] [(h0, .inr (7, [.ref q8, .int 0, .int 0, .int 0, .int (-1), .int 0, .ref q22, .ref q31, .null, .null, .null, .int 0, .null, .int 0, .null, .null, .null, .null, .int 0, .null, .null])), (q8, .inl (g_c G, 400, .inl (fun _ => 0))), (q22, .inl (g_c G, 200, .inl (fun _ => 0))), (q31, .inl (g_c G, 200, .inl (fun _ => 0))), (q40, .inl (g_c G, 4000, .inl (fun _ => 0)))] 4 4800
  refine ic_putF C hin (T := T_Model) (N := 21) (ci := 7) (k := 8) (q0 := 0) (ix := 23) (nx := 45) (fs := [.ref q8, .int 0, .int 0, .int 0, .int (-1), .int 0, .ref q22, .ref q31, .null, .null, .null, .int 0, .null, .int 0, .null, .null, .null, .null, .int 0, .null, .null]) (v := .ref q40) (ty := .array .int) (ws' := [(h0, .inr (7, [.ref q8, .int 0, .int 0, .int 0, .int (-1), .int 0, .ref q22, .ref q31, .ref q40, .null, .null, .int 0, .null, .int 0, .null, .null, .null, .null, .int 0, .null, .null])), (q8, .inl (g_c G, 400, .inl (fun _ => 0))), (q22, .inl (g_c G, 200, .inl (fun _ => 0))), (q31, .inl (g_c G, 200, .inl (fun _ => 0))), (q40, .inl (g_c G, 4000, .inl (fun _ => 0)))]) t_Model rfl in_Model tok_Model nm_Model rfl (by decide) rfl rfl (by decide +kernel) rfl rfl (Nat.le_of_ble_eq_true rfl) w_525 rfl (by decide +kernel) rfl ?_
  refine ic_aload C (q := 0) (nx := 46) (by decide +kernel) rfl (lv_at hl 0 rfl) rfl ?_
  refine ic_sipush C (n := 200) (v := 200) (nx := 49) (by decide +kernel) (by decide +kernel) rfl ?_
  refine ic_newa C (N := 200) (nx := 51) w_106 (by decide) (by decide +kernel) (by decide) (Nat.le_of_ble_eq_true rfl) (Nat.le_of_ble_eq_true rfl) (by decide +kernel) rfl (fun q49 => ?_)
  change ic_J _ _ _ _ _ _ _ _ _ _ _ _ _ 51 [.ref q49, .ref h0] [(h0, .inr (7, [.ref q8, .int 0, .int 0, .int 0, .int (-1), .int 0, .ref q22, .ref q31, .ref q40, .null, .null, .int 0, .null, .int 0, .null, .null, .null, .null, .int 0, .null, .null])), (q8, .inl (g_c G, 400, .inl (fun _ => 0))), (q22, .inl (g_c G, 200, .inl (fun _ => 0))), (q31, .inl (g_c G, 200, .inl (fun _ => 0))), (q40, .inl (g_c G, 4000, .inl (fun _ => 0))), (q49, .inl (g_c G, 200, .inl (fun _ => 0)))] 5 5000
  refine ic_putF C hin (T := T_Model) (N := 21) (ci := 7) (k := 9) (q0 := 0) (ix := 26) (nx := 54) (fs := [.ref q8, .int 0, .int 0, .int 0, .int (-1), .int 0, .ref q22, .ref q31, .ref q40, .null, .null, .int 0, .null, .int 0, .null, .null, .null, .null, .int 0, .null, .null]) (v := .ref q49) (ty := .array .int) (ws' := [(h0, .inr (7, [.ref q8, .int 0, .int 0, .int 0, .int (-1), .int 0, .ref q22, .ref q31, .ref q40, .ref q49, .null, .int 0, .null, .int 0, .null, .null, .null, .null, .int 0, .null, .null])), (q8, .inl (g_c G, 400, .inl (fun _ => 0))), (q22, .inl (g_c G, 200, .inl (fun _ => 0))), (q31, .inl (g_c G, 200, .inl (fun _ => 0))), (q40, .inl (g_c G, 4000, .inl (fun _ => 0))), (q49, .inl (g_c G, 200, .inl (fun _ => 0)))]) t_Model rfl in_Model tok_Model nm_Model rfl (by decide) rfl rfl (by decide +kernel) rfl rfl (Nat.le_of_ble_eq_true rfl) w_526 rfl (by decide +kernel) rfl ?_
  refine ic_aload C (q := 0) (nx := 55) (by decide +kernel) rfl (lv_at hl 0 rfl) rfl ?_
  refine ic_sipush C (n := 200) (v := 200) (nx := 58) (by decide +kernel) (by decide +kernel) rfl ?_
  refine ic_newa C (N := 200) (nx := 60) w_106 (by decide) (by decide +kernel) (by decide) (Nat.le_of_ble_eq_true rfl) (Nat.le_of_ble_eq_true rfl) (by decide +kernel) rfl (fun q58 => ?_)
  change ic_J _ _ _ _ _ _ _ _ _ _ _ _ _ 60 [.ref q58, .ref h0] [(h0, .inr (7, [.ref q8, .int 0, .int 0, .int 0, .int (-1), .int 0, .ref q22, .ref q31, .ref q40, .ref q49, .null, .int 0, .null, .int 0, .null, .null, .null, .null, .int 0, .null, .null])), (q8, .inl (g_c G, 400, .inl (fun _ => 0))), (q22, .inl (g_c G, 200, .inl (fun _ => 0))), (q31, .inl (g_c G, 200, .inl (fun _ => 0))), (q40, .inl (g_c G, 4000, .inl (fun _ => 0))), (q49, .inl (g_c G, 200, .inl (fun _ => 0))), (q58, .inl (g_c G, 200, .inl (fun _ => 0)))] 6 5200
  refine ic_putF C hin (T := T_Model) (N := 21) (ci := 7) (k := 10) (q0 := 0) (ix := 29) (nx := 63) (fs := [.ref q8, .int 0, .int 0, .int 0, .int (-1), .int 0, .ref q22, .ref q31, .ref q40, .ref q49, .null, .int 0, .null, .int 0, .null, .null, .null, .null, .int 0, .null, .null]) (v := .ref q58) (ty := .array .int) (ws' := [(h0, .inr (7, [.ref q8, .int 0, .int 0, .int 0, .int (-1), .int 0, .ref q22, .ref q31, .ref q40, .ref q49, .ref q58, .int 0, .null, .int 0, .null, .null, .null, .null, .int 0, .null, .null])), (q8, .inl (g_c G, 400, .inl (fun _ => 0))), (q22, .inl (g_c G, 200, .inl (fun _ => 0))), (q31, .inl (g_c G, 200, .inl (fun _ => 0))), (q40, .inl (g_c G, 4000, .inl (fun _ => 0))), (q49, .inl (g_c G, 200, .inl (fun _ => 0))), (q58, .inl (g_c G, 200, .inl (fun _ => 0)))]) t_Model rfl in_Model tok_Model nm_Model rfl (by decide) rfl rfl (by decide +kernel) rfl rfl (Nat.le_of_ble_eq_true rfl) w_527 rfl (by decide +kernel) rfl ?_
  refine ic_aload C (q := 0) (nx := 64) (by decide +kernel) rfl (lv_at hl 0 rfl) rfl ?_
  refine ic_sipush C (n := 200) (v := 200) (nx := 67) (by decide +kernel) (by decide +kernel) rfl ?_
  refine ic_newa C (N := 200) (nx := 69) w_106 (by decide) (by decide +kernel) (by decide) (Nat.le_of_ble_eq_true rfl) (Nat.le_of_ble_eq_true rfl) (by decide +kernel) rfl (fun q67 => ?_)
  change ic_J _ _ _ _ _ _ _ _ _ _ _ _ _ 69 [.ref q67, .ref h0] [(h0, .inr (7, [.ref q8, .int 0, .int 0, .int 0, .int (-1), .int 0, .ref q22, .ref q31, .ref q40, .ref q49, .ref q58, .int 0, .null, .int 0, .null, .null, .null, .null, .int 0, .null, .null])), (q8, .inl (g_c G, 400, .inl (fun _ => 0))), (q22, .inl (g_c G, 200, .inl (fun _ => 0))), (q31, .inl (g_c G, 200, .inl (fun _ => 0))), (q40, .inl (g_c G, 4000, .inl (fun _ => 0))), (q49, .inl (g_c G, 200, .inl (fun _ => 0))), (q58, .inl (g_c G, 200, .inl (fun _ => 0))), (q67, .inl (g_c G, 200, .inl (fun _ => 0)))] 7 5400
  refine ic_putF C hin (T := T_Model) (N := 21) (ci := 7) (k := 12) (q0 := 0) (ix := 32) (nx := 72) (fs := [.ref q8, .int 0, .int 0, .int 0, .int (-1), .int 0, .ref q22, .ref q31, .ref q40, .ref q49, .ref q58, .int 0, .null, .int 0, .null, .null, .null, .null, .int 0, .null, .null]) (v := .ref q67) (ty := .array .int) (ws' := [(h0, .inr (7, [.ref q8, .int 0, .int 0, .int 0, .int (-1), .int 0, .ref q22, .ref q31, .ref q40, .ref q49, .ref q58, .int 0, .ref q67, .int 0, .null, .null, .null, .null, .int 0, .null, .null])), (q8, .inl (g_c G, 400, .inl (fun _ => 0))), (q22, .inl (g_c G, 200, .inl (fun _ => 0))), (q31, .inl (g_c G, 200, .inl (fun _ => 0))), (q40, .inl (g_c G, 4000, .inl (fun _ => 0))), (q49, .inl (g_c G, 200, .inl (fun _ => 0))), (q58, .inl (g_c G, 200, .inl (fun _ => 0))), (q67, .inl (g_c G, 200, .inl (fun _ => 0)))]) t_Model rfl in_Model tok_Model nm_Model rfl (by decide) rfl rfl (by decide +kernel) rfl rfl (Nat.le_of_ble_eq_true rfl) w_529 rfl (by decide +kernel) rfl ?_
  refine ic_aload C (q := 0) (nx := 73) (by decide +kernel) rfl (lv_at hl 0 rfl) rfl ?_
  refine ic_bipush C (n := 15) (v := 15) (nx := 75) (by decide +kernel) (by decide +kernel) rfl ?_
  refine ic_newa C (N := 15) (nx := 77) w_106 (by decide) (by decide +kernel) (by decide) (Nat.le_of_ble_eq_true rfl) (Nat.le_of_ble_eq_true rfl) (by decide +kernel) rfl (fun q75 => ?_)
  change ic_J _ _ _ _ _ _ _ _ _ _ _ _ _ 77 [.ref q75, .ref h0] [(h0, .inr (7, [.ref q8, .int 0, .int 0, .int 0, .int (-1), .int 0, .ref q22, .ref q31, .ref q40, .ref q49, .ref q58, .int 0, .ref q67, .int 0, .null, .null, .null, .null, .int 0, .null, .null])), (q8, .inl (g_c G, 400, .inl (fun _ => 0))), (q22, .inl (g_c G, 200, .inl (fun _ => 0))), (q31, .inl (g_c G, 200, .inl (fun _ => 0))), (q40, .inl (g_c G, 4000, .inl (fun _ => 0))), (q49, .inl (g_c G, 200, .inl (fun _ => 0))), (q58, .inl (g_c G, 200, .inl (fun _ => 0))), (q67, .inl (g_c G, 200, .inl (fun _ => 0))), (q75, .inl (g_c G, 15, .inl (fun _ => 0)))] 8 5415
  refine ic_putF C hin (T := T_Model) (N := 21) (ci := 7) (k := 14) (q0 := 0) (ix := 35) (nx := 80) (fs := [.ref q8, .int 0, .int 0, .int 0, .int (-1), .int 0, .ref q22, .ref q31, .ref q40, .ref q49, .ref q58, .int 0, .ref q67, .int 0, .null, .null, .null, .null, .int 0, .null, .null]) (v := .ref q75) (ty := .array .int) (ws' := [(h0, .inr (7, [.ref q8, .int 0, .int 0, .int 0, .int (-1), .int 0, .ref q22, .ref q31, .ref q40, .ref q49, .ref q58, .int 0, .ref q67, .int 0, .ref q75, .null, .null, .null, .int 0, .null, .null])), (q8, .inl (g_c G, 400, .inl (fun _ => 0))), (q22, .inl (g_c G, 200, .inl (fun _ => 0))), (q31, .inl (g_c G, 200, .inl (fun _ => 0))), (q40, .inl (g_c G, 4000, .inl (fun _ => 0))), (q49, .inl (g_c G, 200, .inl (fun _ => 0))), (q58, .inl (g_c G, 200, .inl (fun _ => 0))), (q67, .inl (g_c G, 200, .inl (fun _ => 0))), (q75, .inl (g_c G, 15, .inl (fun _ => 0)))]) t_Model rfl in_Model tok_Model nm_Model rfl (by decide) rfl rfl (by decide +kernel) rfl rfl (Nat.le_of_ble_eq_true rfl) w_531 rfl (by decide +kernel) rfl ?_
  refine ic_aload C (q := 0) (nx := 81) (by decide +kernel) rfl (lv_at hl 0 rfl) rfl ?_
  refine ic_bipush C (n := 15) (v := 15) (nx := 83) (by decide +kernel) (by decide +kernel) rfl ?_
  refine ic_newa C (N := 15) (nx := 85) w_106 (by decide) (by decide +kernel) (by decide) (Nat.le_of_ble_eq_true rfl) (Nat.le_of_ble_eq_true rfl) (by decide +kernel) rfl (fun q83 => ?_)
  change ic_J _ _ _ _ _ _ _ _ _ _ _ _ _ 85 [.ref q83, .ref h0] [(h0, .inr (7, [.ref q8, .int 0, .int 0, .int 0, .int (-1), .int 0, .ref q22, .ref q31, .ref q40, .ref q49, .ref q58, .int 0, .ref q67, .int 0, .ref q75, .null, .null, .null, .int 0, .null, .null])), (q8, .inl (g_c G, 400, .inl (fun _ => 0))), (q22, .inl (g_c G, 200, .inl (fun _ => 0))), (q31, .inl (g_c G, 200, .inl (fun _ => 0))), (q40, .inl (g_c G, 4000, .inl (fun _ => 0))), (q49, .inl (g_c G, 200, .inl (fun _ => 0))), (q58, .inl (g_c G, 200, .inl (fun _ => 0))), (q67, .inl (g_c G, 200, .inl (fun _ => 0))), (q75, .inl (g_c G, 15, .inl (fun _ => 0))), (q83, .inl (g_c G, 15, .inl (fun _ => 0)))] 9 5430
  refine ic_putF C hin (T := T_Model) (N := 21) (ci := 7) (k := 15) (q0 := 0) (ix := 38) (nx := 88) (fs := [.ref q8, .int 0, .int 0, .int 0, .int (-1), .int 0, .ref q22, .ref q31, .ref q40, .ref q49, .ref q58, .int 0, .ref q67, .int 0, .ref q75, .null, .null, .null, .int 0, .null, .null]) (v := .ref q83) (ty := .array .int) (ws' := [(h0, .inr (7, [.ref q8, .int 0, .int 0, .int 0, .int (-1), .int 0, .ref q22, .ref q31, .ref q40, .ref q49, .ref q58, .int 0, .ref q67, .int 0, .ref q75, .ref q83, .null, .null, .int 0, .null, .null])), (q8, .inl (g_c G, 400, .inl (fun _ => 0))), (q22, .inl (g_c G, 200, .inl (fun _ => 0))), (q31, .inl (g_c G, 200, .inl (fun _ => 0))), (q40, .inl (g_c G, 4000, .inl (fun _ => 0))), (q49, .inl (g_c G, 200, .inl (fun _ => 0))), (q58, .inl (g_c G, 200, .inl (fun _ => 0))), (q67, .inl (g_c G, 200, .inl (fun _ => 0))), (q75, .inl (g_c G, 15, .inl (fun _ => 0))), (q83, .inl (g_c G, 15, .inl (fun _ => 0)))]) t_Model rfl in_Model tok_Model nm_Model rfl (by decide) rfl rfl (by decide +kernel) rfl rfl (Nat.le_of_ble_eq_true rfl) w_532 rfl (by decide +kernel) rfl ?_
  refine ic_aload C (q := 0) (nx := 89) (by decide +kernel) rfl (lv_at hl 0 rfl) rfl ?_
  refine ic_bipush C (n := 15) (v := 15) (nx := 91) (by decide +kernel) (by decide +kernel) rfl ?_
  refine ic_newa C (N := 15) (nx := 93) w_106 (by decide) (by decide +kernel) (by decide) (Nat.le_of_ble_eq_true rfl) (Nat.le_of_ble_eq_true rfl) (by decide +kernel) rfl (fun q91 => ?_)
  change ic_J _ _ _ _ _ _ _ _ _ _ _ _ _ 93 [.ref q91, .ref h0] [(h0, .inr (7, [.ref q8, .int 0, .int 0, .int 0, .int (-1), .int 0, .ref q22, .ref q31, .ref q40, .ref q49, .ref q58, .int 0, .ref q67, .int 0, .ref q75, .ref q83, .null, .null, .int 0, .null, .null])), (q8, .inl (g_c G, 400, .inl (fun _ => 0))), (q22, .inl (g_c G, 200, .inl (fun _ => 0))), (q31, .inl (g_c G, 200, .inl (fun _ => 0))), (q40, .inl (g_c G, 4000, .inl (fun _ => 0))), (q49, .inl (g_c G, 200, .inl (fun _ => 0))), (q58, .inl (g_c G, 200, .inl (fun _ => 0))), (q67, .inl (g_c G, 200, .inl (fun _ => 0))), (q75, .inl (g_c G, 15, .inl (fun _ => 0))), (q83, .inl (g_c G, 15, .inl (fun _ => 0))), (q91, .inl (g_c G, 15, .inl (fun _ => 0)))] 10 5445
  refine ic_putF C hin (T := T_Model) (N := 21) (ci := 7) (k := 16) (q0 := 0) (ix := 41) (nx := 96) (fs := [.ref q8, .int 0, .int 0, .int 0, .int (-1), .int 0, .ref q22, .ref q31, .ref q40, .ref q49, .ref q58, .int 0, .ref q67, .int 0, .ref q75, .ref q83, .null, .null, .int 0, .null, .null]) (v := .ref q91) (ty := .array .int) (ws' := [(h0, .inr (7, [.ref q8, .int 0, .int 0, .int 0, .int (-1), .int 0, .ref q22, .ref q31, .ref q40, .ref q49, .ref q58, .int 0, .ref q67, .int 0, .ref q75, .ref q83, .ref q91, .null, .int 0, .null, .null])), (q8, .inl (g_c G, 400, .inl (fun _ => 0))), (q22, .inl (g_c G, 200, .inl (fun _ => 0))), (q31, .inl (g_c G, 200, .inl (fun _ => 0))), (q40, .inl (g_c G, 4000, .inl (fun _ => 0))), (q49, .inl (g_c G, 200, .inl (fun _ => 0))), (q58, .inl (g_c G, 200, .inl (fun _ => 0))), (q67, .inl (g_c G, 200, .inl (fun _ => 0))), (q75, .inl (g_c G, 15, .inl (fun _ => 0))), (q83, .inl (g_c G, 15, .inl (fun _ => 0))), (q91, .inl (g_c G, 15, .inl (fun _ => 0)))]) t_Model rfl in_Model tok_Model nm_Model rfl (by decide) rfl rfl (by decide +kernel) rfl rfl (Nat.le_of_ble_eq_true rfl) w_533 rfl (by decide +kernel) rfl ?_
  refine ic_aload C (q := 0) (nx := 97) (by decide +kernel) rfl (lv_at hl 0 rfl) rfl ?_
  refine ic_sipush C (n := 500) (v := 500) (nx := 100) (by decide +kernel) (by decide +kernel) rfl ?_
  refine ic_newa C (N := 500) (nx := 102) w_106 (by decide) (by decide +kernel) (by decide) (Nat.le_of_ble_eq_true rfl) (Nat.le_of_ble_eq_true rfl) (by decide +kernel) rfl (fun q100 => ?_)
  change ic_J _ _ _ _ _ _ _ _ _ _ _ _ _ 102 [.ref q100, .ref h0] [(h0, .inr (7, [.ref q8, .int 0, .int 0, .int 0, .int (-1), .int 0, .ref q22, .ref q31, .ref q40, .ref q49, .ref q58, .int 0, .ref q67, .int 0, .ref q75, .ref q83, .ref q91, .null, .int 0, .null, .null])), (q8, .inl (g_c G, 400, .inl (fun _ => 0))), (q22, .inl (g_c G, 200, .inl (fun _ => 0))), (q31, .inl (g_c G, 200, .inl (fun _ => 0))), (q40, .inl (g_c G, 4000, .inl (fun _ => 0))), (q49, .inl (g_c G, 200, .inl (fun _ => 0))), (q58, .inl (g_c G, 200, .inl (fun _ => 0))), (q67, .inl (g_c G, 200, .inl (fun _ => 0))), (q75, .inl (g_c G, 15, .inl (fun _ => 0))), (q83, .inl (g_c G, 15, .inl (fun _ => 0))), (q91, .inl (g_c G, 15, .inl (fun _ => 0))), (q100, .inl (g_c G, 500, .inl (fun _ => 0)))] 11 5945
  refine ic_putF C hin (T := T_Model) (N := 21) (ci := 7) (k := 17) (q0 := 0) (ix := 44) (nx := 105) (fs := [.ref q8, .int 0, .int 0, .int 0, .int (-1), .int 0, .ref q22, .ref q31, .ref q40, .ref q49, .ref q58, .int 0, .ref q67, .int 0, .ref q75, .ref q83, .ref q91, .null, .int 0, .null, .null]) (v := .ref q100) (ty := .array .int) (ws' := [(h0, .inr (7, [.ref q8, .int 0, .int 0, .int 0, .int (-1), .int 0, .ref q22, .ref q31, .ref q40, .ref q49, .ref q58, .int 0, .ref q67, .int 0, .ref q75, .ref q83, .ref q91, .ref q100, .int 0, .null, .null])), (q8, .inl (g_c G, 400, .inl (fun _ => 0))), (q22, .inl (g_c G, 200, .inl (fun _ => 0))), (q31, .inl (g_c G, 200, .inl (fun _ => 0))), (q40, .inl (g_c G, 4000, .inl (fun _ => 0))), (q49, .inl (g_c G, 200, .inl (fun _ => 0))), (q58, .inl (g_c G, 200, .inl (fun _ => 0))), (q67, .inl (g_c G, 200, .inl (fun _ => 0))), (q75, .inl (g_c G, 15, .inl (fun _ => 0))), (q83, .inl (g_c G, 15, .inl (fun _ => 0))), (q91, .inl (g_c G, 15, .inl (fun _ => 0))), (q100, .inl (g_c G, 500, .inl (fun _ => 0)))]) t_Model rfl in_Model tok_Model nm_Model rfl (by decide) rfl rfl (by decide +kernel) rfl rfl (Nat.le_of_ble_eq_true rfl) w_534 rfl (by decide +kernel) rfl ?_
  refine ic_aload C (q := 0) (nx := 106) (by decide +kernel) rfl (lv_at hl 0 rfl) rfl ?_
  refine ic_sipush C (n := 420) (v := 420) (nx := 109) (by decide +kernel) (by decide +kernel) rfl ?_
  refine ic_newa C (N := 420) (nx := 111) w_106 (by decide) (by decide +kernel) (by decide) (Nat.le_of_ble_eq_true rfl) (Nat.le_of_ble_eq_true rfl) (by decide +kernel) rfl (fun q109 => ?_)
  change ic_J _ _ _ _ _ _ _ _ _ _ _ _ _ 111 [.ref q109, .ref h0] [(h0, .inr (7, [.ref q8, .int 0, .int 0, .int 0, .int (-1), .int 0, .ref q22, .ref q31, .ref q40, .ref q49, .ref q58, .int 0, .ref q67, .int 0, .ref q75, .ref q83, .ref q91, .ref q100, .int 0, .null, .null])), (q8, .inl (g_c G, 400, .inl (fun _ => 0))), (q22, .inl (g_c G, 200, .inl (fun _ => 0))), (q31, .inl (g_c G, 200, .inl (fun _ => 0))), (q40, .inl (g_c G, 4000, .inl (fun _ => 0))), (q49, .inl (g_c G, 200, .inl (fun _ => 0))), (q58, .inl (g_c G, 200, .inl (fun _ => 0))), (q67, .inl (g_c G, 200, .inl (fun _ => 0))), (q75, .inl (g_c G, 15, .inl (fun _ => 0))), (q83, .inl (g_c G, 15, .inl (fun _ => 0))), (q91, .inl (g_c G, 15, .inl (fun _ => 0))), (q100, .inl (g_c G, 500, .inl (fun _ => 0))), (q109, .inl (g_c G, 420, .inl (fun _ => 0)))] 12 6365
  refine ic_putF C hin (T := T_Model) (N := 21) (ci := 7) (k := 19) (q0 := 0) (ix := 47) (nx := 114) (fs := [.ref q8, .int 0, .int 0, .int 0, .int (-1), .int 0, .ref q22, .ref q31, .ref q40, .ref q49, .ref q58, .int 0, .ref q67, .int 0, .ref q75, .ref q83, .ref q91, .ref q100, .int 0, .null, .null]) (v := .ref q109) (ty := .array .int) (ws' := [(h0, .inr (7, [.ref q8, .int 0, .int 0, .int 0, .int (-1), .int 0, .ref q22, .ref q31, .ref q40, .ref q49, .ref q58, .int 0, .ref q67, .int 0, .ref q75, .ref q83, .ref q91, .ref q100, .int 0, .ref q109, .null])), (q8, .inl (g_c G, 400, .inl (fun _ => 0))), (q22, .inl (g_c G, 200, .inl (fun _ => 0))), (q31, .inl (g_c G, 200, .inl (fun _ => 0))), (q40, .inl (g_c G, 4000, .inl (fun _ => 0))), (q49, .inl (g_c G, 200, .inl (fun _ => 0))), (q58, .inl (g_c G, 200, .inl (fun _ => 0))), (q67, .inl (g_c G, 200, .inl (fun _ => 0))), (q75, .inl (g_c G, 15, .inl (fun _ => 0))), (q83, .inl (g_c G, 15, .inl (fun _ => 0))), (q91, .inl (g_c G, 15, .inl (fun _ => 0))), (q100, .inl (g_c G, 500, .inl (fun _ => 0))), (q109, .inl (g_c G, 420, .inl (fun _ => 0)))]) t_Model rfl in_Model tok_Model nm_Model rfl (by decide) rfl rfl (by decide +kernel) rfl rfl (Nat.le_of_ble_eq_true rfl) w_536 rfl (by decide +kernel) rfl ?_
  refine ic_aload C (q := 0) (nx := 115) (by decide +kernel) rfl (lv_at hl 0 rfl) rfl ?_
  refine ic_sipush C (n := 420) (v := 420) (nx := 118) (by decide +kernel) (by decide +kernel) rfl ?_
  refine ic_newa C (N := 420) (nx := 120) w_106 (by decide) (by decide +kernel) (by decide) (Nat.le_of_ble_eq_true rfl) (Nat.le_of_ble_eq_true rfl) (by decide +kernel) rfl (fun q118 => ?_)
  change ic_J _ _ _ _ _ _ _ _ _ _ _ _ _ 120 [.ref q118, .ref h0] [(h0, .inr (7, [.ref q8, .int 0, .int 0, .int 0, .int (-1), .int 0, .ref q22, .ref q31, .ref q40, .ref q49, .ref q58, .int 0, .ref q67, .int 0, .ref q75, .ref q83, .ref q91, .ref q100, .int 0, .ref q109, .null])), (q8, .inl (g_c G, 400, .inl (fun _ => 0))), (q22, .inl (g_c G, 200, .inl (fun _ => 0))), (q31, .inl (g_c G, 200, .inl (fun _ => 0))), (q40, .inl (g_c G, 4000, .inl (fun _ => 0))), (q49, .inl (g_c G, 200, .inl (fun _ => 0))), (q58, .inl (g_c G, 200, .inl (fun _ => 0))), (q67, .inl (g_c G, 200, .inl (fun _ => 0))), (q75, .inl (g_c G, 15, .inl (fun _ => 0))), (q83, .inl (g_c G, 15, .inl (fun _ => 0))), (q91, .inl (g_c G, 15, .inl (fun _ => 0))), (q100, .inl (g_c G, 500, .inl (fun _ => 0))), (q109, .inl (g_c G, 420, .inl (fun _ => 0))), (q118, .inl (g_c G, 420, .inl (fun _ => 0)))] 13 6785
  refine ic_putF C hin (T := T_Model) (N := 21) (ci := 7) (k := 20) (q0 := 0) (ix := 50) (nx := 123) (fs := [.ref q8, .int 0, .int 0, .int 0, .int (-1), .int 0, .ref q22, .ref q31, .ref q40, .ref q49, .ref q58, .int 0, .ref q67, .int 0, .ref q75, .ref q83, .ref q91, .ref q100, .int 0, .ref q109, .null]) (v := .ref q118) (ty := .array .int) (ws' := [(h0, .inr (7, [.ref q8, .int 0, .int 0, .int 0, .int (-1), .int 0, .ref q22, .ref q31, .ref q40, .ref q49, .ref q58, .int 0, .ref q67, .int 0, .ref q75, .ref q83, .ref q91, .ref q100, .int 0, .ref q109, .ref q118])), (q8, .inl (g_c G, 400, .inl (fun _ => 0))), (q22, .inl (g_c G, 200, .inl (fun _ => 0))), (q31, .inl (g_c G, 200, .inl (fun _ => 0))), (q40, .inl (g_c G, 4000, .inl (fun _ => 0))), (q49, .inl (g_c G, 200, .inl (fun _ => 0))), (q58, .inl (g_c G, 200, .inl (fun _ => 0))), (q67, .inl (g_c G, 200, .inl (fun _ => 0))), (q75, .inl (g_c G, 15, .inl (fun _ => 0))), (q83, .inl (g_c G, 15, .inl (fun _ => 0))), (q91, .inl (g_c G, 15, .inl (fun _ => 0))), (q100, .inl (g_c G, 500, .inl (fun _ => 0))), (q109, .inl (g_c G, 420, .inl (fun _ => 0))), (q118, .inl (g_c G, 420, .inl (fun _ => 0)))]) t_Model rfl in_Model tok_Model nm_Model rfl (by decide) rfl rfl (by decide +kernel) rfl rfl (Nat.le_of_ble_eq_true rfl) w_537 rfl (by decide +kernel) rfl ?_
  exact ic_vret C (fun i => match i with | 20 => q8 | 21 => q22 | 22 => q31 | 23 => q40 | 24 => q49 | 25 => q58 | 26 => q67 | 27 => q75 | 28 => q83 | 29 => q91 | 30 => q100 | 31 => q109 | 32 => q118 | _ => 0) rfl rfl (by decide +kernel)
end
section
/-! THE DESK: put and fetch -/
def pb (v : Int64) (k : Nat) : Int32 := ((v.toUInt64 >>> ((8 * nI k).toInt64.toUInt64 &&& Int64.toUInt64 63)).toInt64).toInt32 &&& 255
def d_putL (v : Int64) : Nat → aM → aM
  | 0, M => M
  | k + 1, M => d_putL v k (apd M (pb v k))
def d_putOk (M : aM) (n : Int32) : Bool := !(decide (n < 1)) && !(decide (8 < n)) && !(decide (400 < M 1 1 + n))
def sp_Desk_put : aS := fun as M K => match as with
  | [.ref a, .long v, .int n] => a = 0 ∧ tx_ok M ∧ K (some (.int (b2 (d_putOk M n)))) (if d_putOk M n = true then d_putL v (cl n) M else M)
  | _ => False
theorem apd_tl {M : aM} {b : Int32} (h : tl M < 400) : tl (apd M b) = tl M + 1 := by
  unfold tl apd
  simp only [am_up_ap, Nat.reduceEqDiff, ↓reduceIte]
  exact nI_clamp (by have : tl M = cl (M 1 1) := rfl; omega)
theorem apd_ok {M : aM} {b : Int32} (h : tl M < 400) : tx_ok (apd M b) := by
  refine ⟨?_, by rw [apd_tl h]; omega⟩
  rw [apd_tl h]
  unfold apd
  simp only [am_up_ap, Nat.reduceEqDiff, ↓reduceIte]
set_option maxRecDepth 100000 in
set_option maxHeartbeats 4000000 in
theorem lp_Desk_put {G : aG} (hG : am_ok G) {K : aR} {v : Int64} {n : Int32} : ∀ (k : Nat) (M : aM), tx_ok M → tl M + k ≤ 400 → K (some (.int 1)) (d_putL v k M) → am_X G Y_Desk_put 1 K 33 [some (.ref 0), some (.long v), none, some (.int n), some (.int (nI k - 1))] [] M := by
  intro k
  induction k with
  | zero =>
    intro M ht hk h
    have e1 : nI 0 - 1 < 0 := by decide
    refine am_from (tb_Desk_put (ok_Text_append hG) (by decide)) k_Desk_put 400 ?_
    simp only [q_Desk_put_33, r_Desk_put_0, r_Desk_put_1, r_Desk_put_2, r_Desk_put_5, r_Desk_put_6, r_Desk_put_8, r_Desk_put_11, r_Desk_put_12, r_Desk_put_15, r_Desk_put_18, r_Desk_put_19, r_Desk_put_20, r_Desk_put_23, r_Desk_put_26, r_Desk_put_27, r_Desk_put_28, r_Desk_put_29, r_Desk_put_30, r_Desk_put_31, r_Desk_put_33, r_Desk_put_35, r_Desk_put_38, r_Desk_put_39, r_Desk_put_42, r_Desk_put_43, r_Desk_put_45, r_Desk_put_47, r_Desk_put_48, r_Desk_put_49, r_Desk_put_50, r_Desk_put_53, r_Desk_put_54, r_Desk_put_57, r_Desk_put_60, r_Desk_put_63, r_Desk_put_64, ai_iload, ai_const, ai_cmplt, ai_cmpgt, ai_aload, ai_getf, ai_iadd, ai_bin, ai_cmple, ai_zret, ai_isub, ai_istore, am_cut_0, am_cut_s, am_c1, ai_iflt, ai_lload, ai_imul, ai_lushr, ai_l2i, ai_iand, ai_callv2, am_push, am_few, ai_iinc, ai_goto, kd_0, fd_0_0, fd_0_1, fd_0_2, fd_0_3, fd_0_4, kd_1, fd_1_0, fd_1_1, ln_2, kd_3, fd_3_0, fd_3_1, fd_3_2, fd_3_3, fd_3_4, fd_3_5, fd_3_6, fd_3_7, fd_3_8, fd_3_9, ln_4, ln_5, ln_6, ln_7, ln_8, ln_9, ln_10, kd_11, fd_11_0, fd_11_1, fd_11_2, fd_11_3, fd_11_4, kd_12, fd_12_0, fd_12_1, fd_12_2, fd_12_3, ln_13, ln_14, ln_15, kd_16, fd_16_0, fd_16_1, fd_16_2, ln_17, kd_18, fd_18_0, fd_18_1, kd_19, fd_19_0, fd_19_1, fd_19_2, fd_19_3, fd_19_4, fd_19_5, fd_19_6, fd_19_7, fd_19_8, fd_19_9, fd_19_10, fd_19_11, fd_19_12, fd_19_13, fd_19_14, fd_19_15, fd_19_16, fd_19_17, fd_19_18, fd_19_19, fd_19_20, ln_20, ln_21, ln_22, ln_23, ln_24, ln_25, ln_26, ln_27, ln_28, ln_29, ln_30, ln_31, ln_32, List.getElem?_cons_zero, List.getElem?_cons_succ, List.set_cons_zero, List.set_cons_succ, true_and, and_true, ↓reduceIte, Int32.reduceLT, Int32.reduceLE, li_10, or_true, true_or, e1]
    exact h
  | succ k ih =>
    intro M ht hk h
    have e1 : ¬ nI k < 0 := nI_pos (by omega)
    have e2 : tl M < 400 := by omega
    have en : nI k + (-1) = nI k - 1 := (Int32.sub_eq_add_neg _ _).symm
    rw [nI_pred]
    refine am_from (tb_Desk_put (ok_Text_append hG) (by decide)) k_Desk_put 400 ?_
    simp only [q_Desk_put_33, r_Desk_put_0, r_Desk_put_1, r_Desk_put_2, r_Desk_put_5, r_Desk_put_6, r_Desk_put_8, r_Desk_put_11, r_Desk_put_12, r_Desk_put_15, r_Desk_put_18, r_Desk_put_19, r_Desk_put_20, r_Desk_put_23, r_Desk_put_26, r_Desk_put_27, r_Desk_put_28, r_Desk_put_29, r_Desk_put_30, r_Desk_put_31, r_Desk_put_33, r_Desk_put_35, r_Desk_put_38, r_Desk_put_39, r_Desk_put_42, r_Desk_put_43, r_Desk_put_45, r_Desk_put_47, r_Desk_put_48, r_Desk_put_49, r_Desk_put_50, r_Desk_put_53, r_Desk_put_54, r_Desk_put_57, r_Desk_put_60, r_Desk_put_63, r_Desk_put_64, ai_iload, ai_const, ai_cmplt, ai_cmpgt, ai_aload, ai_getf, ai_iadd, ai_bin, ai_cmple, ai_zret, ai_isub, ai_istore, am_cut_0, am_cut_s, am_c1, ai_iflt, ai_lload, ai_imul, ai_lushr, ai_l2i, ai_iand, ai_callv2, am_push, am_few, ai_iinc, ai_goto, kd_0, fd_0_0, fd_0_1, fd_0_2, fd_0_3, fd_0_4, kd_1, fd_1_0, fd_1_1, ln_2, kd_3, fd_3_0, fd_3_1, fd_3_2, fd_3_3, fd_3_4, fd_3_5, fd_3_6, fd_3_7, fd_3_8, fd_3_9, ln_4, ln_5, ln_6, ln_7, ln_8, ln_9, ln_10, kd_11, fd_11_0, fd_11_1, fd_11_2, fd_11_3, fd_11_4, kd_12, fd_12_0, fd_12_1, fd_12_2, fd_12_3, ln_13, ln_14, ln_15, kd_16, fd_16_0, fd_16_1, fd_16_2, ln_17, kd_18, fd_18_0, fd_18_1, kd_19, fd_19_0, fd_19_1, fd_19_2, fd_19_3, fd_19_4, fd_19_5, fd_19_6, fd_19_7, fd_19_8, fd_19_9, fd_19_10, fd_19_11, fd_19_12, fd_19_13, fd_19_14, fd_19_15, fd_19_16, fd_19_17, fd_19_18, fd_19_19, fd_19_20, ln_20, ln_21, ln_22, ln_23, ln_24, ln_25, ln_26, ln_27, ln_28, ln_29, ln_30, ln_31, ln_32, List.getElem?_cons_zero, List.getElem?_cons_succ, List.set_cons_zero, List.set_cons_succ, true_and, and_true, ↓reduceIte, Int32.reduceLT, Int32.reduceLE, li_10, or_true, true_or, ↓sp_Text_append, e1, ht, e2, en]
    exact ih (apd M (pb v k)) (apd_ok e2) (by rw [apd_tl e2]; omega) h
set_option maxRecDepth 100000 in
set_option maxHeartbeats 4000000 in
theorem ok_Desk_put {G : aG} (hG : am_ok G) : am_Sp G Y_Desk_put 1 sp_Desk_put := by
  intro as M K h
  unfold sp_Desk_put at h
  split at h
  · next a v n =>
    obtain ⟨rfl, ht, h⟩ := h
    unfold d_putOk at h
    by_cases c1 : n < 1
    · refine am_entry hG (by decide +kernel) (Nat.le_of_ble_eq_true rfl) ?_
      refine am_go (cuts := k_Desk_put) (tb_Desk_put (ok_Text_append hG) (by decide)) 400 _ _ _ _ ?_
      change am_run _ _ _ _ _ _ [some (.ref 0), some (.long v), none, some (.int n), none] [] _
      simp only [q_Desk_put_33, r_Desk_put_0, r_Desk_put_1, r_Desk_put_2, r_Desk_put_5, r_Desk_put_6, r_Desk_put_8, r_Desk_put_11, r_Desk_put_12, r_Desk_put_15, r_Desk_put_18, r_Desk_put_19, r_Desk_put_20, r_Desk_put_23, r_Desk_put_26, r_Desk_put_27, r_Desk_put_28, r_Desk_put_29, r_Desk_put_30, r_Desk_put_31, r_Desk_put_33, r_Desk_put_35, r_Desk_put_38, r_Desk_put_39, r_Desk_put_42, r_Desk_put_43, r_Desk_put_45, r_Desk_put_47, r_Desk_put_48, r_Desk_put_49, r_Desk_put_50, r_Desk_put_53, r_Desk_put_54, r_Desk_put_57, r_Desk_put_60, r_Desk_put_63, r_Desk_put_64, ai_iload, ai_const, ai_cmplt, ai_cmpgt, ai_aload, ai_getf, ai_iadd, ai_bin, ai_cmple, ai_zret, ai_isub, ai_istore, am_cut_0, am_cut_s, am_c1, ai_iflt, ai_lload, ai_imul, ai_lushr, ai_l2i, ai_iand, ai_callv2, am_push, am_few, ai_iinc, ai_goto, kd_0, fd_0_0, fd_0_1, fd_0_2, fd_0_3, fd_0_4, kd_1, fd_1_0, fd_1_1, ln_2, kd_3, fd_3_0, fd_3_1, fd_3_2, fd_3_3, fd_3_4, fd_3_5, fd_3_6, fd_3_7, fd_3_8, fd_3_9, ln_4, ln_5, ln_6, ln_7, ln_8, ln_9, ln_10, kd_11, fd_11_0, fd_11_1, fd_11_2, fd_11_3, fd_11_4, kd_12, fd_12_0, fd_12_1, fd_12_2, fd_12_3, ln_13, ln_14, ln_15, kd_16, fd_16_0, fd_16_1, fd_16_2, ln_17, kd_18, fd_18_0, fd_18_1, kd_19, fd_19_0, fd_19_1, fd_19_2, fd_19_3, fd_19_4, fd_19_5, fd_19_6, fd_19_7, fd_19_8, fd_19_9, fd_19_10, fd_19_11, fd_19_12, fd_19_13, fd_19_14, fd_19_15, fd_19_16, fd_19_17, fd_19_18, fd_19_19, fd_19_20, ln_20, ln_21, ln_22, ln_23, ln_24, ln_25, ln_26, ln_27, ln_28, ln_29, ln_30, ln_31, ln_32, List.getElem?_cons_zero, List.getElem?_cons_succ, List.set_cons_zero, List.set_cons_succ, true_and, and_true, ↓reduceIte, Int32.reduceLT, Int32.reduceLE, li_10, or_true, true_or, c1]
      simp [c1, b2] at h
      exact h
    by_cases c2 : 8 < n
    · refine am_entry hG (by decide +kernel) (Nat.le_of_ble_eq_true rfl) ?_
      refine am_go (cuts := k_Desk_put) (tb_Desk_put (ok_Text_append hG) (by decide)) 400 _ _ _ _ ?_
      change am_run _ _ _ _ _ _ [some (.ref 0), some (.long v), none, some (.int n), none] [] _
      simp only [q_Desk_put_33, r_Desk_put_0, r_Desk_put_1, r_Desk_put_2, r_Desk_put_5, r_Desk_put_6, r_Desk_put_8, r_Desk_put_11, r_Desk_put_12, r_Desk_put_15, r_Desk_put_18, r_Desk_put_19, r_Desk_put_20, r_Desk_put_23, r_Desk_put_26, r_Desk_put_27, r_Desk_put_28, r_Desk_put_29, r_Desk_put_30, r_Desk_put_31, r_Desk_put_33, r_Desk_put_35, r_Desk_put_38, r_Desk_put_39, r_Desk_put_42, r_Desk_put_43, r_Desk_put_45, r_Desk_put_47, r_Desk_put_48, r_Desk_put_49, r_Desk_put_50, r_Desk_put_53, r_Desk_put_54, r_Desk_put_57, r_Desk_put_60, r_Desk_put_63, r_Desk_put_64, ai_iload, ai_const, ai_cmplt, ai_cmpgt, ai_aload, ai_getf, ai_iadd, ai_bin, ai_cmple, ai_zret, ai_isub, ai_istore, am_cut_0, am_cut_s, am_c1, ai_iflt, ai_lload, ai_imul, ai_lushr, ai_l2i, ai_iand, ai_callv2, am_push, am_few, ai_iinc, ai_goto, kd_0, fd_0_0, fd_0_1, fd_0_2, fd_0_3, fd_0_4, kd_1, fd_1_0, fd_1_1, ln_2, kd_3, fd_3_0, fd_3_1, fd_3_2, fd_3_3, fd_3_4, fd_3_5, fd_3_6, fd_3_7, fd_3_8, fd_3_9, ln_4, ln_5, ln_6, ln_7, ln_8, ln_9, ln_10, kd_11, fd_11_0, fd_11_1, fd_11_2, fd_11_3, fd_11_4, kd_12, fd_12_0, fd_12_1, fd_12_2, fd_12_3, ln_13, ln_14, ln_15, kd_16, fd_16_0, fd_16_1, fd_16_2, ln_17, kd_18, fd_18_0, fd_18_1, kd_19, fd_19_0, fd_19_1, fd_19_2, fd_19_3, fd_19_4, fd_19_5, fd_19_6, fd_19_7, fd_19_8, fd_19_9, fd_19_10, fd_19_11, fd_19_12, fd_19_13, fd_19_14, fd_19_15, fd_19_16, fd_19_17, fd_19_18, fd_19_19, fd_19_20, ln_20, ln_21, ln_22, ln_23, ln_24, ln_25, ln_26, ln_27, ln_28, ln_29, ln_30, ln_31, ln_32, List.getElem?_cons_zero, List.getElem?_cons_succ, List.set_cons_zero, List.set_cons_succ, true_and, and_true, ↓reduceIte, Int32.reduceLT, Int32.reduceLE, li_10, or_true, true_or, c1, c2]
      simp [c2, b2] at h
      exact h
    by_cases c3 : 400 < M 1 1 + n
    · refine am_entry hG (by decide +kernel) (Nat.le_of_ble_eq_true rfl) ?_
      refine am_go (cuts := k_Desk_put) (tb_Desk_put (ok_Text_append hG) (by decide)) 400 _ _ _ _ ?_
      change am_run _ _ _ _ _ _ [some (.ref 0), some (.long v), none, some (.int n), none] [] _
      simp only [q_Desk_put_33, r_Desk_put_0, r_Desk_put_1, r_Desk_put_2, r_Desk_put_5, r_Desk_put_6, r_Desk_put_8, r_Desk_put_11, r_Desk_put_12, r_Desk_put_15, r_Desk_put_18, r_Desk_put_19, r_Desk_put_20, r_Desk_put_23, r_Desk_put_26, r_Desk_put_27, r_Desk_put_28, r_Desk_put_29, r_Desk_put_30, r_Desk_put_31, r_Desk_put_33, r_Desk_put_35, r_Desk_put_38, r_Desk_put_39, r_Desk_put_42, r_Desk_put_43, r_Desk_put_45, r_Desk_put_47, r_Desk_put_48, r_Desk_put_49, r_Desk_put_50, r_Desk_put_53, r_Desk_put_54, r_Desk_put_57, r_Desk_put_60, r_Desk_put_63, r_Desk_put_64, ai_iload, ai_const, ai_cmplt, ai_cmpgt, ai_aload, ai_getf, ai_iadd, ai_bin, ai_cmple, ai_zret, ai_isub, ai_istore, am_cut_0, am_cut_s, am_c1, ai_iflt, ai_lload, ai_imul, ai_lushr, ai_l2i, ai_iand, ai_callv2, am_push, am_few, ai_iinc, ai_goto, kd_0, fd_0_0, fd_0_1, fd_0_2, fd_0_3, fd_0_4, kd_1, fd_1_0, fd_1_1, ln_2, kd_3, fd_3_0, fd_3_1, fd_3_2, fd_3_3, fd_3_4, fd_3_5, fd_3_6, fd_3_7, fd_3_8, fd_3_9, ln_4, ln_5, ln_6, ln_7, ln_8, ln_9, ln_10, kd_11, fd_11_0, fd_11_1, fd_11_2, fd_11_3, fd_11_4, kd_12, fd_12_0, fd_12_1, fd_12_2, fd_12_3, ln_13, ln_14, ln_15, kd_16, fd_16_0, fd_16_1, fd_16_2, ln_17, kd_18, fd_18_0, fd_18_1, kd_19, fd_19_0, fd_19_1, fd_19_2, fd_19_3, fd_19_4, fd_19_5, fd_19_6, fd_19_7, fd_19_8, fd_19_9, fd_19_10, fd_19_11, fd_19_12, fd_19_13, fd_19_14, fd_19_15, fd_19_16, fd_19_17, fd_19_18, fd_19_19, fd_19_20, ln_20, ln_21, ln_22, ln_23, ln_24, ln_25, ln_26, ln_27, ln_28, ln_29, ln_30, ln_31, ln_32, List.getElem?_cons_zero, List.getElem?_cons_succ, List.set_cons_zero, List.set_cons_succ, true_and, and_true, ↓reduceIte, Int32.reduceLT, Int32.reduceLE, li_10, or_true, true_or, c1, c2, c3]
      simp [c3, b2] at h
      exact h
    refine am_entry hG (by decide +kernel) (Nat.le_of_ble_eq_true rfl) ?_
    refine am_go (cuts := k_Desk_put) (tb_Desk_put (ok_Text_append hG) (by decide)) 400 _ _ _ _ ?_
    change am_run _ _ _ _ _ _ [some (.ref 0), some (.long v), none, some (.int n), none] [] _
    simp only [q_Desk_put_33, r_Desk_put_0, r_Desk_put_1, r_Desk_put_2, r_Desk_put_5, r_Desk_put_6, r_Desk_put_8, r_Desk_put_11, r_Desk_put_12, r_Desk_put_15, r_Desk_put_18, r_Desk_put_19, r_Desk_put_20, r_Desk_put_23, r_Desk_put_26, r_Desk_put_27, r_Desk_put_28, r_Desk_put_29, r_Desk_put_30, r_Desk_put_31, r_Desk_put_33, r_Desk_put_35, r_Desk_put_38, r_Desk_put_39, r_Desk_put_42, r_Desk_put_43, r_Desk_put_45, r_Desk_put_47, r_Desk_put_48, r_Desk_put_49, r_Desk_put_50, r_Desk_put_53, r_Desk_put_54, r_Desk_put_57, r_Desk_put_60, r_Desk_put_63, r_Desk_put_64, ai_iload, ai_const, ai_cmplt, ai_cmpgt, ai_aload, ai_getf, ai_iadd, ai_bin, ai_cmple, ai_zret, ai_isub, ai_istore, am_cut_0, am_cut_s, am_c1, ai_iflt, ai_lload, ai_imul, ai_lushr, ai_l2i, ai_iand, ai_callv2, am_push, am_few, ai_iinc, ai_goto, kd_0, fd_0_0, fd_0_1, fd_0_2, fd_0_3, fd_0_4, kd_1, fd_1_0, fd_1_1, ln_2, kd_3, fd_3_0, fd_3_1, fd_3_2, fd_3_3, fd_3_4, fd_3_5, fd_3_6, fd_3_7, fd_3_8, fd_3_9, ln_4, ln_5, ln_6, ln_7, ln_8, ln_9, ln_10, kd_11, fd_11_0, fd_11_1, fd_11_2, fd_11_3, fd_11_4, kd_12, fd_12_0, fd_12_1, fd_12_2, fd_12_3, ln_13, ln_14, ln_15, kd_16, fd_16_0, fd_16_1, fd_16_2, ln_17, kd_18, fd_18_0, fd_18_1, kd_19, fd_19_0, fd_19_1, fd_19_2, fd_19_3, fd_19_4, fd_19_5, fd_19_6, fd_19_7, fd_19_8, fd_19_9, fd_19_10, fd_19_11, fd_19_12, fd_19_13, fd_19_14, fd_19_15, fd_19_16, fd_19_17, fd_19_18, fd_19_19, fd_19_20, ln_20, ln_21, ln_22, ln_23, ln_24, ln_25, ln_26, ln_27, ln_28, ln_29, ln_30, ln_31, ln_32, List.getElem?_cons_zero, List.getElem?_cons_succ, List.set_cons_zero, List.set_cons_succ, true_and, and_true, ↓reduceIte, Int32.reduceLT, Int32.reduceLE, li_10, or_true, true_or, c1, c2, c3]
    simp only [c1, c2, c3, decide_false, Bool.not_false, Bool.and_self, ↓reduceIte] at h
    have h1 : ¬ n < 0 := fun q => c1 (Int32.lt_trans q (by decide))
    obtain ⟨j, hj, rfl⟩ := nI_of h1
    rw [show cl (nI j) = j from nI_clamp hj] at h
    have h8 : j ≤ 8 := by
      apply Nat.le_of_not_lt
      intro q
      exact c2 (nI_lt (a := 8) q hj)
    have h4 : tl M + j ≤ 400 := by
      apply Nat.le_of_not_lt
      intro q
      apply c3
      rw [ht.1, nI_add]
      exact nI_lt (a := 400) q (by have := ht.2; omega)
    exact lp_Desk_put hG j M ht h4 h
  · cases h
def sh8 (v : Int64) : Int64 := v <<< ((8 : Int32).toInt64 &&& 63)
def d_ft (n : Nat) : Nat → Nat → Int64 → aM → Int64 × aM
  | 0, _, v, M => (v, M)
  | r + 1, k, v, M => if k < n then d_ft n r (k + 1) (sh8 v ||| (M 17 (wf M)).toInt64) (takM M) else d_ft n r (k + 1) (sh8 v ||| (0 : Int32).toInt64) M
def d_fn (M : aM) : Nat := if 7 < ww M then 7 else ww M
def sp_Desk_fetch : aS := fun as M K => match as with
  | [.ref a] => a = 0 ∧ wt_ok M ∧ K (some (.long (d_ft (d_fn M) 7 0 (nI (d_fn M)).toInt64 M).1)) (d_ft (d_fn M) 7 0 (nI (d_fn M)).toInt64 M).2
  | _ => False
theorem takM_ww {M : aM} (h : wt_ok M) : ww (takM M) = ww M - 1 := by
  unfold ww takM
  simp only [am_up_ap, Nat.reduceEqDiff, ↓reduceIte]
  exact nI_clamp (by have := h.2.2.2; omega)
theorem takM_ok {M : aM} (h : wt_ok M) : wt_ok (takM M) := by
  have e1 : wf (takM M) = if wf M + 1 < 500 then wf M + 1 else 0 := by
    show cl (takM M 16 1) = _
    unfold takM
    simp only [am_up_ap, Nat.reduceEqDiff, ↓reduceIte]
    exact nI_clamp (by have := h.2.1; split <;> omega)
  refine ⟨?_, ?_, ?_, ?_⟩
  · rw [e1]; unfold takM; simp only [am_up_ap, Nat.reduceEqDiff, ↓reduceIte]
  · rw [e1]; have := h.2.1; split <;> omega
  · rw [takM_ww h]; unfold takM; simp only [am_up_ap, Nat.reduceEqDiff, ↓reduceIte]
  · rw [takM_ww h]; have := h.2.2.2; omega
set_option maxRecDepth 100000 in
set_option maxHeartbeats 4000000 in
theorem lp_Desk_fetch {G : aG} (hG : am_ok G) {K : aR} {n : Nat} (hn : n ≤ 7) : ∀ (r k : Nat) (v : Int64) (M : aM), k + r = 7 → wt_ok M → n ≤ ww M + k → K (some (.long (d_ft n r k v M).1)) (d_ft n r k v M).2 → am_X G Y_Desk_fetch 1 K 19 [some (.ref 0), some (.int (nI n)), some (.long v), none, some (.int (nI k))] [] M := by
  intro r
  induction r with
  | zero =>
    intro k v M hk hw hm h
    have e1 : ¬ nI k < 7 := nI_nlt (b := 7) (a := k) (by omega) (by omega)
    refine am_from (tb_Desk_fetch (ok_Waiting_take hG) (by decide) (by decide)) k_Desk_fetch 400 ?_
    simp only [q_Desk_fetch_19, r_Desk_fetch_0, r_Desk_fetch_1, r_Desk_fetch_4, r_Desk_fetch_7, r_Desk_fetch_9, r_Desk_fetch_12, r_Desk_fetch_13, r_Desk_fetch_14, r_Desk_fetch_15, r_Desk_fetch_16, r_Desk_fetch_17, r_Desk_fetch_19, r_Desk_fetch_21, r_Desk_fetch_23, r_Desk_fetch_26, r_Desk_fetch_27, r_Desk_fetch_29, r_Desk_fetch_30, r_Desk_fetch_32, r_Desk_fetch_33, r_Desk_fetch_36, r_Desk_fetch_37, r_Desk_fetch_40, r_Desk_fetch_43, r_Desk_fetch_46, r_Desk_fetch_47, r_Desk_fetch_48, r_Desk_fetch_49, r_Desk_fetch_50, r_Desk_fetch_53, r_Desk_fetch_56, r_Desk_fetch_57, ai_aload, ai_getf, ai_const, ai_min, am_few, ai_istore, am_cut_0, am_cut_s, am_c1, ai_iload, ai_i2l, ai_lstore, ai_cmpge, ai_lload, ai_lshl, ai_callv1, am_push, ai_goto, ai_lor, ai_lbin, ai_iinc, ai_lret, kd_0, fd_0_0, fd_0_1, fd_0_2, fd_0_3, fd_0_4, kd_1, fd_1_0, fd_1_1, ln_2, kd_3, fd_3_0, fd_3_1, fd_3_2, fd_3_3, fd_3_4, fd_3_5, fd_3_6, fd_3_7, fd_3_8, fd_3_9, ln_4, ln_5, ln_6, ln_7, ln_8, ln_9, ln_10, kd_11, fd_11_0, fd_11_1, fd_11_2, fd_11_3, fd_11_4, kd_12, fd_12_0, fd_12_1, fd_12_2, fd_12_3, ln_13, ln_14, ln_15, kd_16, fd_16_0, fd_16_1, fd_16_2, ln_17, kd_18, fd_18_0, fd_18_1, kd_19, fd_19_0, fd_19_1, fd_19_2, fd_19_3, fd_19_4, fd_19_5, fd_19_6, fd_19_7, fd_19_8, fd_19_9, fd_19_10, fd_19_11, fd_19_12, fd_19_13, fd_19_14, fd_19_15, fd_19_16, fd_19_17, fd_19_18, fd_19_19, fd_19_20, ln_20, ln_21, ln_22, ln_23, ln_24, ln_25, ln_26, ln_27, ln_28, ln_29, ln_30, ln_31, ln_32, List.getElem?_cons_zero, List.getElem?_cons_succ, List.set_cons_zero, List.set_cons_succ, true_and, and_true, ↓reduceIte, Int32.reduceLT, Int32.reduceLE, li_10, or_true, true_or, e1]
    exact h
  | succ r ih =>
    intro k v M hk hw hm h
    have e1 : nI k < 7 := nI_lt (b := 7) (by omega) (by decide)
    simp only [d_ft] at h
    by_cases c : k < n
    · rw [if_pos c] at h
      have e2 : nI k < nI n := nI_lt c (by omega)
      have e3 : 0 < ww M := by omega
      refine am_from (tb_Desk_fetch (ok_Waiting_take hG) (by decide) (by decide)) k_Desk_fetch 400 ?_
      simp only [q_Desk_fetch_19, r_Desk_fetch_0, r_Desk_fetch_1, r_Desk_fetch_4, r_Desk_fetch_7, r_Desk_fetch_9, r_Desk_fetch_12, r_Desk_fetch_13, r_Desk_fetch_14, r_Desk_fetch_15, r_Desk_fetch_16, r_Desk_fetch_17, r_Desk_fetch_19, r_Desk_fetch_21, r_Desk_fetch_23, r_Desk_fetch_26, r_Desk_fetch_27, r_Desk_fetch_29, r_Desk_fetch_30, r_Desk_fetch_32, r_Desk_fetch_33, r_Desk_fetch_36, r_Desk_fetch_37, r_Desk_fetch_40, r_Desk_fetch_43, r_Desk_fetch_46, r_Desk_fetch_47, r_Desk_fetch_48, r_Desk_fetch_49, r_Desk_fetch_50, r_Desk_fetch_53, r_Desk_fetch_56, r_Desk_fetch_57, ai_aload, ai_getf, ai_const, ai_min, am_few, ai_istore, am_cut_0, am_cut_s, am_c1, ai_iload, ai_i2l, ai_lstore, ai_cmpge, ai_lload, ai_lshl, ai_callv1, am_push, ai_goto, ai_lor, ai_lbin, ai_iinc, ai_lret, kd_0, fd_0_0, fd_0_1, fd_0_2, fd_0_3, fd_0_4, kd_1, fd_1_0, fd_1_1, ln_2, kd_3, fd_3_0, fd_3_1, fd_3_2, fd_3_3, fd_3_4, fd_3_5, fd_3_6, fd_3_7, fd_3_8, fd_3_9, ln_4, ln_5, ln_6, ln_7, ln_8, ln_9, ln_10, kd_11, fd_11_0, fd_11_1, fd_11_2, fd_11_3, fd_11_4, kd_12, fd_12_0, fd_12_1, fd_12_2, fd_12_3, ln_13, ln_14, ln_15, kd_16, fd_16_0, fd_16_1, fd_16_2, ln_17, kd_18, fd_18_0, fd_18_1, kd_19, fd_19_0, fd_19_1, fd_19_2, fd_19_3, fd_19_4, fd_19_5, fd_19_6, fd_19_7, fd_19_8, fd_19_9, fd_19_10, fd_19_11, fd_19_12, fd_19_13, fd_19_14, fd_19_15, fd_19_16, fd_19_17, fd_19_18, fd_19_19, fd_19_20, ln_20, ln_21, ln_22, ln_23, ln_24, ln_25, ln_26, ln_27, ln_28, ln_29, ln_30, ln_31, ln_32, List.getElem?_cons_zero, List.getElem?_cons_succ, List.set_cons_zero, List.set_cons_succ, true_and, and_true, ↓reduceIte, Int32.reduceLT, Int32.reduceLE, li_10, or_true, true_or, ↓sp_Waiting_take, e1, e2, hw, e3, nI_1]
      exact ih (k + 1) _ _ (by omega) (takM_ok hw) (by rw [takM_ww hw]; omega) h
    · rw [if_neg c] at h
      have e2 : ¬ nI k < nI n := nI_nlt (by omega) (by omega)
      refine am_from (tb_Desk_fetch (ok_Waiting_take hG) (by decide) (by decide)) k_Desk_fetch 400 ?_
      simp only [q_Desk_fetch_19, r_Desk_fetch_0, r_Desk_fetch_1, r_Desk_fetch_4, r_Desk_fetch_7, r_Desk_fetch_9, r_Desk_fetch_12, r_Desk_fetch_13, r_Desk_fetch_14, r_Desk_fetch_15, r_Desk_fetch_16, r_Desk_fetch_17, r_Desk_fetch_19, r_Desk_fetch_21, r_Desk_fetch_23, r_Desk_fetch_26, r_Desk_fetch_27, r_Desk_fetch_29, r_Desk_fetch_30, r_Desk_fetch_32, r_Desk_fetch_33, r_Desk_fetch_36, r_Desk_fetch_37, r_Desk_fetch_40, r_Desk_fetch_43, r_Desk_fetch_46, r_Desk_fetch_47, r_Desk_fetch_48, r_Desk_fetch_49, r_Desk_fetch_50, r_Desk_fetch_53, r_Desk_fetch_56, r_Desk_fetch_57, ai_aload, ai_getf, ai_const, ai_min, am_few, ai_istore, am_cut_0, am_cut_s, am_c1, ai_iload, ai_i2l, ai_lstore, ai_cmpge, ai_lload, ai_lshl, ai_callv1, am_push, ai_goto, ai_lor, ai_lbin, ai_iinc, ai_lret, kd_0, fd_0_0, fd_0_1, fd_0_2, fd_0_3, fd_0_4, kd_1, fd_1_0, fd_1_1, ln_2, kd_3, fd_3_0, fd_3_1, fd_3_2, fd_3_3, fd_3_4, fd_3_5, fd_3_6, fd_3_7, fd_3_8, fd_3_9, ln_4, ln_5, ln_6, ln_7, ln_8, ln_9, ln_10, kd_11, fd_11_0, fd_11_1, fd_11_2, fd_11_3, fd_11_4, kd_12, fd_12_0, fd_12_1, fd_12_2, fd_12_3, ln_13, ln_14, ln_15, kd_16, fd_16_0, fd_16_1, fd_16_2, ln_17, kd_18, fd_18_0, fd_18_1, kd_19, fd_19_0, fd_19_1, fd_19_2, fd_19_3, fd_19_4, fd_19_5, fd_19_6, fd_19_7, fd_19_8, fd_19_9, fd_19_10, fd_19_11, fd_19_12, fd_19_13, fd_19_14, fd_19_15, fd_19_16, fd_19_17, fd_19_18, fd_19_19, fd_19_20, ln_20, ln_21, ln_22, ln_23, ln_24, ln_25, ln_26, ln_27, ln_28, ln_29, ln_30, ln_31, ln_32, List.getElem?_cons_zero, List.getElem?_cons_succ, List.set_cons_zero, List.set_cons_succ, true_and, and_true, ↓reduceIte, Int32.reduceLT, Int32.reduceLE, li_10, or_true, true_or, e1, e2, nI_1]
      exact ih (k + 1) _ _ (by omega) hw (by omega) h
set_option maxRecDepth 100000 in
set_option maxHeartbeats 4000000 in
theorem ok_Desk_fetch {G : aG} (hG : am_ok G) : am_Sp G Y_Desk_fetch 1 sp_Desk_fetch := by
  intro as M K h
  unfold sp_Desk_fetch at h
  split at h
  · next a =>
    obtain ⟨rfl, hw, h⟩ := h
    have h7 : d_fn M ≤ 7 ∧ d_fn M ≤ ww M := by unfold d_fn; split <;> omega
    have ew : 7 < M 16 2 ↔ 7 < ww M := by rw [hw.2.2.1]; exact nI_ltI (a := 7) (by decide) (by have := hw.2.2.2; omega)
    by_cases c : 7 < M 16 2
    · refine am_entry hG (by decide +kernel) (Nat.le_of_ble_eq_true rfl) ?_
      refine am_go (cuts := k_Desk_fetch) (tb_Desk_fetch (ok_Waiting_take hG) (by decide) (by decide)) 400 _ _ _ _ ?_
      change am_run _ _ _ _ _ _ [some (.ref 0), none, none, none, none] [] _
      simp only [q_Desk_fetch_19, r_Desk_fetch_0, r_Desk_fetch_1, r_Desk_fetch_4, r_Desk_fetch_7, r_Desk_fetch_9, r_Desk_fetch_12, r_Desk_fetch_13, r_Desk_fetch_14, r_Desk_fetch_15, r_Desk_fetch_16, r_Desk_fetch_17, r_Desk_fetch_19, r_Desk_fetch_21, r_Desk_fetch_23, r_Desk_fetch_26, r_Desk_fetch_27, r_Desk_fetch_29, r_Desk_fetch_30, r_Desk_fetch_32, r_Desk_fetch_33, r_Desk_fetch_36, r_Desk_fetch_37, r_Desk_fetch_40, r_Desk_fetch_43, r_Desk_fetch_46, r_Desk_fetch_47, r_Desk_fetch_48, r_Desk_fetch_49, r_Desk_fetch_50, r_Desk_fetch_53, r_Desk_fetch_56, r_Desk_fetch_57, ai_aload, ai_getf, ai_const, ai_min, am_few, ai_istore, am_cut_0, am_cut_s, am_c1, ai_iload, ai_i2l, ai_lstore, ai_cmpge, ai_lload, ai_lshl, ai_callv1, am_push, ai_goto, ai_lor, ai_lbin, ai_iinc, ai_lret, kd_0, fd_0_0, fd_0_1, fd_0_2, fd_0_3, fd_0_4, kd_1, fd_1_0, fd_1_1, ln_2, kd_3, fd_3_0, fd_3_1, fd_3_2, fd_3_3, fd_3_4, fd_3_5, fd_3_6, fd_3_7, fd_3_8, fd_3_9, ln_4, ln_5, ln_6, ln_7, ln_8, ln_9, ln_10, kd_11, fd_11_0, fd_11_1, fd_11_2, fd_11_3, fd_11_4, kd_12, fd_12_0, fd_12_1, fd_12_2, fd_12_3, ln_13, ln_14, ln_15, kd_16, fd_16_0, fd_16_1, fd_16_2, ln_17, kd_18, fd_18_0, fd_18_1, kd_19, fd_19_0, fd_19_1, fd_19_2, fd_19_3, fd_19_4, fd_19_5, fd_19_6, fd_19_7, fd_19_8, fd_19_9, fd_19_10, fd_19_11, fd_19_12, fd_19_13, fd_19_14, fd_19_15, fd_19_16, fd_19_17, fd_19_18, fd_19_19, fd_19_20, ln_20, ln_21, ln_22, ln_23, ln_24, ln_25, ln_26, ln_27, ln_28, ln_29, ln_30, ln_31, ln_32, List.getElem?_cons_zero, List.getElem?_cons_succ, List.set_cons_zero, List.set_cons_succ, true_and, and_true, ↓reduceIte, Int32.reduceLT, Int32.reduceLE, li_10, or_true, true_or, c]
      have e : d_fn M = 7 := by unfold d_fn; rw [if_pos (ew.mp c)]
      rw [e] at h h7
      exact lp_Desk_fetch hG (n := 7) (by omega) 7 0 _ M rfl hw (by omega) h
    · refine am_entry hG (by decide +kernel) (Nat.le_of_ble_eq_true rfl) ?_
      refine am_go (cuts := k_Desk_fetch) (tb_Desk_fetch (ok_Waiting_take hG) (by decide) (by decide)) 400 _ _ _ _ ?_
      change am_run _ _ _ _ _ _ [some (.ref 0), none, none, none, none] [] _
      simp only [q_Desk_fetch_19, r_Desk_fetch_0, r_Desk_fetch_1, r_Desk_fetch_4, r_Desk_fetch_7, r_Desk_fetch_9, r_Desk_fetch_12, r_Desk_fetch_13, r_Desk_fetch_14, r_Desk_fetch_15, r_Desk_fetch_16, r_Desk_fetch_17, r_Desk_fetch_19, r_Desk_fetch_21, r_Desk_fetch_23, r_Desk_fetch_26, r_Desk_fetch_27, r_Desk_fetch_29, r_Desk_fetch_30, r_Desk_fetch_32, r_Desk_fetch_33, r_Desk_fetch_36, r_Desk_fetch_37, r_Desk_fetch_40, r_Desk_fetch_43, r_Desk_fetch_46, r_Desk_fetch_47, r_Desk_fetch_48, r_Desk_fetch_49, r_Desk_fetch_50, r_Desk_fetch_53, r_Desk_fetch_56, r_Desk_fetch_57, ai_aload, ai_getf, ai_const, ai_min, am_few, ai_istore, am_cut_0, am_cut_s, am_c1, ai_iload, ai_i2l, ai_lstore, ai_cmpge, ai_lload, ai_lshl, ai_callv1, am_push, ai_goto, ai_lor, ai_lbin, ai_iinc, ai_lret, kd_0, fd_0_0, fd_0_1, fd_0_2, fd_0_3, fd_0_4, kd_1, fd_1_0, fd_1_1, ln_2, kd_3, fd_3_0, fd_3_1, fd_3_2, fd_3_3, fd_3_4, fd_3_5, fd_3_6, fd_3_7, fd_3_8, fd_3_9, ln_4, ln_5, ln_6, ln_7, ln_8, ln_9, ln_10, kd_11, fd_11_0, fd_11_1, fd_11_2, fd_11_3, fd_11_4, kd_12, fd_12_0, fd_12_1, fd_12_2, fd_12_3, ln_13, ln_14, ln_15, kd_16, fd_16_0, fd_16_1, fd_16_2, ln_17, kd_18, fd_18_0, fd_18_1, kd_19, fd_19_0, fd_19_1, fd_19_2, fd_19_3, fd_19_4, fd_19_5, fd_19_6, fd_19_7, fd_19_8, fd_19_9, fd_19_10, fd_19_11, fd_19_12, fd_19_13, fd_19_14, fd_19_15, fd_19_16, fd_19_17, fd_19_18, fd_19_19, fd_19_20, ln_20, ln_21, ln_22, ln_23, ln_24, ln_25, ln_26, ln_27, ln_28, ln_29, ln_30, ln_31, ln_32, List.getElem?_cons_zero, List.getElem?_cons_succ, List.set_cons_zero, List.set_cons_succ, true_and, and_true, ↓reduceIte, Int32.reduceLT, Int32.reduceLE, li_10, or_true, true_or, c]
      have e : d_fn M = ww M := by unfold d_fn; rw [if_neg (fun q => c (ew.mpr q))]
      rw [e] at h h7
      rw [hw.2.2.1]
      exact lp_Desk_fetch hG (n := ww M) (by omega) 7 0 _ M rfl hw (by omega) h
  · cases h
end
