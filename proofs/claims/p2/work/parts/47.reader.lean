/-! READING, as functions of the memory -/
def stp (e i : Int32) : Nat := (e.toInt - i.toInt).toNat
theorem stp_lt (e i : Int32) : (i < e) = (0 < stp e i) := by
  unfold stp
  apply propext
  rw [Int32.lt_iff_toInt_lt]
  omega
theorem toInt_s {i e : Int32} (h : i < e) : (i + 1).toInt = i.toInt + 1 := by
  have h1 := Int32.toInt_lt e
  have h2 := Int32.le_toInt i
  rw [Int32.lt_iff_toInt_lt] at h
  rw [Int32.toInt_add, show (1 : Int32).toInt = 1 from rfl]
  apply Int.bmod_eq_of_le <;> omega
theorem stp_s {e i : Int32} (h : i < e) : stp e (i + 1) + 1 = stp e i := by
  unfold stp
  rw [toInt_s h]
  rw [Int32.lt_iff_toInt_lt] at h
  omega
def r_fltM (M : aM) : aM := am_up M 11 4 (tk M 14 (-1) (M 11 3))
def sp_Reader_fault : aS := fun as M K => match as with
  | [.ref a] => a = 11 ∧ K (some (.int (-1))) (r_fltM M)
  | _ => False
set_option maxRecDepth 100000 in
set_option maxHeartbeats 4000000 in
theorem ok_Reader_fault {G : aG} (hG : am_ok G) : am_Sp G Y_Reader_fault 1 sp_Reader_fault := by
  intro as M K h
  unfold sp_Reader_fault at h
  split at h
  · next a =>
    obtain ⟨rfl, h⟩ := h
    refine am_entry hG (by decide +kernel) (Nat.le_of_ble_eq_true rfl) ?_
    refine am_go (cuts := k_Reader_fault) (tb_Reader_fault (ok_Tokens_startOf hG) (by decide)) 400 _ _ _ _ ?_
    change am_run _ _ _ _ _ _ [some (.ref 11)] [] _
    simp only [r_Reader_fault_0, r_Reader_fault_1, r_Reader_fault_2, r_Reader_fault_5, r_Reader_fault_6, r_Reader_fault_9, r_Reader_fault_12, r_Reader_fault_15, r_Reader_fault_16, ai_aload, ai_getf, ai_callv2, am_push, am_few, ai_putf, ai_const, ai_iret, kd_0, fd_0_0, fd_0_1, fd_0_2, fd_0_3, fd_0_4, kd_1, fd_1_0, fd_1_1, ln_2, kd_3, fd_3_0, fd_3_1, fd_3_2, fd_3_3, fd_3_4, fd_3_5, fd_3_6, fd_3_7, fd_3_8, fd_3_9, ln_4, ln_5, ln_6, ln_7, ln_8, ln_9, ln_10, kd_11, fd_11_0, fd_11_1, fd_11_2, fd_11_3, fd_11_4, kd_12, fd_12_0, fd_12_1, fd_12_2, fd_12_3, ln_13, ln_14, ln_15, kd_16, fd_16_0, fd_16_1, fd_16_2, ln_17, kd_18, fd_18_0, fd_18_1, kd_19, fd_19_0, fd_19_1, fd_19_2, fd_19_3, fd_19_4, fd_19_5, fd_19_6, fd_19_7, fd_19_8, fd_19_9, fd_19_10, fd_19_11, fd_19_12, fd_19_13, fd_19_14, fd_19_15, fd_19_16, fd_19_17, fd_19_18, fd_19_19, fd_19_20, ln_20, ln_21, ln_22, ln_23, ln_24, ln_25, ln_26, ln_27, ln_28, ln_29, ln_30, ln_31, ln_32, List.getElem?_cons_zero, List.getElem?_cons_succ, List.set_cons_zero, List.set_cons_succ, true_and, and_true, ↓reduceIte, Int32.reduceLT, Int32.reduceLE, li_10, or_true, true_or, ↓sp_Tokens_startOf]
    exact h
  · cases h
def r_add (M : aM) (k : Int32) : Int32 × aM := if (n_add M k).1 = -1 then (-1, r_fltM (n_add M k).2) else n_add M k
def sp_Reader_add : aS := fun as M K => match as with
  | [.ref a, .int k] => a = 11 ∧ K (some (.int (r_add M k).1)) (r_add M k).2
  | _ => False
set_option maxRecDepth 100000 in
set_option maxHeartbeats 4000000 in
theorem ok_Reader_add {G : aG} (hG : am_ok G) : am_Sp G Y_Reader_add 2 sp_Reader_add := by
  intro as M K h
  unfold sp_Reader_add at h
  split at h
  · next a k =>
    obtain ⟨rfl, h⟩ := h
    unfold r_add at h
    refine am_entry hG (by decide +kernel) (Nat.le_of_ble_eq_true rfl) ?_
    refine am_go (cuts := k_Reader_add) (tb_Reader_add (ok_Nodes_add hG) (by decide) (ok_Reader_fault hG) (by decide)) 400 _ _ _ _ ?_
    change am_run _ _ _ _ _ _ [some (.ref 11), some (.int k), none] [] _
    simp only [r_Reader_add_0, r_Reader_add_1, r_Reader_add_4, r_Reader_add_5, r_Reader_add_8, r_Reader_add_9, r_Reader_add_10, r_Reader_add_11, r_Reader_add_14, r_Reader_add_15, r_Reader_add_18, r_Reader_add_21, r_Reader_add_22, ai_aload, ai_getf, ai_iload, ai_callv2, am_push, am_few, ai_istore, am_cut_0, am_cut_s, am_c1, ai_const, ai_cmpne, ai_callv1, ai_goto, ai_iret, kd_0, fd_0_0, fd_0_1, fd_0_2, fd_0_3, fd_0_4, kd_1, fd_1_0, fd_1_1, ln_2, kd_3, fd_3_0, fd_3_1, fd_3_2, fd_3_3, fd_3_4, fd_3_5, fd_3_6, fd_3_7, fd_3_8, fd_3_9, ln_4, ln_5, ln_6, ln_7, ln_8, ln_9, ln_10, kd_11, fd_11_0, fd_11_1, fd_11_2, fd_11_3, fd_11_4, kd_12, fd_12_0, fd_12_1, fd_12_2, fd_12_3, ln_13, ln_14, ln_15, kd_16, fd_16_0, fd_16_1, fd_16_2, ln_17, kd_18, fd_18_0, fd_18_1, kd_19, fd_19_0, fd_19_1, fd_19_2, fd_19_3, fd_19_4, fd_19_5, fd_19_6, fd_19_7, fd_19_8, fd_19_9, fd_19_10, fd_19_11, fd_19_12, fd_19_13, fd_19_14, fd_19_15, fd_19_16, fd_19_17, fd_19_18, fd_19_19, fd_19_20, ln_20, ln_21, ln_22, ln_23, ln_24, ln_25, ln_26, ln_27, ln_28, ln_29, ln_30, ln_31, ln_32, List.getElem?_cons_zero, List.getElem?_cons_succ, List.set_cons_zero, List.set_cons_succ, true_and, and_true, ↓reduceIte, Int32.reduceLT, Int32.reduceLE, li_10, or_true, true_or, ↓sp_Nodes_add, ↓sp_Reader_fault]
    by_cases c : (n_add M k).1 = -1
    · rw [if_pos c] at h ⊢; exact h
    · rw [if_neg c] at h ⊢; exact h
  · cases h
/-- the next token -/
def r_nx (M : aM) : aM := am_up M 11 3 (M 11 3 + 1)
def tkS (M : aM) : Int32 := tk M 13 11 (M 11 3)
def nmA (M : aM) (e : Int32) : Nat → Int32 → Int32 → Int32
  | 0, _, acc => acc
  | k + 1, i, acc => if i < e then nmA M e k (i + 1) (acc * 10 + (f_at M i - 48)) else acc
def r_beg (M : aM) : Int32 := tk M 14 (-1) (M 11 3)
def r_end (M : aM) : Int32 := tk M 15 (-1) (M 11 3)
def r_numV (M : aM) : Int32 := if f_at M (r_beg M) = 45 then -(nmA M (r_end M) (stp (r_end M) (r_beg M + 1)) (r_beg M + 1) 0) else nmA M (r_end M) (stp (r_end M) (r_beg M)) (r_beg M) 0
def r_num (M : aM) : Int32 × aM := ((r_add M 1).1, n_set 5 (r_add M 1).2 (r_add M 1).1 (r_numV M))
def sp_Reader_readNumber : aS := fun as M K => match as with
  | [.ref a] => a = 11 ∧ K (some (.int (r_num M).1)) (r_num M).2
  | _ => False
set_option maxRecDepth 100000 in
set_option maxHeartbeats 4000000 in
theorem lp_Reader_readNumber {G : aG} (hG : am_ok G) {K : aR} {M : aM} {e b ng : Int32} : ∀ (k : Nat) (i acc : Int32), stp e i ≤ k → K (some (.int (r_add M 1).1)) (n_set 5 (r_add M 1).2 (r_add M 1).1 (if ng = 0 then nmA M e k i acc else -(nmA M e k i acc))) → am_X G Y_Reader_readNumber 3 K 59 [some (.ref 11), some (.int e), some (.int b), some (.int ng), some (.int acc), some (.int i)] [] M := by
  intro k
  induction k with
  | zero =>
    intro i acc hk h
    have e1 : ¬ i < e := by rw [stp_lt]; omega
    refine am_from (tb_Reader_readNumber (ok_Tokens_endOf hG) (by decide) (ok_Tokens_startOf hG) (by decide) (ok_Text_at hG) (by decide) (ok_Reader_add hG) (by decide) (ok_Nodes_setAmount hG) (by decide)) k_Reader_readNumber 400 ?_
    simp only [q_Reader_readNumber_59, r_Reader_readNumber_0, r_Reader_readNumber_1, r_Reader_readNumber_4, r_Reader_readNumber_5, r_Reader_readNumber_8, r_Reader_readNumber_11, r_Reader_readNumber_12, r_Reader_readNumber_13, r_Reader_readNumber_16, r_Reader_readNumber_17, r_Reader_readNumber_20, r_Reader_readNumber_23, r_Reader_readNumber_24, r_Reader_readNumber_25, r_Reader_readNumber_28, r_Reader_readNumber_29, r_Reader_readNumber_32, r_Reader_readNumber_34, r_Reader_readNumber_37, r_Reader_readNumber_38, r_Reader_readNumber_41, r_Reader_readNumber_42, r_Reader_readNumber_43, r_Reader_readNumber_44, r_Reader_readNumber_46, r_Reader_readNumber_47, r_Reader_readNumber_50, r_Reader_readNumber_51, r_Reader_readNumber_52, r_Reader_readNumber_53, r_Reader_readNumber_56, r_Reader_readNumber_57, r_Reader_readNumber_59, r_Reader_readNumber_61, r_Reader_readNumber_62, r_Reader_readNumber_65, r_Reader_readNumber_67, r_Reader_readNumber_69, r_Reader_readNumber_70, r_Reader_readNumber_71, r_Reader_readNumber_74, r_Reader_readNumber_76, r_Reader_readNumber_79, r_Reader_readNumber_81, r_Reader_readNumber_82, r_Reader_readNumber_83, r_Reader_readNumber_85, r_Reader_readNumber_88, r_Reader_readNumber_91, r_Reader_readNumber_92, r_Reader_readNumber_93, r_Reader_readNumber_96, r_Reader_readNumber_98, r_Reader_readNumber_99, r_Reader_readNumber_102, r_Reader_readNumber_104, r_Reader_readNumber_105, r_Reader_readNumber_108, r_Reader_readNumber_110, r_Reader_readNumber_111, r_Reader_readNumber_114, r_Reader_readNumber_116, r_Reader_readNumber_119, r_Reader_readNumber_121, ai_aload, ai_getf, ai_callv2, am_push, am_few, ai_istore, am_cut_0, am_cut_s, am_c1, ai_iload, ai_const, ai_cmpne, ai_goto, ai_ifeq, ai_iadd, ai_bin, ai_cmpge, ai_imul, ai_isub, ai_iinc, ai_ineg, ai_callv3, ai_iret, kd_0, fd_0_0, fd_0_1, fd_0_2, fd_0_3, fd_0_4, kd_1, fd_1_0, fd_1_1, ln_2, kd_3, fd_3_0, fd_3_1, fd_3_2, fd_3_3, fd_3_4, fd_3_5, fd_3_6, fd_3_7, fd_3_8, fd_3_9, ln_4, ln_5, ln_6, ln_7, ln_8, ln_9, ln_10, kd_11, fd_11_0, fd_11_1, fd_11_2, fd_11_3, fd_11_4, kd_12, fd_12_0, fd_12_1, fd_12_2, fd_12_3, ln_13, ln_14, ln_15, kd_16, fd_16_0, fd_16_1, fd_16_2, ln_17, kd_18, fd_18_0, fd_18_1, kd_19, fd_19_0, fd_19_1, fd_19_2, fd_19_3, fd_19_4, fd_19_5, fd_19_6, fd_19_7, fd_19_8, fd_19_9, fd_19_10, fd_19_11, fd_19_12, fd_19_13, fd_19_14, fd_19_15, fd_19_16, fd_19_17, fd_19_18, fd_19_19, fd_19_20, ln_20, ln_21, ln_22, ln_23, ln_24, ln_25, ln_26, ln_27, ln_28, ln_29, ln_30, ln_31, ln_32, List.getElem?_cons_zero, List.getElem?_cons_succ, List.set_cons_zero, List.set_cons_succ, true_and, and_true, ↓reduceIte, Int32.reduceLT, Int32.reduceLE, li_10, or_true, true_or, ↓sp_Reader_add, ↓sp_Nodes_setAmount, e1]
    simp only [nmA] at h
    by_cases c : ng = 0
    · rw [if_pos c] at h ⊢; exact h
    · rw [if_neg c] at h ⊢; exact h
  | succ k ih =>
    intro i acc hk h
    simp only [nmA] at h
    by_cases c0 : i < e
    · rw [if_pos c0] at h
      have hs := stp_s c0
      refine am_from (tb_Reader_readNumber (ok_Tokens_endOf hG) (by decide) (ok_Tokens_startOf hG) (by decide) (ok_Text_at hG) (by decide) (ok_Reader_add hG) (by decide) (ok_Nodes_setAmount hG) (by decide)) k_Reader_readNumber 400 ?_
      simp only [q_Reader_readNumber_59, r_Reader_readNumber_0, r_Reader_readNumber_1, r_Reader_readNumber_4, r_Reader_readNumber_5, r_Reader_readNumber_8, r_Reader_readNumber_11, r_Reader_readNumber_12, r_Reader_readNumber_13, r_Reader_readNumber_16, r_Reader_readNumber_17, r_Reader_readNumber_20, r_Reader_readNumber_23, r_Reader_readNumber_24, r_Reader_readNumber_25, r_Reader_readNumber_28, r_Reader_readNumber_29, r_Reader_readNumber_32, r_Reader_readNumber_34, r_Reader_readNumber_37, r_Reader_readNumber_38, r_Reader_readNumber_41, r_Reader_readNumber_42, r_Reader_readNumber_43, r_Reader_readNumber_44, r_Reader_readNumber_46, r_Reader_readNumber_47, r_Reader_readNumber_50, r_Reader_readNumber_51, r_Reader_readNumber_52, r_Reader_readNumber_53, r_Reader_readNumber_56, r_Reader_readNumber_57, r_Reader_readNumber_59, r_Reader_readNumber_61, r_Reader_readNumber_62, r_Reader_readNumber_65, r_Reader_readNumber_67, r_Reader_readNumber_69, r_Reader_readNumber_70, r_Reader_readNumber_71, r_Reader_readNumber_74, r_Reader_readNumber_76, r_Reader_readNumber_79, r_Reader_readNumber_81, r_Reader_readNumber_82, r_Reader_readNumber_83, r_Reader_readNumber_85, r_Reader_readNumber_88, r_Reader_readNumber_91, r_Reader_readNumber_92, r_Reader_readNumber_93, r_Reader_readNumber_96, r_Reader_readNumber_98, r_Reader_readNumber_99, r_Reader_readNumber_102, r_Reader_readNumber_104, r_Reader_readNumber_105, r_Reader_readNumber_108, r_Reader_readNumber_110, r_Reader_readNumber_111, r_Reader_readNumber_114, r_Reader_readNumber_116, r_Reader_readNumber_119, r_Reader_readNumber_121, ai_aload, ai_getf, ai_callv2, am_push, am_few, ai_istore, am_cut_0, am_cut_s, am_c1, ai_iload, ai_const, ai_cmpne, ai_goto, ai_ifeq, ai_iadd, ai_bin, ai_cmpge, ai_imul, ai_isub, ai_iinc, ai_ineg, ai_callv3, ai_iret, kd_0, fd_0_0, fd_0_1, fd_0_2, fd_0_3, fd_0_4, kd_1, fd_1_0, fd_1_1, ln_2, kd_3, fd_3_0, fd_3_1, fd_3_2, fd_3_3, fd_3_4, fd_3_5, fd_3_6, fd_3_7, fd_3_8, fd_3_9, ln_4, ln_5, ln_6, ln_7, ln_8, ln_9, ln_10, kd_11, fd_11_0, fd_11_1, fd_11_2, fd_11_3, fd_11_4, kd_12, fd_12_0, fd_12_1, fd_12_2, fd_12_3, ln_13, ln_14, ln_15, kd_16, fd_16_0, fd_16_1, fd_16_2, ln_17, kd_18, fd_18_0, fd_18_1, kd_19, fd_19_0, fd_19_1, fd_19_2, fd_19_3, fd_19_4, fd_19_5, fd_19_6, fd_19_7, fd_19_8, fd_19_9, fd_19_10, fd_19_11, fd_19_12, fd_19_13, fd_19_14, fd_19_15, fd_19_16, fd_19_17, fd_19_18, fd_19_19, fd_19_20, ln_20, ln_21, ln_22, ln_23, ln_24, ln_25, ln_26, ln_27, ln_28, ln_29, ln_30, ln_31, ln_32, List.getElem?_cons_zero, List.getElem?_cons_succ, List.set_cons_zero, List.set_cons_succ, true_and, and_true, ↓reduceIte, Int32.reduceLT, Int32.reduceLE, li_10, or_true, true_or, ↓sp_Text_at, c0]
      exact ih (i + 1) _ (by omega) h
    · rw [if_neg c0] at h
      refine am_from (tb_Reader_readNumber (ok_Tokens_endOf hG) (by decide) (ok_Tokens_startOf hG) (by decide) (ok_Text_at hG) (by decide) (ok_Reader_add hG) (by decide) (ok_Nodes_setAmount hG) (by decide)) k_Reader_readNumber 400 ?_
      simp only [q_Reader_readNumber_59, r_Reader_readNumber_0, r_Reader_readNumber_1, r_Reader_readNumber_4, r_Reader_readNumber_5, r_Reader_readNumber_8, r_Reader_readNumber_11, r_Reader_readNumber_12, r_Reader_readNumber_13, r_Reader_readNumber_16, r_Reader_readNumber_17, r_Reader_readNumber_20, r_Reader_readNumber_23, r_Reader_readNumber_24, r_Reader_readNumber_25, r_Reader_readNumber_28, r_Reader_readNumber_29, r_Reader_readNumber_32, r_Reader_readNumber_34, r_Reader_readNumber_37, r_Reader_readNumber_38, r_Reader_readNumber_41, r_Reader_readNumber_42, r_Reader_readNumber_43, r_Reader_readNumber_44, r_Reader_readNumber_46, r_Reader_readNumber_47, r_Reader_readNumber_50, r_Reader_readNumber_51, r_Reader_readNumber_52, r_Reader_readNumber_53, r_Reader_readNumber_56, r_Reader_readNumber_57, r_Reader_readNumber_59, r_Reader_readNumber_61, r_Reader_readNumber_62, r_Reader_readNumber_65, r_Reader_readNumber_67, r_Reader_readNumber_69, r_Reader_readNumber_70, r_Reader_readNumber_71, r_Reader_readNumber_74, r_Reader_readNumber_76, r_Reader_readNumber_79, r_Reader_readNumber_81, r_Reader_readNumber_82, r_Reader_readNumber_83, r_Reader_readNumber_85, r_Reader_readNumber_88, r_Reader_readNumber_91, r_Reader_readNumber_92, r_Reader_readNumber_93, r_Reader_readNumber_96, r_Reader_readNumber_98, r_Reader_readNumber_99, r_Reader_readNumber_102, r_Reader_readNumber_104, r_Reader_readNumber_105, r_Reader_readNumber_108, r_Reader_readNumber_110, r_Reader_readNumber_111, r_Reader_readNumber_114, r_Reader_readNumber_116, r_Reader_readNumber_119, r_Reader_readNumber_121, ai_aload, ai_getf, ai_callv2, am_push, am_few, ai_istore, am_cut_0, am_cut_s, am_c1, ai_iload, ai_const, ai_cmpne, ai_goto, ai_ifeq, ai_iadd, ai_bin, ai_cmpge, ai_imul, ai_isub, ai_iinc, ai_ineg, ai_callv3, ai_iret, kd_0, fd_0_0, fd_0_1, fd_0_2, fd_0_3, fd_0_4, kd_1, fd_1_0, fd_1_1, ln_2, kd_3, fd_3_0, fd_3_1, fd_3_2, fd_3_3, fd_3_4, fd_3_5, fd_3_6, fd_3_7, fd_3_8, fd_3_9, ln_4, ln_5, ln_6, ln_7, ln_8, ln_9, ln_10, kd_11, fd_11_0, fd_11_1, fd_11_2, fd_11_3, fd_11_4, kd_12, fd_12_0, fd_12_1, fd_12_2, fd_12_3, ln_13, ln_14, ln_15, kd_16, fd_16_0, fd_16_1, fd_16_2, ln_17, kd_18, fd_18_0, fd_18_1, kd_19, fd_19_0, fd_19_1, fd_19_2, fd_19_3, fd_19_4, fd_19_5, fd_19_6, fd_19_7, fd_19_8, fd_19_9, fd_19_10, fd_19_11, fd_19_12, fd_19_13, fd_19_14, fd_19_15, fd_19_16, fd_19_17, fd_19_18, fd_19_19, fd_19_20, ln_20, ln_21, ln_22, ln_23, ln_24, ln_25, ln_26, ln_27, ln_28, ln_29, ln_30, ln_31, ln_32, List.getElem?_cons_zero, List.getElem?_cons_succ, List.set_cons_zero, List.set_cons_succ, true_and, and_true, ↓reduceIte, Int32.reduceLT, Int32.reduceLE, li_10, or_true, true_or, ↓sp_Reader_add, ↓sp_Nodes_setAmount, c0]
      by_cases c : ng = 0
      · rw [if_pos c] at h ⊢; exact h
      · rw [if_neg c] at h ⊢; exact h
set_option maxRecDepth 100000 in
set_option maxHeartbeats 4000000 in
theorem ok_Reader_readNumber {G : aG} (hG : am_ok G) : am_Sp G Y_Reader_readNumber 3 sp_Reader_readNumber := by
  intro as M K h
  unfold sp_Reader_readNumber at h
  split at h
  · next a =>
    obtain ⟨rfl, h⟩ := h
    unfold r_num r_numV at h
    by_cases c : f_at M (r_beg M) = 45
    · have c' : (f_at M (tk M 14 (-1) (M 11 3)) = 45) = True := eq_true c
      rw [if_pos c] at h
      refine am_entry hG (by decide +kernel) (Nat.le_of_ble_eq_true rfl) ?_
      refine am_go (cuts := k_Reader_readNumber) (tb_Reader_readNumber (ok_Tokens_endOf hG) (by decide) (ok_Tokens_startOf hG) (by decide) (ok_Text_at hG) (by decide) (ok_Reader_add hG) (by decide) (ok_Nodes_setAmount hG) (by decide)) 400 _ _ _ _ ?_
      change am_run _ _ _ _ _ _ [some (.ref 11), none, none, none, none, none] [] _
      simp only [q_Reader_readNumber_59, r_Reader_readNumber_0, r_Reader_readNumber_1, r_Reader_readNumber_4, r_Reader_readNumber_5, r_Reader_readNumber_8, r_Reader_readNumber_11, r_Reader_readNumber_12, r_Reader_readNumber_13, r_Reader_readNumber_16, r_Reader_readNumber_17, r_Reader_readNumber_20, r_Reader_readNumber_23, r_Reader_readNumber_24, r_Reader_readNumber_25, r_Reader_readNumber_28, r_Reader_readNumber_29, r_Reader_readNumber_32, r_Reader_readNumber_34, r_Reader_readNumber_37, r_Reader_readNumber_38, r_Reader_readNumber_41, r_Reader_readNumber_42, r_Reader_readNumber_43, r_Reader_readNumber_44, r_Reader_readNumber_46, r_Reader_readNumber_47, r_Reader_readNumber_50, r_Reader_readNumber_51, r_Reader_readNumber_52, r_Reader_readNumber_53, r_Reader_readNumber_56, r_Reader_readNumber_57, r_Reader_readNumber_59, r_Reader_readNumber_61, r_Reader_readNumber_62, r_Reader_readNumber_65, r_Reader_readNumber_67, r_Reader_readNumber_69, r_Reader_readNumber_70, r_Reader_readNumber_71, r_Reader_readNumber_74, r_Reader_readNumber_76, r_Reader_readNumber_79, r_Reader_readNumber_81, r_Reader_readNumber_82, r_Reader_readNumber_83, r_Reader_readNumber_85, r_Reader_readNumber_88, r_Reader_readNumber_91, r_Reader_readNumber_92, r_Reader_readNumber_93, r_Reader_readNumber_96, r_Reader_readNumber_98, r_Reader_readNumber_99, r_Reader_readNumber_102, r_Reader_readNumber_104, r_Reader_readNumber_105, r_Reader_readNumber_108, r_Reader_readNumber_110, r_Reader_readNumber_111, r_Reader_readNumber_114, r_Reader_readNumber_116, r_Reader_readNumber_119, r_Reader_readNumber_121, ai_aload, ai_getf, ai_callv2, am_push, am_few, ai_istore, am_cut_0, am_cut_s, am_c1, ai_iload, ai_const, ai_cmpne, ai_goto, ai_ifeq, ai_iadd, ai_bin, ai_cmpge, ai_imul, ai_isub, ai_iinc, ai_ineg, ai_callv3, ai_iret, kd_0, fd_0_0, fd_0_1, fd_0_2, fd_0_3, fd_0_4, kd_1, fd_1_0, fd_1_1, ln_2, kd_3, fd_3_0, fd_3_1, fd_3_2, fd_3_3, fd_3_4, fd_3_5, fd_3_6, fd_3_7, fd_3_8, fd_3_9, ln_4, ln_5, ln_6, ln_7, ln_8, ln_9, ln_10, kd_11, fd_11_0, fd_11_1, fd_11_2, fd_11_3, fd_11_4, kd_12, fd_12_0, fd_12_1, fd_12_2, fd_12_3, ln_13, ln_14, ln_15, kd_16, fd_16_0, fd_16_1, fd_16_2, ln_17, kd_18, fd_18_0, fd_18_1, kd_19, fd_19_0, fd_19_1, fd_19_2, fd_19_3, fd_19_4, fd_19_5, fd_19_6, fd_19_7, fd_19_8, fd_19_9, fd_19_10, fd_19_11, fd_19_12, fd_19_13, fd_19_14, fd_19_15, fd_19_16, fd_19_17, fd_19_18, fd_19_19, fd_19_20, ln_20, ln_21, ln_22, ln_23, ln_24, ln_25, ln_26, ln_27, ln_28, ln_29, ln_30, ln_31, ln_32, List.getElem?_cons_zero, List.getElem?_cons_succ, List.set_cons_zero, List.set_cons_succ, true_and, and_true, ↓reduceIte, Int32.reduceLT, Int32.reduceLE, li_10, or_true, true_or, ↓sp_Text_at, ↓sp_Tokens_endOf, ↓sp_Tokens_startOf, c']
      refine lp_Reader_readNumber hG _ _ _ (Nat.le_refl _) ?_
      rw [if_neg (by decide)]
      exact h
    · have c' : ¬ f_at M (tk M 14 (-1) (M 11 3)) = 45 := c
      rw [if_neg c] at h
      refine am_entry hG (by decide +kernel) (Nat.le_of_ble_eq_true rfl) ?_
      refine am_go (cuts := k_Reader_readNumber) (tb_Reader_readNumber (ok_Tokens_endOf hG) (by decide) (ok_Tokens_startOf hG) (by decide) (ok_Text_at hG) (by decide) (ok_Reader_add hG) (by decide) (ok_Nodes_setAmount hG) (by decide)) 400 _ _ _ _ ?_
      change am_run _ _ _ _ _ _ [some (.ref 11), none, none, none, none, none] [] _
      simp only [q_Reader_readNumber_59, r_Reader_readNumber_0, r_Reader_readNumber_1, r_Reader_readNumber_4, r_Reader_readNumber_5, r_Reader_readNumber_8, r_Reader_readNumber_11, r_Reader_readNumber_12, r_Reader_readNumber_13, r_Reader_readNumber_16, r_Reader_readNumber_17, r_Reader_readNumber_20, r_Reader_readNumber_23, r_Reader_readNumber_24, r_Reader_readNumber_25, r_Reader_readNumber_28, r_Reader_readNumber_29, r_Reader_readNumber_32, r_Reader_readNumber_34, r_Reader_readNumber_37, r_Reader_readNumber_38, r_Reader_readNumber_41, r_Reader_readNumber_42, r_Reader_readNumber_43, r_Reader_readNumber_44, r_Reader_readNumber_46, r_Reader_readNumber_47, r_Reader_readNumber_50, r_Reader_readNumber_51, r_Reader_readNumber_52, r_Reader_readNumber_53, r_Reader_readNumber_56, r_Reader_readNumber_57, r_Reader_readNumber_59, r_Reader_readNumber_61, r_Reader_readNumber_62, r_Reader_readNumber_65, r_Reader_readNumber_67, r_Reader_readNumber_69, r_Reader_readNumber_70, r_Reader_readNumber_71, r_Reader_readNumber_74, r_Reader_readNumber_76, r_Reader_readNumber_79, r_Reader_readNumber_81, r_Reader_readNumber_82, r_Reader_readNumber_83, r_Reader_readNumber_85, r_Reader_readNumber_88, r_Reader_readNumber_91, r_Reader_readNumber_92, r_Reader_readNumber_93, r_Reader_readNumber_96, r_Reader_readNumber_98, r_Reader_readNumber_99, r_Reader_readNumber_102, r_Reader_readNumber_104, r_Reader_readNumber_105, r_Reader_readNumber_108, r_Reader_readNumber_110, r_Reader_readNumber_111, r_Reader_readNumber_114, r_Reader_readNumber_116, r_Reader_readNumber_119, r_Reader_readNumber_121, ai_aload, ai_getf, ai_callv2, am_push, am_few, ai_istore, am_cut_0, am_cut_s, am_c1, ai_iload, ai_const, ai_cmpne, ai_goto, ai_ifeq, ai_iadd, ai_bin, ai_cmpge, ai_imul, ai_isub, ai_iinc, ai_ineg, ai_callv3, ai_iret, kd_0, fd_0_0, fd_0_1, fd_0_2, fd_0_3, fd_0_4, kd_1, fd_1_0, fd_1_1, ln_2, kd_3, fd_3_0, fd_3_1, fd_3_2, fd_3_3, fd_3_4, fd_3_5, fd_3_6, fd_3_7, fd_3_8, fd_3_9, ln_4, ln_5, ln_6, ln_7, ln_8, ln_9, ln_10, kd_11, fd_11_0, fd_11_1, fd_11_2, fd_11_3, fd_11_4, kd_12, fd_12_0, fd_12_1, fd_12_2, fd_12_3, ln_13, ln_14, ln_15, kd_16, fd_16_0, fd_16_1, fd_16_2, ln_17, kd_18, fd_18_0, fd_18_1, kd_19, fd_19_0, fd_19_1, fd_19_2, fd_19_3, fd_19_4, fd_19_5, fd_19_6, fd_19_7, fd_19_8, fd_19_9, fd_19_10, fd_19_11, fd_19_12, fd_19_13, fd_19_14, fd_19_15, fd_19_16, fd_19_17, fd_19_18, fd_19_19, fd_19_20, ln_20, ln_21, ln_22, ln_23, ln_24, ln_25, ln_26, ln_27, ln_28, ln_29, ln_30, ln_31, ln_32, List.getElem?_cons_zero, List.getElem?_cons_succ, List.set_cons_zero, List.set_cons_succ, true_and, and_true, ↓reduceIte, Int32.reduceLT, Int32.reduceLE, li_10, or_true, true_or, ↓sp_Text_at, ↓sp_Tokens_endOf, ↓sp_Tokens_startOf, c']
      refine lp_Reader_readNumber hG _ _ _ (Nat.le_refl _) ?_
      rw [if_pos rfl]
      exact h
  · cases h
def nmL (nd e : Int32) : Nat → Int32 → aM → aM
  | 0, _, M => M
  | k + 1, i, M => if i < e then nmL nd e k (i + 1) (n_ltr M nd (f_at M i)) else M
def r_name (M : aM) : Int32 × aM := ((r_add M 2).1, nmL (r_add M 2).1 (r_end M) (stp (r_end M) (r_beg (r_add M 2).2)) (r_beg (r_add M 2).2) (r_add M 2).2)
def sp_Reader_readName : aS := fun as M K => match as with
  | [.ref a] => a = 11 ∧ K (some (.int (r_name M).1)) (r_name M).2
  | _ => False
set_option maxRecDepth 100000 in
set_option maxHeartbeats 4000000 in
theorem lp_Reader_readName {G : aG} (hG : am_ok G) {K : aR} {e nd : Int32} : ∀ (k : Nat) (i : Int32) (M : aM), stp e i ≤ k → K (some (.int nd)) (nmL nd e k i M) → am_X G Y_Reader_readName 3 K 30 [some (.ref 11), some (.int e), some (.int nd), some (.int i)] [] M := by
  intro k
  induction k with
  | zero =>
    intro i M hk h
    have e1 : ¬ i < e := by rw [stp_lt]; omega
    refine am_from (tb_Reader_readName (ok_Tokens_endOf hG) (by decide) (ok_Reader_add hG) (by decide) (ok_Tokens_startOf hG) (by decide) (ok_Text_at hG) (by decide) (ok_Nodes_addLetter hG) (by decide)) k_Reader_readName 400 ?_
    simp only [q_Reader_readName_30, r_Reader_readName_0, r_Reader_readName_1, r_Reader_readName_4, r_Reader_readName_5, r_Reader_readName_8, r_Reader_readName_11, r_Reader_readName_12, r_Reader_readName_13, r_Reader_readName_14, r_Reader_readName_17, r_Reader_readName_18, r_Reader_readName_19, r_Reader_readName_22, r_Reader_readName_23, r_Reader_readName_26, r_Reader_readName_29, r_Reader_readName_30, r_Reader_readName_31, r_Reader_readName_32, r_Reader_readName_35, r_Reader_readName_36, r_Reader_readName_39, r_Reader_readName_40, r_Reader_readName_41, r_Reader_readName_44, r_Reader_readName_45, r_Reader_readName_48, r_Reader_readName_51, r_Reader_readName_54, r_Reader_readName_57, r_Reader_readName_58, ai_aload, ai_getf, ai_callv2, am_push, am_few, ai_istore, am_cut_0, am_cut_s, am_c1, ai_const, ai_iload, ai_cmpge, ai_callv3, ai_iinc, ai_goto, ai_iret, kd_0, fd_0_0, fd_0_1, fd_0_2, fd_0_3, fd_0_4, kd_1, fd_1_0, fd_1_1, ln_2, kd_3, fd_3_0, fd_3_1, fd_3_2, fd_3_3, fd_3_4, fd_3_5, fd_3_6, fd_3_7, fd_3_8, fd_3_9, ln_4, ln_5, ln_6, ln_7, ln_8, ln_9, ln_10, kd_11, fd_11_0, fd_11_1, fd_11_2, fd_11_3, fd_11_4, kd_12, fd_12_0, fd_12_1, fd_12_2, fd_12_3, ln_13, ln_14, ln_15, kd_16, fd_16_0, fd_16_1, fd_16_2, ln_17, kd_18, fd_18_0, fd_18_1, kd_19, fd_19_0, fd_19_1, fd_19_2, fd_19_3, fd_19_4, fd_19_5, fd_19_6, fd_19_7, fd_19_8, fd_19_9, fd_19_10, fd_19_11, fd_19_12, fd_19_13, fd_19_14, fd_19_15, fd_19_16, fd_19_17, fd_19_18, fd_19_19, fd_19_20, ln_20, ln_21, ln_22, ln_23, ln_24, ln_25, ln_26, ln_27, ln_28, ln_29, ln_30, ln_31, ln_32, List.getElem?_cons_zero, List.getElem?_cons_succ, List.set_cons_zero, List.set_cons_succ, true_and, and_true, ↓reduceIte, Int32.reduceLT, Int32.reduceLE, li_10, or_true, true_or, e1]
    exact h
  | succ k ih =>
    intro i M hk h
    simp only [nmL] at h
    by_cases c0 : i < e
    · rw [if_pos c0] at h
      have hs := stp_s c0
      refine am_from (tb_Reader_readName (ok_Tokens_endOf hG) (by decide) (ok_Reader_add hG) (by decide) (ok_Tokens_startOf hG) (by decide) (ok_Text_at hG) (by decide) (ok_Nodes_addLetter hG) (by decide)) k_Reader_readName 400 ?_
      simp only [q_Reader_readName_30, r_Reader_readName_0, r_Reader_readName_1, r_Reader_readName_4, r_Reader_readName_5, r_Reader_readName_8, r_Reader_readName_11, r_Reader_readName_12, r_Reader_readName_13, r_Reader_readName_14, r_Reader_readName_17, r_Reader_readName_18, r_Reader_readName_19, r_Reader_readName_22, r_Reader_readName_23, r_Reader_readName_26, r_Reader_readName_29, r_Reader_readName_30, r_Reader_readName_31, r_Reader_readName_32, r_Reader_readName_35, r_Reader_readName_36, r_Reader_readName_39, r_Reader_readName_40, r_Reader_readName_41, r_Reader_readName_44, r_Reader_readName_45, r_Reader_readName_48, r_Reader_readName_51, r_Reader_readName_54, r_Reader_readName_57, r_Reader_readName_58, ai_aload, ai_getf, ai_callv2, am_push, am_few, ai_istore, am_cut_0, am_cut_s, am_c1, ai_const, ai_iload, ai_cmpge, ai_callv3, ai_iinc, ai_goto, ai_iret, kd_0, fd_0_0, fd_0_1, fd_0_2, fd_0_3, fd_0_4, kd_1, fd_1_0, fd_1_1, ln_2, kd_3, fd_3_0, fd_3_1, fd_3_2, fd_3_3, fd_3_4, fd_3_5, fd_3_6, fd_3_7, fd_3_8, fd_3_9, ln_4, ln_5, ln_6, ln_7, ln_8, ln_9, ln_10, kd_11, fd_11_0, fd_11_1, fd_11_2, fd_11_3, fd_11_4, kd_12, fd_12_0, fd_12_1, fd_12_2, fd_12_3, ln_13, ln_14, ln_15, kd_16, fd_16_0, fd_16_1, fd_16_2, ln_17, kd_18, fd_18_0, fd_18_1, kd_19, fd_19_0, fd_19_1, fd_19_2, fd_19_3, fd_19_4, fd_19_5, fd_19_6, fd_19_7, fd_19_8, fd_19_9, fd_19_10, fd_19_11, fd_19_12, fd_19_13, fd_19_14, fd_19_15, fd_19_16, fd_19_17, fd_19_18, fd_19_19, fd_19_20, ln_20, ln_21, ln_22, ln_23, ln_24, ln_25, ln_26, ln_27, ln_28, ln_29, ln_30, ln_31, ln_32, List.getElem?_cons_zero, List.getElem?_cons_succ, List.set_cons_zero, List.set_cons_succ, true_and, and_true, ↓reduceIte, Int32.reduceLT, Int32.reduceLE, li_10, or_true, true_or, ↓sp_Text_at, ↓sp_Nodes_addLetter, c0]
      exact ih (i + 1) _ (by omega) h
    · rw [if_neg c0] at h
      refine am_from (tb_Reader_readName (ok_Tokens_endOf hG) (by decide) (ok_Reader_add hG) (by decide) (ok_Tokens_startOf hG) (by decide) (ok_Text_at hG) (by decide) (ok_Nodes_addLetter hG) (by decide)) k_Reader_readName 400 ?_
      simp only [q_Reader_readName_30, r_Reader_readName_0, r_Reader_readName_1, r_Reader_readName_4, r_Reader_readName_5, r_Reader_readName_8, r_Reader_readName_11, r_Reader_readName_12, r_Reader_readName_13, r_Reader_readName_14, r_Reader_readName_17, r_Reader_readName_18, r_Reader_readName_19, r_Reader_readName_22, r_Reader_readName_23, r_Reader_readName_26, r_Reader_readName_29, r_Reader_readName_30, r_Reader_readName_31, r_Reader_readName_32, r_Reader_readName_35, r_Reader_readName_36, r_Reader_readName_39, r_Reader_readName_40, r_Reader_readName_41, r_Reader_readName_44, r_Reader_readName_45, r_Reader_readName_48, r_Reader_readName_51, r_Reader_readName_54, r_Reader_readName_57, r_Reader_readName_58, ai_aload, ai_getf, ai_callv2, am_push, am_few, ai_istore, am_cut_0, am_cut_s, am_c1, ai_const, ai_iload, ai_cmpge, ai_callv3, ai_iinc, ai_goto, ai_iret, kd_0, fd_0_0, fd_0_1, fd_0_2, fd_0_3, fd_0_4, kd_1, fd_1_0, fd_1_1, ln_2, kd_3, fd_3_0, fd_3_1, fd_3_2, fd_3_3, fd_3_4, fd_3_5, fd_3_6, fd_3_7, fd_3_8, fd_3_9, ln_4, ln_5, ln_6, ln_7, ln_8, ln_9, ln_10, kd_11, fd_11_0, fd_11_1, fd_11_2, fd_11_3, fd_11_4, kd_12, fd_12_0, fd_12_1, fd_12_2, fd_12_3, ln_13, ln_14, ln_15, kd_16, fd_16_0, fd_16_1, fd_16_2, ln_17, kd_18, fd_18_0, fd_18_1, kd_19, fd_19_0, fd_19_1, fd_19_2, fd_19_3, fd_19_4, fd_19_5, fd_19_6, fd_19_7, fd_19_8, fd_19_9, fd_19_10, fd_19_11, fd_19_12, fd_19_13, fd_19_14, fd_19_15, fd_19_16, fd_19_17, fd_19_18, fd_19_19, fd_19_20, ln_20, ln_21, ln_22, ln_23, ln_24, ln_25, ln_26, ln_27, ln_28, ln_29, ln_30, ln_31, ln_32, List.getElem?_cons_zero, List.getElem?_cons_succ, List.set_cons_zero, List.set_cons_succ, true_and, and_true, ↓reduceIte, Int32.reduceLT, Int32.reduceLE, li_10, or_true, true_or, c0]
      exact h
set_option maxRecDepth 100000 in
set_option maxHeartbeats 4000000 in
theorem ok_Reader_readName {G : aG} (hG : am_ok G) : am_Sp G Y_Reader_readName 3 sp_Reader_readName := by
  intro as M K h
  unfold sp_Reader_readName at h
  split at h
  · next a =>
    obtain ⟨rfl, h⟩ := h
    unfold r_name at h
    refine am_entry hG (by decide +kernel) (Nat.le_of_ble_eq_true rfl) ?_
    refine am_go (cuts := k_Reader_readName) (tb_Reader_readName (ok_Tokens_endOf hG) (by decide) (ok_Reader_add hG) (by decide) (ok_Tokens_startOf hG) (by decide) (ok_Text_at hG) (by decide) (ok_Nodes_addLetter hG) (by decide)) 400 _ _ _ _ ?_
    change am_run _ _ _ _ _ _ [some (.ref 11), none, none, none] [] _
    simp only [q_Reader_readName_30, r_Reader_readName_0, r_Reader_readName_1, r_Reader_readName_4, r_Reader_readName_5, r_Reader_readName_8, r_Reader_readName_11, r_Reader_readName_12, r_Reader_readName_13, r_Reader_readName_14, r_Reader_readName_17, r_Reader_readName_18, r_Reader_readName_19, r_Reader_readName_22, r_Reader_readName_23, r_Reader_readName_26, r_Reader_readName_29, r_Reader_readName_30, r_Reader_readName_31, r_Reader_readName_32, r_Reader_readName_35, r_Reader_readName_36, r_Reader_readName_39, r_Reader_readName_40, r_Reader_readName_41, r_Reader_readName_44, r_Reader_readName_45, r_Reader_readName_48, r_Reader_readName_51, r_Reader_readName_54, r_Reader_readName_57, r_Reader_readName_58, ai_aload, ai_getf, ai_callv2, am_push, am_few, ai_istore, am_cut_0, am_cut_s, am_c1, ai_const, ai_iload, ai_cmpge, ai_callv3, ai_iinc, ai_goto, ai_iret, kd_0, fd_0_0, fd_0_1, fd_0_2, fd_0_3, fd_0_4, kd_1, fd_1_0, fd_1_1, ln_2, kd_3, fd_3_0, fd_3_1, fd_3_2, fd_3_3, fd_3_4, fd_3_5, fd_3_6, fd_3_7, fd_3_8, fd_3_9, ln_4, ln_5, ln_6, ln_7, ln_8, ln_9, ln_10, kd_11, fd_11_0, fd_11_1, fd_11_2, fd_11_3, fd_11_4, kd_12, fd_12_0, fd_12_1, fd_12_2, fd_12_3, ln_13, ln_14, ln_15, kd_16, fd_16_0, fd_16_1, fd_16_2, ln_17, kd_18, fd_18_0, fd_18_1, kd_19, fd_19_0, fd_19_1, fd_19_2, fd_19_3, fd_19_4, fd_19_5, fd_19_6, fd_19_7, fd_19_8, fd_19_9, fd_19_10, fd_19_11, fd_19_12, fd_19_13, fd_19_14, fd_19_15, fd_19_16, fd_19_17, fd_19_18, fd_19_19, fd_19_20, ln_20, ln_21, ln_22, ln_23, ln_24, ln_25, ln_26, ln_27, ln_28, ln_29, ln_30, ln_31, ln_32, List.getElem?_cons_zero, List.getElem?_cons_succ, List.set_cons_zero, List.set_cons_succ, true_and, and_true, ↓reduceIte, Int32.reduceLT, Int32.reduceLE, li_10, or_true, true_or, ↓sp_Reader_add, ↓sp_Tokens_endOf, ↓sp_Tokens_startOf]
    exact lp_Reader_readName hG _ _ _ (Nat.le_refl _) h
  · cases h
def stL (nd e : Int32) : Nat → Int32 → aM → aM
  | 0, _, M => M
  | k + 1, i, M => if i < e then (if f_at M i = 92 then stL nd e k (i + 1 + 1) (n_ltr M nd (f_at M (i + 1))) else stL nd e k (i + 1) (n_ltr M nd (f_at M i))) else M
def r_str (M : aM) : Int32 × aM := ((r_add M 3).1, stL (r_add M 3).1 (r_end M - 1) (stp (r_end M - 1) (r_beg (r_add M 3).2 + 1)) (r_beg (r_add M 3).2 + 1) (r_add M 3).2)
def sp_Reader_readString : aS := fun as M K => match as with
  | [.ref a] => a = 11 ∧ K (some (.int (r_str M).1)) (r_str M).2
  | _ => False
theorem f_at_92 {M : aM} {i : Int32} (h : f_at M i = 92) : i < 400 := by
  unfold f_at at h
  by_cases c1 : i < 0
  · rw [if_pos c1] at h; exact absurd h (by decide)
  · rw [if_neg c1] at h
    by_cases c2 : i < M 1 1
    · rw [if_pos c2] at h
      by_cases c3 : i < 400
      · exact c3
      · rw [if_neg c3] at h; exact absurd h (by decide)
    · rw [if_neg c2] at h; exact absurd h (by decide)
set_option maxRecDepth 100000 in
set_option maxHeartbeats 4000000 in
theorem lp_Reader_readString {G : aG} (hG : am_ok G) {K : aR} {e nd : Int32} : ∀ (k : Nat) (i : Int32) (M : aM), stp e i ≤ k → K (some (.int nd)) (stL nd e k i M) → am_X G Y_Reader_readString 3 K 34 [some (.ref 11), some (.int e), some (.int nd), some (.int i)] [] M := by
  intro k
  induction k with
  | zero =>
    intro i M hk h
    have e1 : ¬ i < e := by rw [stp_lt]; omega
    refine am_from (tb_Reader_readString (ok_Tokens_endOf hG) (by decide) (ok_Reader_add hG) (by decide) (ok_Tokens_startOf hG) (by decide) (ok_Text_at hG) (by decide) (ok_Nodes_addLetter hG) (by decide)) k_Reader_readString 400 ?_
    simp only [q_Reader_readString_34, r_Reader_readString_0, r_Reader_readString_1, r_Reader_readString_4, r_Reader_readString_5, r_Reader_readString_8, r_Reader_readString_11, r_Reader_readString_12, r_Reader_readString_13, r_Reader_readString_14, r_Reader_readString_15, r_Reader_readString_16, r_Reader_readString_19, r_Reader_readString_20, r_Reader_readString_21, r_Reader_readString_24, r_Reader_readString_25, r_Reader_readString_28, r_Reader_readString_31, r_Reader_readString_32, r_Reader_readString_33, r_Reader_readString_34, r_Reader_readString_35, r_Reader_readString_36, r_Reader_readString_39, r_Reader_readString_40, r_Reader_readString_43, r_Reader_readString_44, r_Reader_readString_47, r_Reader_readString_49, r_Reader_readString_52, r_Reader_readString_55, r_Reader_readString_56, r_Reader_readString_59, r_Reader_readString_60, r_Reader_readString_61, r_Reader_readString_64, r_Reader_readString_65, r_Reader_readString_68, r_Reader_readString_71, r_Reader_readString_74, r_Reader_readString_77, r_Reader_readString_78, ai_aload, ai_getf, ai_callv2, am_push, am_few, ai_const, ai_isub, ai_bin, ai_istore, am_cut_0, am_cut_s, am_c1, ai_iadd, ai_iload, ai_cmpge, ai_cmpne, ai_iinc, ai_callv3, ai_goto, ai_iret, kd_0, fd_0_0, fd_0_1, fd_0_2, fd_0_3, fd_0_4, kd_1, fd_1_0, fd_1_1, ln_2, kd_3, fd_3_0, fd_3_1, fd_3_2, fd_3_3, fd_3_4, fd_3_5, fd_3_6, fd_3_7, fd_3_8, fd_3_9, ln_4, ln_5, ln_6, ln_7, ln_8, ln_9, ln_10, kd_11, fd_11_0, fd_11_1, fd_11_2, fd_11_3, fd_11_4, kd_12, fd_12_0, fd_12_1, fd_12_2, fd_12_3, ln_13, ln_14, ln_15, kd_16, fd_16_0, fd_16_1, fd_16_2, ln_17, kd_18, fd_18_0, fd_18_1, kd_19, fd_19_0, fd_19_1, fd_19_2, fd_19_3, fd_19_4, fd_19_5, fd_19_6, fd_19_7, fd_19_8, fd_19_9, fd_19_10, fd_19_11, fd_19_12, fd_19_13, fd_19_14, fd_19_15, fd_19_16, fd_19_17, fd_19_18, fd_19_19, fd_19_20, ln_20, ln_21, ln_22, ln_23, ln_24, ln_25, ln_26, ln_27, ln_28, ln_29, ln_30, ln_31, ln_32, List.getElem?_cons_zero, List.getElem?_cons_succ, List.set_cons_zero, List.set_cons_succ, true_and, and_true, ↓reduceIte, Int32.reduceLT, Int32.reduceLE, li_10, or_true, true_or, e1]
    exact h
  | succ k ih =>
    intro i M hk h
    simp only [stL] at h
    by_cases c0 : i < e
    · rw [if_pos c0] at h
      have hs := stp_s c0
      by_cases c1 : f_at M i = 92
      · rw [if_pos c1] at h
        have hs2 : stp e (i + 1 + 1) ≤ stp e (i + 1) := by
          have h4 := f_at_92 c1
          have h5 := toInt_s h4
          have h6 : (i + 1 + 1).toInt = i.toInt + 1 + 1 := by
            have h7 : i + 1 < 402 := by
              rw [Int32.lt_iff_toInt_lt] at h4 ⊢
              rw [h5]
              have e4 : (400 : Int32).toInt = 400 := rfl
              have e5 : (402 : Int32).toInt = 402 := rfl
              omega
            rw [toInt_s h7, h5]
          unfold stp
          omega
        refine am_from (tb_Reader_readString (ok_Tokens_endOf hG) (by decide) (ok_Reader_add hG) (by decide) (ok_Tokens_startOf hG) (by decide) (ok_Text_at hG) (by decide) (ok_Nodes_addLetter hG) (by decide)) k_Reader_readString 400 ?_
        simp only [q_Reader_readString_34, r_Reader_readString_0, r_Reader_readString_1, r_Reader_readString_4, r_Reader_readString_5, r_Reader_readString_8, r_Reader_readString_11, r_Reader_readString_12, r_Reader_readString_13, r_Reader_readString_14, r_Reader_readString_15, r_Reader_readString_16, r_Reader_readString_19, r_Reader_readString_20, r_Reader_readString_21, r_Reader_readString_24, r_Reader_readString_25, r_Reader_readString_28, r_Reader_readString_31, r_Reader_readString_32, r_Reader_readString_33, r_Reader_readString_34, r_Reader_readString_35, r_Reader_readString_36, r_Reader_readString_39, r_Reader_readString_40, r_Reader_readString_43, r_Reader_readString_44, r_Reader_readString_47, r_Reader_readString_49, r_Reader_readString_52, r_Reader_readString_55, r_Reader_readString_56, r_Reader_readString_59, r_Reader_readString_60, r_Reader_readString_61, r_Reader_readString_64, r_Reader_readString_65, r_Reader_readString_68, r_Reader_readString_71, r_Reader_readString_74, r_Reader_readString_77, r_Reader_readString_78, ai_aload, ai_getf, ai_callv2, am_push, am_few, ai_const, ai_isub, ai_bin, ai_istore, am_cut_0, am_cut_s, am_c1, ai_iadd, ai_iload, ai_cmpge, ai_cmpne, ai_iinc, ai_callv3, ai_goto, ai_iret, kd_0, fd_0_0, fd_0_1, fd_0_2, fd_0_3, fd_0_4, kd_1, fd_1_0, fd_1_1, ln_2, kd_3, fd_3_0, fd_3_1, fd_3_2, fd_3_3, fd_3_4, fd_3_5, fd_3_6, fd_3_7, fd_3_8, fd_3_9, ln_4, ln_5, ln_6, ln_7, ln_8, ln_9, ln_10, kd_11, fd_11_0, fd_11_1, fd_11_2, fd_11_3, fd_11_4, kd_12, fd_12_0, fd_12_1, fd_12_2, fd_12_3, ln_13, ln_14, ln_15, kd_16, fd_16_0, fd_16_1, fd_16_2, ln_17, kd_18, fd_18_0, fd_18_1, kd_19, fd_19_0, fd_19_1, fd_19_2, fd_19_3, fd_19_4, fd_19_5, fd_19_6, fd_19_7, fd_19_8, fd_19_9, fd_19_10, fd_19_11, fd_19_12, fd_19_13, fd_19_14, fd_19_15, fd_19_16, fd_19_17, fd_19_18, fd_19_19, fd_19_20, ln_20, ln_21, ln_22, ln_23, ln_24, ln_25, ln_26, ln_27, ln_28, ln_29, ln_30, ln_31, ln_32, List.getElem?_cons_zero, List.getElem?_cons_succ, List.set_cons_zero, List.set_cons_succ, true_and, and_true, ↓reduceIte, Int32.reduceLT, Int32.reduceLE, li_10, or_true, true_or, ↓sp_Text_at, ↓sp_Nodes_addLetter, c0, c1]
        exact ih (i + 1 + 1) _ (by omega) h
      · rw [if_neg c1] at h
        refine am_from (tb_Reader_readString (ok_Tokens_endOf hG) (by decide) (ok_Reader_add hG) (by decide) (ok_Tokens_startOf hG) (by decide) (ok_Text_at hG) (by decide) (ok_Nodes_addLetter hG) (by decide)) k_Reader_readString 400 ?_
        simp only [q_Reader_readString_34, r_Reader_readString_0, r_Reader_readString_1, r_Reader_readString_4, r_Reader_readString_5, r_Reader_readString_8, r_Reader_readString_11, r_Reader_readString_12, r_Reader_readString_13, r_Reader_readString_14, r_Reader_readString_15, r_Reader_readString_16, r_Reader_readString_19, r_Reader_readString_20, r_Reader_readString_21, r_Reader_readString_24, r_Reader_readString_25, r_Reader_readString_28, r_Reader_readString_31, r_Reader_readString_32, r_Reader_readString_33, r_Reader_readString_34, r_Reader_readString_35, r_Reader_readString_36, r_Reader_readString_39, r_Reader_readString_40, r_Reader_readString_43, r_Reader_readString_44, r_Reader_readString_47, r_Reader_readString_49, r_Reader_readString_52, r_Reader_readString_55, r_Reader_readString_56, r_Reader_readString_59, r_Reader_readString_60, r_Reader_readString_61, r_Reader_readString_64, r_Reader_readString_65, r_Reader_readString_68, r_Reader_readString_71, r_Reader_readString_74, r_Reader_readString_77, r_Reader_readString_78, ai_aload, ai_getf, ai_callv2, am_push, am_few, ai_const, ai_isub, ai_bin, ai_istore, am_cut_0, am_cut_s, am_c1, ai_iadd, ai_iload, ai_cmpge, ai_cmpne, ai_iinc, ai_callv3, ai_goto, ai_iret, kd_0, fd_0_0, fd_0_1, fd_0_2, fd_0_3, fd_0_4, kd_1, fd_1_0, fd_1_1, ln_2, kd_3, fd_3_0, fd_3_1, fd_3_2, fd_3_3, fd_3_4, fd_3_5, fd_3_6, fd_3_7, fd_3_8, fd_3_9, ln_4, ln_5, ln_6, ln_7, ln_8, ln_9, ln_10, kd_11, fd_11_0, fd_11_1, fd_11_2, fd_11_3, fd_11_4, kd_12, fd_12_0, fd_12_1, fd_12_2, fd_12_3, ln_13, ln_14, ln_15, kd_16, fd_16_0, fd_16_1, fd_16_2, ln_17, kd_18, fd_18_0, fd_18_1, kd_19, fd_19_0, fd_19_1, fd_19_2, fd_19_3, fd_19_4, fd_19_5, fd_19_6, fd_19_7, fd_19_8, fd_19_9, fd_19_10, fd_19_11, fd_19_12, fd_19_13, fd_19_14, fd_19_15, fd_19_16, fd_19_17, fd_19_18, fd_19_19, fd_19_20, ln_20, ln_21, ln_22, ln_23, ln_24, ln_25, ln_26, ln_27, ln_28, ln_29, ln_30, ln_31, ln_32, List.getElem?_cons_zero, List.getElem?_cons_succ, List.set_cons_zero, List.set_cons_succ, true_and, and_true, ↓reduceIte, Int32.reduceLT, Int32.reduceLE, li_10, or_true, true_or, ↓sp_Text_at, ↓sp_Nodes_addLetter, c0, c1]
        exact ih (i + 1) _ (by omega) h
    · rw [if_neg c0] at h
      refine am_from (tb_Reader_readString (ok_Tokens_endOf hG) (by decide) (ok_Reader_add hG) (by decide) (ok_Tokens_startOf hG) (by decide) (ok_Text_at hG) (by decide) (ok_Nodes_addLetter hG) (by decide)) k_Reader_readString 400 ?_
      simp only [q_Reader_readString_34, r_Reader_readString_0, r_Reader_readString_1, r_Reader_readString_4, r_Reader_readString_5, r_Reader_readString_8, r_Reader_readString_11, r_Reader_readString_12, r_Reader_readString_13, r_Reader_readString_14, r_Reader_readString_15, r_Reader_readString_16, r_Reader_readString_19, r_Reader_readString_20, r_Reader_readString_21, r_Reader_readString_24, r_Reader_readString_25, r_Reader_readString_28, r_Reader_readString_31, r_Reader_readString_32, r_Reader_readString_33, r_Reader_readString_34, r_Reader_readString_35, r_Reader_readString_36, r_Reader_readString_39, r_Reader_readString_40, r_Reader_readString_43, r_Reader_readString_44, r_Reader_readString_47, r_Reader_readString_49, r_Reader_readString_52, r_Reader_readString_55, r_Reader_readString_56, r_Reader_readString_59, r_Reader_readString_60, r_Reader_readString_61, r_Reader_readString_64, r_Reader_readString_65, r_Reader_readString_68, r_Reader_readString_71, r_Reader_readString_74, r_Reader_readString_77, r_Reader_readString_78, ai_aload, ai_getf, ai_callv2, am_push, am_few, ai_const, ai_isub, ai_bin, ai_istore, am_cut_0, am_cut_s, am_c1, ai_iadd, ai_iload, ai_cmpge, ai_cmpne, ai_iinc, ai_callv3, ai_goto, ai_iret, kd_0, fd_0_0, fd_0_1, fd_0_2, fd_0_3, fd_0_4, kd_1, fd_1_0, fd_1_1, ln_2, kd_3, fd_3_0, fd_3_1, fd_3_2, fd_3_3, fd_3_4, fd_3_5, fd_3_6, fd_3_7, fd_3_8, fd_3_9, ln_4, ln_5, ln_6, ln_7, ln_8, ln_9, ln_10, kd_11, fd_11_0, fd_11_1, fd_11_2, fd_11_3, fd_11_4, kd_12, fd_12_0, fd_12_1, fd_12_2, fd_12_3, ln_13, ln_14, ln_15, kd_16, fd_16_0, fd_16_1, fd_16_2, ln_17, kd_18, fd_18_0, fd_18_1, kd_19, fd_19_0, fd_19_1, fd_19_2, fd_19_3, fd_19_4, fd_19_5, fd_19_6, fd_19_7, fd_19_8, fd_19_9, fd_19_10, fd_19_11, fd_19_12, fd_19_13, fd_19_14, fd_19_15, fd_19_16, fd_19_17, fd_19_18, fd_19_19, fd_19_20, ln_20, ln_21, ln_22, ln_23, ln_24, ln_25, ln_26, ln_27, ln_28, ln_29, ln_30, ln_31, ln_32, List.getElem?_cons_zero, List.getElem?_cons_succ, List.set_cons_zero, List.set_cons_succ, true_and, and_true, ↓reduceIte, Int32.reduceLT, Int32.reduceLE, li_10, or_true, true_or, c0]
      exact h
set_option maxRecDepth 100000 in
set_option maxHeartbeats 4000000 in
theorem ok_Reader_readString {G : aG} (hG : am_ok G) : am_Sp G Y_Reader_readString 3 sp_Reader_readString := by
  intro as M K h
  unfold sp_Reader_readString at h
  split at h
  · next a =>
    obtain ⟨rfl, h⟩ := h
    unfold r_str at h
    refine am_entry hG (by decide +kernel) (Nat.le_of_ble_eq_true rfl) ?_
    refine am_go (cuts := k_Reader_readString) (tb_Reader_readString (ok_Tokens_endOf hG) (by decide) (ok_Reader_add hG) (by decide) (ok_Tokens_startOf hG) (by decide) (ok_Text_at hG) (by decide) (ok_Nodes_addLetter hG) (by decide)) 400 _ _ _ _ ?_
    change am_run _ _ _ _ _ _ [some (.ref 11), none, none, none] [] _
    simp only [q_Reader_readString_34, r_Reader_readString_0, r_Reader_readString_1, r_Reader_readString_4, r_Reader_readString_5, r_Reader_readString_8, r_Reader_readString_11, r_Reader_readString_12, r_Reader_readString_13, r_Reader_readString_14, r_Reader_readString_15, r_Reader_readString_16, r_Reader_readString_19, r_Reader_readString_20, r_Reader_readString_21, r_Reader_readString_24, r_Reader_readString_25, r_Reader_readString_28, r_Reader_readString_31, r_Reader_readString_32, r_Reader_readString_33, r_Reader_readString_34, r_Reader_readString_35, r_Reader_readString_36, r_Reader_readString_39, r_Reader_readString_40, r_Reader_readString_43, r_Reader_readString_44, r_Reader_readString_47, r_Reader_readString_49, r_Reader_readString_52, r_Reader_readString_55, r_Reader_readString_56, r_Reader_readString_59, r_Reader_readString_60, r_Reader_readString_61, r_Reader_readString_64, r_Reader_readString_65, r_Reader_readString_68, r_Reader_readString_71, r_Reader_readString_74, r_Reader_readString_77, r_Reader_readString_78, ai_aload, ai_getf, ai_callv2, am_push, am_few, ai_const, ai_isub, ai_bin, ai_istore, am_cut_0, am_cut_s, am_c1, ai_iadd, ai_iload, ai_cmpge, ai_cmpne, ai_iinc, ai_callv3, ai_goto, ai_iret, kd_0, fd_0_0, fd_0_1, fd_0_2, fd_0_3, fd_0_4, kd_1, fd_1_0, fd_1_1, ln_2, kd_3, fd_3_0, fd_3_1, fd_3_2, fd_3_3, fd_3_4, fd_3_5, fd_3_6, fd_3_7, fd_3_8, fd_3_9, ln_4, ln_5, ln_6, ln_7, ln_8, ln_9, ln_10, kd_11, fd_11_0, fd_11_1, fd_11_2, fd_11_3, fd_11_4, kd_12, fd_12_0, fd_12_1, fd_12_2, fd_12_3, ln_13, ln_14, ln_15, kd_16, fd_16_0, fd_16_1, fd_16_2, ln_17, kd_18, fd_18_0, fd_18_1, kd_19, fd_19_0, fd_19_1, fd_19_2, fd_19_3, fd_19_4, fd_19_5, fd_19_6, fd_19_7, fd_19_8, fd_19_9, fd_19_10, fd_19_11, fd_19_12, fd_19_13, fd_19_14, fd_19_15, fd_19_16, fd_19_17, fd_19_18, fd_19_19, fd_19_20, ln_20, ln_21, ln_22, ln_23, ln_24, ln_25, ln_26, ln_27, ln_28, ln_29, ln_30, ln_31, ln_32, List.getElem?_cons_zero, List.getElem?_cons_succ, List.set_cons_zero, List.set_cons_succ, true_and, and_true, ↓reduceIte, Int32.reduceLT, Int32.reduceLE, li_10, or_true, true_or, ↓sp_Reader_add, ↓sp_Tokens_endOf, ↓sp_Tokens_startOf]
    exact lp_Reader_readString hG _ _ _ (Nat.le_refl _) h
  · cases h
