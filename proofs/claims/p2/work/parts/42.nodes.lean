/-! THE NODES -/
theorem am_up_ap (M : aM) (i j : Nat) (x : Int32) (a b : Nat) : am_up M i j x a b = if a = i then (if b = j then x else M a b) else M a b := by
  unfold am_up
  by_cases h : a = i
  · subst h
    simp [upd]
  · simp [h]
theorem b2_0 (p : Bool) : (b2 p = 0) = (p = false) := by cases p <;> simp [b2]
theorem b2_z (p : Bool) : (b2 p = 0 ∨ b2 p = 1) := by cases p <;> simp [b2]
def hasN (M : aM) (x : Int32) : Bool := !(decide (x < 0)) && decide (x < M 3 5) && decide (x < 200)
theorem hasN_in {M : aM} {x : Int32} (h : hasN M x = true) : vp_in x 200 := by
  simp only [hasN, Bool.and_eq_true, Bool.not_eq_true', decide_eq_false_iff_not, decide_eq_true_eq] at h
  exact vin_lt h.1.1 h.2 (by decide)
def sp_Nodes_has : aS := fun as M K => match as with
  | [.ref a, .int x] => a = 3 ∧ K (some (.int (b2 (hasN M x)))) M
  | _ => False
set_option maxRecDepth 100000 in
set_option maxHeartbeats 4000000 in
theorem ok_Nodes_has {G : aG} (hG : am_ok G) : am_Sp G Y_Nodes_has 0 sp_Nodes_has := by
  intro as M K h
  unfold sp_Nodes_has at h
  split at h
  · next a x =>
    obtain ⟨rfl, h⟩ := h
    refine am_entry hG (by decide +kernel) (Nat.le_of_ble_eq_true rfl) ?_
    refine am_go (cuts := k_Nodes_has) tb_Nodes_has 400 _ _ _ _ ?_
    change am_run _ _ _ _ _ _ [some (.ref 3), some (.int x)] [] _
    simp only [r_Nodes_has_0, r_Nodes_has_1, r_Nodes_has_4, r_Nodes_has_5, r_Nodes_has_6, r_Nodes_has_9, r_Nodes_has_12, r_Nodes_has_13, r_Nodes_has_16, r_Nodes_has_19, r_Nodes_has_20, r_Nodes_has_23, r_Nodes_has_24, ai_iload, ai_iflt, ai_aload, ai_getf, ai_cmpge, ai_const, ai_goto, ai_zret, kd_0, fd_0_0, fd_0_1, fd_0_2, fd_0_3, fd_0_4, kd_1, fd_1_0, fd_1_1, ln_2, kd_3, fd_3_0, fd_3_1, fd_3_2, fd_3_3, fd_3_4, fd_3_5, fd_3_6, fd_3_7, fd_3_8, fd_3_9, ln_4, ln_5, ln_6, ln_7, ln_8, ln_9, ln_10, kd_11, fd_11_0, fd_11_1, fd_11_2, fd_11_3, fd_11_4, kd_12, fd_12_0, fd_12_1, fd_12_2, fd_12_3, ln_13, ln_14, ln_15, kd_16, fd_16_0, fd_16_1, fd_16_2, ln_17, kd_18, fd_18_0, fd_18_1, kd_19, fd_19_0, fd_19_1, fd_19_2, fd_19_3, fd_19_4, fd_19_5, fd_19_6, fd_19_7, fd_19_8, fd_19_9, fd_19_10, fd_19_11, fd_19_12, fd_19_13, fd_19_14, fd_19_15, fd_19_16, fd_19_17, fd_19_18, fd_19_19, fd_19_20, ln_20, ln_21, ln_22, ln_23, ln_24, ln_25, ln_26, ln_27, ln_28, ln_29, ln_30, ln_31, ln_32, List.getElem?_cons_zero, List.getElem?_cons_succ, List.set_cons_zero, List.set_cons_succ, true_and, and_true, ↓reduceIte, Int32.reduceLT, Int32.reduceLE, li_10, or_true, true_or]
    unfold hasN at h
    by_cases c1 : x < 0 <;> by_cases c2 : x < M 3 5 <;> by_cases c3 : x < 200 <;> simp [c1, c2, c3, b2] at h ⊢ <;> exact h
  · cases h
def isN (M : aM) (x k : Int32) : Bool := hasN M x && decide (M 4 (cl x) = k)
def sp_Nodes_isOf : aS := fun as M K => match as with
  | [.ref a, .int x, .int k] => a = 3 ∧ K (some (.int (b2 (isN M x k)))) M
  | _ => False
set_option maxRecDepth 100000 in
set_option maxHeartbeats 4000000 in
theorem ok_Nodes_isOf {G : aG} (hG : am_ok G) : am_Sp G Y_Nodes_isOf 0 sp_Nodes_isOf := by
  intro as M K h
  unfold sp_Nodes_isOf at h
  split at h
  · next a x k =>
    obtain ⟨rfl, h⟩ := h
    refine am_entry hG (by decide +kernel) (Nat.le_of_ble_eq_true rfl) ?_
    refine am_go (cuts := k_Nodes_isOf) tb_Nodes_isOf 400 _ _ _ _ ?_
    change am_run _ _ _ _ _ _ [some (.ref 3), some (.int x), some (.int k)] [] _
    simp only [r_Nodes_isOf_0, r_Nodes_isOf_1, r_Nodes_isOf_4, r_Nodes_isOf_5, r_Nodes_isOf_6, r_Nodes_isOf_9, r_Nodes_isOf_12, r_Nodes_isOf_13, r_Nodes_isOf_16, r_Nodes_isOf_19, r_Nodes_isOf_20, r_Nodes_isOf_23, r_Nodes_isOf_24, r_Nodes_isOf_25, r_Nodes_isOf_26, r_Nodes_isOf_29, r_Nodes_isOf_30, r_Nodes_isOf_33, r_Nodes_isOf_34, ai_iload, ai_iflt, ai_aload, ai_getf, ai_cmpge, ai_const, ai_iald, ai_cmpne, ai_goto, ai_zret, kd_0, fd_0_0, fd_0_1, fd_0_2, fd_0_3, fd_0_4, kd_1, fd_1_0, fd_1_1, ln_2, kd_3, fd_3_0, fd_3_1, fd_3_2, fd_3_3, fd_3_4, fd_3_5, fd_3_6, fd_3_7, fd_3_8, fd_3_9, ln_4, ln_5, ln_6, ln_7, ln_8, ln_9, ln_10, kd_11, fd_11_0, fd_11_1, fd_11_2, fd_11_3, fd_11_4, kd_12, fd_12_0, fd_12_1, fd_12_2, fd_12_3, ln_13, ln_14, ln_15, kd_16, fd_16_0, fd_16_1, fd_16_2, ln_17, kd_18, fd_18_0, fd_18_1, kd_19, fd_19_0, fd_19_1, fd_19_2, fd_19_3, fd_19_4, fd_19_5, fd_19_6, fd_19_7, fd_19_8, fd_19_9, fd_19_10, fd_19_11, fd_19_12, fd_19_13, fd_19_14, fd_19_15, fd_19_16, fd_19_17, fd_19_18, fd_19_19, fd_19_20, ln_20, ln_21, ln_22, ln_23, ln_24, ln_25, ln_26, ln_27, ln_28, ln_29, ln_30, ln_31, ln_32, List.getElem?_cons_zero, List.getElem?_cons_succ, List.set_cons_zero, List.set_cons_succ, true_and, and_true, ↓reduceIte, Int32.reduceLT, Int32.reduceLE, li_10, or_true, true_or]
    unfold isN hasN at h
    by_cases c1 : x < 0
    · simp [c1, b2] at h ⊢; exact h
    by_cases c2 : x < M 3 5
    · by_cases c3 : x < 200
      · have c4 : vp_in x 200 := vin_lt c1 c3 (by decide)
        by_cases c5 : M 4 (cl x) = k <;> simp [c1, c2, c3, c4, c5, b2] at h ⊢ <;> exact h
      · simp [c1, c2, c3, b2] at h ⊢; exact h
    · simp [c1, c2, b2] at h ⊢; exact h
  · cases h
def clrM (M : aM) : aM := am_up (am_up (am_up M 3 5 0) 3 7 0) 3 9 5
def sp_Nodes_clear : aS := fun as M K => match as with
  | [.ref a] => a = 3 ∧ K none (clrM M)
  | _ => False
set_option maxRecDepth 100000 in
set_option maxHeartbeats 4000000 in
theorem ok_Nodes_clear {G : aG} (hG : am_ok G) : am_Sp G Y_Nodes_clear 0 sp_Nodes_clear := by
  intro as M K h
  unfold sp_Nodes_clear at h
  split at h
  · next a =>
    obtain ⟨rfl, h⟩ := h
    refine am_entry hG (by decide +kernel) (Nat.le_of_ble_eq_true rfl) ?_
    refine am_go (cuts := k_Nodes_clear) tb_Nodes_clear 400 _ _ _ _ ?_
    change am_run _ _ _ _ _ _ [some (.ref 3)] [] _
    simp only [r_Nodes_clear_0, r_Nodes_clear_1, r_Nodes_clear_2, r_Nodes_clear_5, r_Nodes_clear_6, r_Nodes_clear_7, r_Nodes_clear_10, r_Nodes_clear_11, r_Nodes_clear_14, r_Nodes_clear_15, r_Nodes_clear_18, ai_aload, ai_const, ai_putf, ai_gets, ai_xlen, ai_vret, kd_0, fd_0_0, fd_0_1, fd_0_2, fd_0_3, fd_0_4, kd_1, fd_1_0, fd_1_1, ln_2, kd_3, fd_3_0, fd_3_1, fd_3_2, fd_3_3, fd_3_4, fd_3_5, fd_3_6, fd_3_7, fd_3_8, fd_3_9, ln_4, ln_5, ln_6, ln_7, ln_8, ln_9, ln_10, kd_11, fd_11_0, fd_11_1, fd_11_2, fd_11_3, fd_11_4, kd_12, fd_12_0, fd_12_1, fd_12_2, fd_12_3, ln_13, ln_14, ln_15, kd_16, fd_16_0, fd_16_1, fd_16_2, ln_17, kd_18, fd_18_0, fd_18_1, kd_19, fd_19_0, fd_19_1, fd_19_2, fd_19_3, fd_19_4, fd_19_5, fd_19_6, fd_19_7, fd_19_8, fd_19_9, fd_19_10, fd_19_11, fd_19_12, fd_19_13, fd_19_14, fd_19_15, fd_19_16, fd_19_17, fd_19_18, fd_19_19, fd_19_20, ln_20, ln_21, ln_22, ln_23, ln_24, ln_25, ln_26, ln_27, ln_28, ln_29, ln_30, ln_31, ln_32, List.getElem?_cons_zero, List.getElem?_cons_succ, List.set_cons_zero, List.set_cons_succ, true_and, and_true, ↓reduceIte, Int32.reduceLT, Int32.reduceLE, li_10, or_true, true_or]
    exact h
  · cases h
def n_add (M : aM) (k : Int32) : Int32 × aM := if M 3 5 < 0 then (-1, M) else if M 3 5 < 200 then (M 3 5, am_up (am_up (am_up (am_up (am_up (am_up M 4 (cl (M 3 5)) k) 5 (cl (M 3 5)) 0) 6 (cl (M 3 5)) (M 3 9)) 7 (cl (M 3 5)) (-1)) 8 (cl (M 3 5)) (-1)) 3 5 (M 3 5 + 1)) else (-1, M)
def sp_Nodes_add : aS := fun as M K => match as with
  | [.ref a, .int k] => a = 3 ∧ K (some (.int (n_add M k).1)) (n_add M k).2
  | _ => False
set_option maxRecDepth 100000 in
set_option maxHeartbeats 4000000 in
theorem ok_Nodes_add {G : aG} (hG : am_ok G) : am_Sp G Y_Nodes_add 0 sp_Nodes_add := by
  intro as M K h
  unfold sp_Nodes_add at h
  split at h
  · next a k =>
    obtain ⟨rfl, h⟩ := h
    unfold n_add at h
    by_cases c1 : M 3 5 < 0
    · rw [if_pos c1] at h
      refine am_entry hG (by decide +kernel) (Nat.le_of_ble_eq_true rfl) ?_
      refine am_go (cuts := k_Nodes_add) tb_Nodes_add 400 _ _ _ _ ?_
      change am_run _ _ _ _ _ _ [some (.ref 3), some (.int k), none] [] _
      simp only [r_Nodes_add_0, r_Nodes_add_1, r_Nodes_add_4, r_Nodes_add_7, r_Nodes_add_8, r_Nodes_add_11, r_Nodes_add_14, r_Nodes_add_17, r_Nodes_add_18, r_Nodes_add_19, r_Nodes_add_20, r_Nodes_add_23, r_Nodes_add_24, r_Nodes_add_25, r_Nodes_add_28, r_Nodes_add_29, r_Nodes_add_30, r_Nodes_add_31, r_Nodes_add_32, r_Nodes_add_35, r_Nodes_add_36, r_Nodes_add_37, r_Nodes_add_38, r_Nodes_add_39, r_Nodes_add_42, r_Nodes_add_43, r_Nodes_add_44, r_Nodes_add_47, r_Nodes_add_48, r_Nodes_add_49, r_Nodes_add_52, r_Nodes_add_53, r_Nodes_add_54, r_Nodes_add_55, r_Nodes_add_56, r_Nodes_add_59, r_Nodes_add_60, r_Nodes_add_61, r_Nodes_add_62, r_Nodes_add_63, r_Nodes_add_64, r_Nodes_add_67, r_Nodes_add_68, r_Nodes_add_69, r_Nodes_add_72, r_Nodes_add_73, ai_aload, ai_getf, ai_iflt, ai_const, ai_cmplt, ai_iret, ai_istore, am_cut_0, am_cut_s, am_c1, ai_iload, ai_iast, ai_dup, ai_iadd, ai_bin, ai_putf, kd_0, fd_0_0, fd_0_1, fd_0_2, fd_0_3, fd_0_4, kd_1, fd_1_0, fd_1_1, ln_2, kd_3, fd_3_0, fd_3_1, fd_3_2, fd_3_3, fd_3_4, fd_3_5, fd_3_6, fd_3_7, fd_3_8, fd_3_9, ln_4, ln_5, ln_6, ln_7, ln_8, ln_9, ln_10, kd_11, fd_11_0, fd_11_1, fd_11_2, fd_11_3, fd_11_4, kd_12, fd_12_0, fd_12_1, fd_12_2, fd_12_3, ln_13, ln_14, ln_15, kd_16, fd_16_0, fd_16_1, fd_16_2, ln_17, kd_18, fd_18_0, fd_18_1, kd_19, fd_19_0, fd_19_1, fd_19_2, fd_19_3, fd_19_4, fd_19_5, fd_19_6, fd_19_7, fd_19_8, fd_19_9, fd_19_10, fd_19_11, fd_19_12, fd_19_13, fd_19_14, fd_19_15, fd_19_16, fd_19_17, fd_19_18, fd_19_19, fd_19_20, ln_20, ln_21, ln_22, ln_23, ln_24, ln_25, ln_26, ln_27, ln_28, ln_29, ln_30, ln_31, ln_32, List.getElem?_cons_zero, List.getElem?_cons_succ, List.set_cons_zero, List.set_cons_succ, true_and, and_true, ↓reduceIte, Int32.reduceLT, Int32.reduceLE, li_10, or_true, true_or, c1]
      exact h
    · rw [if_neg c1] at h
      by_cases c2 : M 3 5 < 200
      · rw [if_pos c2] at h
        have e5 : vp_in (M 3 5) 200 := vin_lt c1 c2 (by decide)
        refine am_entry hG (by decide +kernel) (Nat.le_of_ble_eq_true rfl) ?_
        refine am_go (cuts := k_Nodes_add) tb_Nodes_add 400 _ _ _ _ ?_
        change am_run _ _ _ _ _ _ [some (.ref 3), some (.int k), none] [] _
        simp only [r_Nodes_add_0, r_Nodes_add_1, r_Nodes_add_4, r_Nodes_add_7, r_Nodes_add_8, r_Nodes_add_11, r_Nodes_add_14, r_Nodes_add_17, r_Nodes_add_18, r_Nodes_add_19, r_Nodes_add_20, r_Nodes_add_23, r_Nodes_add_24, r_Nodes_add_25, r_Nodes_add_28, r_Nodes_add_29, r_Nodes_add_30, r_Nodes_add_31, r_Nodes_add_32, r_Nodes_add_35, r_Nodes_add_36, r_Nodes_add_37, r_Nodes_add_38, r_Nodes_add_39, r_Nodes_add_42, r_Nodes_add_43, r_Nodes_add_44, r_Nodes_add_47, r_Nodes_add_48, r_Nodes_add_49, r_Nodes_add_52, r_Nodes_add_53, r_Nodes_add_54, r_Nodes_add_55, r_Nodes_add_56, r_Nodes_add_59, r_Nodes_add_60, r_Nodes_add_61, r_Nodes_add_62, r_Nodes_add_63, r_Nodes_add_64, r_Nodes_add_67, r_Nodes_add_68, r_Nodes_add_69, r_Nodes_add_72, r_Nodes_add_73, ai_aload, ai_getf, ai_iflt, ai_const, ai_cmplt, ai_iret, ai_istore, am_cut_0, am_cut_s, am_c1, ai_iload, ai_iast, ai_dup, ai_iadd, ai_bin, ai_putf, kd_0, fd_0_0, fd_0_1, fd_0_2, fd_0_3, fd_0_4, kd_1, fd_1_0, fd_1_1, ln_2, kd_3, fd_3_0, fd_3_1, fd_3_2, fd_3_3, fd_3_4, fd_3_5, fd_3_6, fd_3_7, fd_3_8, fd_3_9, ln_4, ln_5, ln_6, ln_7, ln_8, ln_9, ln_10, kd_11, fd_11_0, fd_11_1, fd_11_2, fd_11_3, fd_11_4, kd_12, fd_12_0, fd_12_1, fd_12_2, fd_12_3, ln_13, ln_14, ln_15, kd_16, fd_16_0, fd_16_1, fd_16_2, ln_17, kd_18, fd_18_0, fd_18_1, kd_19, fd_19_0, fd_19_1, fd_19_2, fd_19_3, fd_19_4, fd_19_5, fd_19_6, fd_19_7, fd_19_8, fd_19_9, fd_19_10, fd_19_11, fd_19_12, fd_19_13, fd_19_14, fd_19_15, fd_19_16, fd_19_17, fd_19_18, fd_19_19, fd_19_20, ln_20, ln_21, ln_22, ln_23, ln_24, ln_25, ln_26, ln_27, ln_28, ln_29, ln_30, ln_31, ln_32, List.getElem?_cons_zero, List.getElem?_cons_succ, List.set_cons_zero, List.set_cons_succ, true_and, and_true, ↓reduceIte, Int32.reduceLT, Int32.reduceLE, li_10, or_true, true_or, c1, c2, e5, am_up_ap, Nat.reduceEqDiff]
        exact h
      · rw [if_neg c2] at h
        refine am_entry hG (by decide +kernel) (Nat.le_of_ble_eq_true rfl) ?_
        refine am_go (cuts := k_Nodes_add) tb_Nodes_add 400 _ _ _ _ ?_
        change am_run _ _ _ _ _ _ [some (.ref 3), some (.int k), none] [] _
        simp only [r_Nodes_add_0, r_Nodes_add_1, r_Nodes_add_4, r_Nodes_add_7, r_Nodes_add_8, r_Nodes_add_11, r_Nodes_add_14, r_Nodes_add_17, r_Nodes_add_18, r_Nodes_add_19, r_Nodes_add_20, r_Nodes_add_23, r_Nodes_add_24, r_Nodes_add_25, r_Nodes_add_28, r_Nodes_add_29, r_Nodes_add_30, r_Nodes_add_31, r_Nodes_add_32, r_Nodes_add_35, r_Nodes_add_36, r_Nodes_add_37, r_Nodes_add_38, r_Nodes_add_39, r_Nodes_add_42, r_Nodes_add_43, r_Nodes_add_44, r_Nodes_add_47, r_Nodes_add_48, r_Nodes_add_49, r_Nodes_add_52, r_Nodes_add_53, r_Nodes_add_54, r_Nodes_add_55, r_Nodes_add_56, r_Nodes_add_59, r_Nodes_add_60, r_Nodes_add_61, r_Nodes_add_62, r_Nodes_add_63, r_Nodes_add_64, r_Nodes_add_67, r_Nodes_add_68, r_Nodes_add_69, r_Nodes_add_72, r_Nodes_add_73, ai_aload, ai_getf, ai_iflt, ai_const, ai_cmplt, ai_iret, ai_istore, am_cut_0, am_cut_s, am_c1, ai_iload, ai_iast, ai_dup, ai_iadd, ai_bin, ai_putf, kd_0, fd_0_0, fd_0_1, fd_0_2, fd_0_3, fd_0_4, kd_1, fd_1_0, fd_1_1, ln_2, kd_3, fd_3_0, fd_3_1, fd_3_2, fd_3_3, fd_3_4, fd_3_5, fd_3_6, fd_3_7, fd_3_8, fd_3_9, ln_4, ln_5, ln_6, ln_7, ln_8, ln_9, ln_10, kd_11, fd_11_0, fd_11_1, fd_11_2, fd_11_3, fd_11_4, kd_12, fd_12_0, fd_12_1, fd_12_2, fd_12_3, ln_13, ln_14, ln_15, kd_16, fd_16_0, fd_16_1, fd_16_2, ln_17, kd_18, fd_18_0, fd_18_1, kd_19, fd_19_0, fd_19_1, fd_19_2, fd_19_3, fd_19_4, fd_19_5, fd_19_6, fd_19_7, fd_19_8, fd_19_9, fd_19_10, fd_19_11, fd_19_12, fd_19_13, fd_19_14, fd_19_15, fd_19_16, fd_19_17, fd_19_18, fd_19_19, fd_19_20, ln_20, ln_21, ln_22, ln_23, ln_24, ln_25, ln_26, ln_27, ln_28, ln_29, ln_30, ln_31, ln_32, List.getElem?_cons_zero, List.getElem?_cons_succ, List.set_cons_zero, List.set_cons_succ, true_and, and_true, ↓reduceIte, Int32.reduceLT, Int32.reduceLE, li_10, or_true, true_or, c1, c2]
        exact h
  · cases h
def n_addD (M : aM) (x : Int32) : aM := if M 3 7 < 0 then M else if M 3 7 < 200 then am_up (am_up M 9 (cl (M 3 7)) x) 3 7 (M 3 7 + 1) else M
def sp_Nodes_addDatum : aS := fun as M K => match as with
  | [.ref a, .int x] => a = 3 ∧ K none (n_addD M x)
  | _ => False
set_option maxRecDepth 100000 in
set_option maxHeartbeats 4000000 in
theorem ok_Nodes_addDatum {G : aG} (hG : am_ok G) : am_Sp G Y_Nodes_addDatum 0 sp_Nodes_addDatum := by
  intro as M K h
  unfold sp_Nodes_addDatum at h
  split at h
  · next a x =>
    obtain ⟨rfl, h⟩ := h
    unfold n_addD at h
    by_cases c1 : M 3 7 < 0
    · rw [if_pos c1] at h
      refine am_entry hG (by decide +kernel) (Nat.le_of_ble_eq_true rfl) ?_
      refine am_go (cuts := k_Nodes_addDatum) tb_Nodes_addDatum 400 _ _ _ _ ?_
      change am_run _ _ _ _ _ _ [some (.ref 3), some (.int x)] [] _
      simp only [r_Nodes_addDatum_0, r_Nodes_addDatum_1, r_Nodes_addDatum_4, r_Nodes_addDatum_7, r_Nodes_addDatum_8, r_Nodes_addDatum_11, r_Nodes_addDatum_14, r_Nodes_addDatum_17, r_Nodes_addDatum_18, r_Nodes_addDatum_21, r_Nodes_addDatum_22, r_Nodes_addDatum_25, r_Nodes_addDatum_26, r_Nodes_addDatum_27, r_Nodes_addDatum_28, r_Nodes_addDatum_29, r_Nodes_addDatum_32, r_Nodes_addDatum_33, r_Nodes_addDatum_34, r_Nodes_addDatum_37, ai_aload, ai_getf, ai_iflt, ai_const, ai_cmpge, ai_iload, ai_iast, ai_dup, am_c1, ai_iadd, ai_bin, ai_putf, ai_vret, kd_0, fd_0_0, fd_0_1, fd_0_2, fd_0_3, fd_0_4, kd_1, fd_1_0, fd_1_1, ln_2, kd_3, fd_3_0, fd_3_1, fd_3_2, fd_3_3, fd_3_4, fd_3_5, fd_3_6, fd_3_7, fd_3_8, fd_3_9, ln_4, ln_5, ln_6, ln_7, ln_8, ln_9, ln_10, kd_11, fd_11_0, fd_11_1, fd_11_2, fd_11_3, fd_11_4, kd_12, fd_12_0, fd_12_1, fd_12_2, fd_12_3, ln_13, ln_14, ln_15, kd_16, fd_16_0, fd_16_1, fd_16_2, ln_17, kd_18, fd_18_0, fd_18_1, kd_19, fd_19_0, fd_19_1, fd_19_2, fd_19_3, fd_19_4, fd_19_5, fd_19_6, fd_19_7, fd_19_8, fd_19_9, fd_19_10, fd_19_11, fd_19_12, fd_19_13, fd_19_14, fd_19_15, fd_19_16, fd_19_17, fd_19_18, fd_19_19, fd_19_20, ln_20, ln_21, ln_22, ln_23, ln_24, ln_25, ln_26, ln_27, ln_28, ln_29, ln_30, ln_31, ln_32, List.getElem?_cons_zero, List.getElem?_cons_succ, List.set_cons_zero, List.set_cons_succ, true_and, and_true, ↓reduceIte, Int32.reduceLT, Int32.reduceLE, li_10, or_true, true_or, c1]
      exact h
    · rw [if_neg c1] at h
      by_cases c2 : M 3 7 < 200
      · rw [if_pos c2] at h
        have e5 : vp_in (M 3 7) 200 := vin_lt c1 c2 (by decide)
        refine am_entry hG (by decide +kernel) (Nat.le_of_ble_eq_true rfl) ?_
        refine am_go (cuts := k_Nodes_addDatum) tb_Nodes_addDatum 400 _ _ _ _ ?_
        change am_run _ _ _ _ _ _ [some (.ref 3), some (.int x)] [] _
        simp only [r_Nodes_addDatum_0, r_Nodes_addDatum_1, r_Nodes_addDatum_4, r_Nodes_addDatum_7, r_Nodes_addDatum_8, r_Nodes_addDatum_11, r_Nodes_addDatum_14, r_Nodes_addDatum_17, r_Nodes_addDatum_18, r_Nodes_addDatum_21, r_Nodes_addDatum_22, r_Nodes_addDatum_25, r_Nodes_addDatum_26, r_Nodes_addDatum_27, r_Nodes_addDatum_28, r_Nodes_addDatum_29, r_Nodes_addDatum_32, r_Nodes_addDatum_33, r_Nodes_addDatum_34, r_Nodes_addDatum_37, ai_aload, ai_getf, ai_iflt, ai_const, ai_cmpge, ai_iload, ai_iast, ai_dup, am_c1, ai_iadd, ai_bin, ai_putf, ai_vret, kd_0, fd_0_0, fd_0_1, fd_0_2, fd_0_3, fd_0_4, kd_1, fd_1_0, fd_1_1, ln_2, kd_3, fd_3_0, fd_3_1, fd_3_2, fd_3_3, fd_3_4, fd_3_5, fd_3_6, fd_3_7, fd_3_8, fd_3_9, ln_4, ln_5, ln_6, ln_7, ln_8, ln_9, ln_10, kd_11, fd_11_0, fd_11_1, fd_11_2, fd_11_3, fd_11_4, kd_12, fd_12_0, fd_12_1, fd_12_2, fd_12_3, ln_13, ln_14, ln_15, kd_16, fd_16_0, fd_16_1, fd_16_2, ln_17, kd_18, fd_18_0, fd_18_1, kd_19, fd_19_0, fd_19_1, fd_19_2, fd_19_3, fd_19_4, fd_19_5, fd_19_6, fd_19_7, fd_19_8, fd_19_9, fd_19_10, fd_19_11, fd_19_12, fd_19_13, fd_19_14, fd_19_15, fd_19_16, fd_19_17, fd_19_18, fd_19_19, fd_19_20, ln_20, ln_21, ln_22, ln_23, ln_24, ln_25, ln_26, ln_27, ln_28, ln_29, ln_30, ln_31, ln_32, List.getElem?_cons_zero, List.getElem?_cons_succ, List.set_cons_zero, List.set_cons_succ, true_and, and_true, ↓reduceIte, Int32.reduceLT, Int32.reduceLE, li_10, or_true, true_or, c1, c2, e5, am_up_ap, Nat.reduceEqDiff]
        exact h
      · rw [if_neg c2] at h
        refine am_entry hG (by decide +kernel) (Nat.le_of_ble_eq_true rfl) ?_
        refine am_go (cuts := k_Nodes_addDatum) tb_Nodes_addDatum 400 _ _ _ _ ?_
        change am_run _ _ _ _ _ _ [some (.ref 3), some (.int x)] [] _
        simp only [r_Nodes_addDatum_0, r_Nodes_addDatum_1, r_Nodes_addDatum_4, r_Nodes_addDatum_7, r_Nodes_addDatum_8, r_Nodes_addDatum_11, r_Nodes_addDatum_14, r_Nodes_addDatum_17, r_Nodes_addDatum_18, r_Nodes_addDatum_21, r_Nodes_addDatum_22, r_Nodes_addDatum_25, r_Nodes_addDatum_26, r_Nodes_addDatum_27, r_Nodes_addDatum_28, r_Nodes_addDatum_29, r_Nodes_addDatum_32, r_Nodes_addDatum_33, r_Nodes_addDatum_34, r_Nodes_addDatum_37, ai_aload, ai_getf, ai_iflt, ai_const, ai_cmpge, ai_iload, ai_iast, ai_dup, am_c1, ai_iadd, ai_bin, ai_putf, ai_vret, kd_0, fd_0_0, fd_0_1, fd_0_2, fd_0_3, fd_0_4, kd_1, fd_1_0, fd_1_1, ln_2, kd_3, fd_3_0, fd_3_1, fd_3_2, fd_3_3, fd_3_4, fd_3_5, fd_3_6, fd_3_7, fd_3_8, fd_3_9, ln_4, ln_5, ln_6, ln_7, ln_8, ln_9, ln_10, kd_11, fd_11_0, fd_11_1, fd_11_2, fd_11_3, fd_11_4, kd_12, fd_12_0, fd_12_1, fd_12_2, fd_12_3, ln_13, ln_14, ln_15, kd_16, fd_16_0, fd_16_1, fd_16_2, ln_17, kd_18, fd_18_0, fd_18_1, kd_19, fd_19_0, fd_19_1, fd_19_2, fd_19_3, fd_19_4, fd_19_5, fd_19_6, fd_19_7, fd_19_8, fd_19_9, fd_19_10, fd_19_11, fd_19_12, fd_19_13, fd_19_14, fd_19_15, fd_19_16, fd_19_17, fd_19_18, fd_19_19, fd_19_20, ln_20, ln_21, ln_22, ln_23, ln_24, ln_25, ln_26, ln_27, ln_28, ln_29, ln_30, ln_31, ln_32, List.getElem?_cons_zero, List.getElem?_cons_succ, List.set_cons_zero, List.set_cons_succ, true_and, and_true, ↓reduceIte, Int32.reduceLT, Int32.reduceLE, li_10, or_true, true_or, c1, c2]
        exact h
  · cases h
def n_ltr (M : aM) (x b : Int32) : aM := if hasN M x = true then (if M 3 9 < 0 then M else if M 3 9 < 405 then am_up (am_up (am_up M 10 (cl (M 3 9)) b) 3 9 (M 3 9 + 1)) 5 (cl x) (M 5 (cl x) + 1) else M) else M
def sp_Nodes_addLetter : aS := fun as M K => match as with
  | [.ref a, .int x, .int b] => a = 3 ∧ K none (n_ltr M x b)
  | _ => False
set_option maxRecDepth 100000 in
set_option maxHeartbeats 4000000 in
theorem ok_Nodes_addLetter {G : aG} (hG : am_ok G) : am_Sp G Y_Nodes_addLetter 1 sp_Nodes_addLetter := by
  intro as M K h
  unfold sp_Nodes_addLetter at h
  split at h
  · next a x b =>
    obtain ⟨rfl, h⟩ := h
    unfold n_ltr at h
    cases c : hasN M x
    · rw [c, if_neg (by decide)] at h
      refine am_entry hG (by decide +kernel) (Nat.le_of_ble_eq_true rfl) ?_
      refine am_go (cuts := k_Nodes_addLetter) (tb_Nodes_addLetter (ok_Nodes_has hG) (by decide)) 400 _ _ _ _ ?_
      change am_run _ _ _ _ _ _ [some (.ref 3), some (.int x), some (.int b)] [] _
      simp only [r_Nodes_addLetter_0, r_Nodes_addLetter_1, r_Nodes_addLetter_2, r_Nodes_addLetter_5, r_Nodes_addLetter_8, r_Nodes_addLetter_9, r_Nodes_addLetter_12, r_Nodes_addLetter_15, r_Nodes_addLetter_16, r_Nodes_addLetter_19, r_Nodes_addLetter_20, r_Nodes_addLetter_23, r_Nodes_addLetter_24, r_Nodes_addLetter_27, r_Nodes_addLetter_28, r_Nodes_addLetter_31, r_Nodes_addLetter_32, r_Nodes_addLetter_35, r_Nodes_addLetter_36, r_Nodes_addLetter_37, r_Nodes_addLetter_38, r_Nodes_addLetter_39, r_Nodes_addLetter_42, r_Nodes_addLetter_43, r_Nodes_addLetter_44, r_Nodes_addLetter_47, r_Nodes_addLetter_48, r_Nodes_addLetter_51, r_Nodes_addLetter_52, r_Nodes_addLetter_53, r_Nodes_addLetter_54, r_Nodes_addLetter_55, r_Nodes_addLetter_56, r_Nodes_addLetter_57, ai_aload, ai_iload, ai_callv2, am_push, am_few, ai_ifeq, ai_getf, ai_iflt, ai_alen, ai_cmpge, ai_iast, ai_dup, am_c1, ai_const, ai_iadd, ai_bin, ai_putf, ai_dup2, ai_iald, ai_vret, kd_0, fd_0_0, fd_0_1, fd_0_2, fd_0_3, fd_0_4, kd_1, fd_1_0, fd_1_1, ln_2, kd_3, fd_3_0, fd_3_1, fd_3_2, fd_3_3, fd_3_4, fd_3_5, fd_3_6, fd_3_7, fd_3_8, fd_3_9, ln_4, ln_5, ln_6, ln_7, ln_8, ln_9, ln_10, kd_11, fd_11_0, fd_11_1, fd_11_2, fd_11_3, fd_11_4, kd_12, fd_12_0, fd_12_1, fd_12_2, fd_12_3, ln_13, ln_14, ln_15, kd_16, fd_16_0, fd_16_1, fd_16_2, ln_17, kd_18, fd_18_0, fd_18_1, kd_19, fd_19_0, fd_19_1, fd_19_2, fd_19_3, fd_19_4, fd_19_5, fd_19_6, fd_19_7, fd_19_8, fd_19_9, fd_19_10, fd_19_11, fd_19_12, fd_19_13, fd_19_14, fd_19_15, fd_19_16, fd_19_17, fd_19_18, fd_19_19, fd_19_20, ln_20, ln_21, ln_22, ln_23, ln_24, ln_25, ln_26, ln_27, ln_28, ln_29, ln_30, ln_31, ln_32, List.getElem?_cons_zero, List.getElem?_cons_succ, List.set_cons_zero, List.set_cons_succ, true_and, and_true, ↓reduceIte, Int32.reduceLT, Int32.reduceLE, li_10, or_true, true_or, ↓sp_Nodes_has, b2_0, c]
      exact h
    · rw [if_pos c] at h
      by_cases c1 : M 3 9 < 0
      · rw [if_pos c1] at h
        refine am_entry hG (by decide +kernel) (Nat.le_of_ble_eq_true rfl) ?_
        refine am_go (cuts := k_Nodes_addLetter) (tb_Nodes_addLetter (ok_Nodes_has hG) (by decide)) 400 _ _ _ _ ?_
        change am_run _ _ _ _ _ _ [some (.ref 3), some (.int x), some (.int b)] [] _
        simp only [r_Nodes_addLetter_0, r_Nodes_addLetter_1, r_Nodes_addLetter_2, r_Nodes_addLetter_5, r_Nodes_addLetter_8, r_Nodes_addLetter_9, r_Nodes_addLetter_12, r_Nodes_addLetter_15, r_Nodes_addLetter_16, r_Nodes_addLetter_19, r_Nodes_addLetter_20, r_Nodes_addLetter_23, r_Nodes_addLetter_24, r_Nodes_addLetter_27, r_Nodes_addLetter_28, r_Nodes_addLetter_31, r_Nodes_addLetter_32, r_Nodes_addLetter_35, r_Nodes_addLetter_36, r_Nodes_addLetter_37, r_Nodes_addLetter_38, r_Nodes_addLetter_39, r_Nodes_addLetter_42, r_Nodes_addLetter_43, r_Nodes_addLetter_44, r_Nodes_addLetter_47, r_Nodes_addLetter_48, r_Nodes_addLetter_51, r_Nodes_addLetter_52, r_Nodes_addLetter_53, r_Nodes_addLetter_54, r_Nodes_addLetter_55, r_Nodes_addLetter_56, r_Nodes_addLetter_57, ai_aload, ai_iload, ai_callv2, am_push, am_few, ai_ifeq, ai_getf, ai_iflt, ai_alen, ai_cmpge, ai_iast, ai_dup, am_c1, ai_const, ai_iadd, ai_bin, ai_putf, ai_dup2, ai_iald, ai_vret, kd_0, fd_0_0, fd_0_1, fd_0_2, fd_0_3, fd_0_4, kd_1, fd_1_0, fd_1_1, ln_2, kd_3, fd_3_0, fd_3_1, fd_3_2, fd_3_3, fd_3_4, fd_3_5, fd_3_6, fd_3_7, fd_3_8, fd_3_9, ln_4, ln_5, ln_6, ln_7, ln_8, ln_9, ln_10, kd_11, fd_11_0, fd_11_1, fd_11_2, fd_11_3, fd_11_4, kd_12, fd_12_0, fd_12_1, fd_12_2, fd_12_3, ln_13, ln_14, ln_15, kd_16, fd_16_0, fd_16_1, fd_16_2, ln_17, kd_18, fd_18_0, fd_18_1, kd_19, fd_19_0, fd_19_1, fd_19_2, fd_19_3, fd_19_4, fd_19_5, fd_19_6, fd_19_7, fd_19_8, fd_19_9, fd_19_10, fd_19_11, fd_19_12, fd_19_13, fd_19_14, fd_19_15, fd_19_16, fd_19_17, fd_19_18, fd_19_19, fd_19_20, ln_20, ln_21, ln_22, ln_23, ln_24, ln_25, ln_26, ln_27, ln_28, ln_29, ln_30, ln_31, ln_32, List.getElem?_cons_zero, List.getElem?_cons_succ, List.set_cons_zero, List.set_cons_succ, true_and, and_true, ↓reduceIte, Int32.reduceLT, Int32.reduceLE, li_10, or_true, true_or, ↓sp_Nodes_has, b2_0, c, Bool.true_eq_false, c1]
        exact h
      · rw [if_neg c1] at h
        by_cases c2 : M 3 9 < 405
        · rw [if_pos c2] at h
          have e4 : M 3 9 < Int32.ofNat 405 := c2
          have e5 : vp_in (M 3 9) 405 := vin_lt c1 c2 (by decide)
          refine am_entry hG (by decide +kernel) (Nat.le_of_ble_eq_true rfl) ?_
          refine am_go (cuts := k_Nodes_addLetter) (tb_Nodes_addLetter (ok_Nodes_has hG) (by decide)) 400 _ _ _ _ ?_
          change am_run _ _ _ _ _ _ [some (.ref 3), some (.int x), some (.int b)] [] _
          simp only [r_Nodes_addLetter_0, r_Nodes_addLetter_1, r_Nodes_addLetter_2, r_Nodes_addLetter_5, r_Nodes_addLetter_8, r_Nodes_addLetter_9, r_Nodes_addLetter_12, r_Nodes_addLetter_15, r_Nodes_addLetter_16, r_Nodes_addLetter_19, r_Nodes_addLetter_20, r_Nodes_addLetter_23, r_Nodes_addLetter_24, r_Nodes_addLetter_27, r_Nodes_addLetter_28, r_Nodes_addLetter_31, r_Nodes_addLetter_32, r_Nodes_addLetter_35, r_Nodes_addLetter_36, r_Nodes_addLetter_37, r_Nodes_addLetter_38, r_Nodes_addLetter_39, r_Nodes_addLetter_42, r_Nodes_addLetter_43, r_Nodes_addLetter_44, r_Nodes_addLetter_47, r_Nodes_addLetter_48, r_Nodes_addLetter_51, r_Nodes_addLetter_52, r_Nodes_addLetter_53, r_Nodes_addLetter_54, r_Nodes_addLetter_55, r_Nodes_addLetter_56, r_Nodes_addLetter_57, ai_aload, ai_iload, ai_callv2, am_push, am_few, ai_ifeq, ai_getf, ai_iflt, ai_alen, ai_cmpge, ai_iast, ai_dup, am_c1, ai_const, ai_iadd, ai_bin, ai_putf, ai_dup2, ai_iald, ai_vret, kd_0, fd_0_0, fd_0_1, fd_0_2, fd_0_3, fd_0_4, kd_1, fd_1_0, fd_1_1, ln_2, kd_3, fd_3_0, fd_3_1, fd_3_2, fd_3_3, fd_3_4, fd_3_5, fd_3_6, fd_3_7, fd_3_8, fd_3_9, ln_4, ln_5, ln_6, ln_7, ln_8, ln_9, ln_10, kd_11, fd_11_0, fd_11_1, fd_11_2, fd_11_3, fd_11_4, kd_12, fd_12_0, fd_12_1, fd_12_2, fd_12_3, ln_13, ln_14, ln_15, kd_16, fd_16_0, fd_16_1, fd_16_2, ln_17, kd_18, fd_18_0, fd_18_1, kd_19, fd_19_0, fd_19_1, fd_19_2, fd_19_3, fd_19_4, fd_19_5, fd_19_6, fd_19_7, fd_19_8, fd_19_9, fd_19_10, fd_19_11, fd_19_12, fd_19_13, fd_19_14, fd_19_15, fd_19_16, fd_19_17, fd_19_18, fd_19_19, fd_19_20, ln_20, ln_21, ln_22, ln_23, ln_24, ln_25, ln_26, ln_27, ln_28, ln_29, ln_30, ln_31, ln_32, List.getElem?_cons_zero, List.getElem?_cons_succ, List.set_cons_zero, List.set_cons_succ, true_and, and_true, ↓reduceIte, Int32.reduceLT, Int32.reduceLE, li_10, or_true, true_or, ↓sp_Nodes_has, b2_0, c, Bool.true_eq_false, c1, e4, e5, hasN_in c, am_up_ap, Nat.reduceEqDiff]
          exact h
        · rw [if_neg c2] at h
          have e4 : ¬ M 3 9 < Int32.ofNat 405 := c2
          refine am_entry hG (by decide +kernel) (Nat.le_of_ble_eq_true rfl) ?_
          refine am_go (cuts := k_Nodes_addLetter) (tb_Nodes_addLetter (ok_Nodes_has hG) (by decide)) 400 _ _ _ _ ?_
          change am_run _ _ _ _ _ _ [some (.ref 3), some (.int x), some (.int b)] [] _
          simp only [r_Nodes_addLetter_0, r_Nodes_addLetter_1, r_Nodes_addLetter_2, r_Nodes_addLetter_5, r_Nodes_addLetter_8, r_Nodes_addLetter_9, r_Nodes_addLetter_12, r_Nodes_addLetter_15, r_Nodes_addLetter_16, r_Nodes_addLetter_19, r_Nodes_addLetter_20, r_Nodes_addLetter_23, r_Nodes_addLetter_24, r_Nodes_addLetter_27, r_Nodes_addLetter_28, r_Nodes_addLetter_31, r_Nodes_addLetter_32, r_Nodes_addLetter_35, r_Nodes_addLetter_36, r_Nodes_addLetter_37, r_Nodes_addLetter_38, r_Nodes_addLetter_39, r_Nodes_addLetter_42, r_Nodes_addLetter_43, r_Nodes_addLetter_44, r_Nodes_addLetter_47, r_Nodes_addLetter_48, r_Nodes_addLetter_51, r_Nodes_addLetter_52, r_Nodes_addLetter_53, r_Nodes_addLetter_54, r_Nodes_addLetter_55, r_Nodes_addLetter_56, r_Nodes_addLetter_57, ai_aload, ai_iload, ai_callv2, am_push, am_few, ai_ifeq, ai_getf, ai_iflt, ai_alen, ai_cmpge, ai_iast, ai_dup, am_c1, ai_const, ai_iadd, ai_bin, ai_putf, ai_dup2, ai_iald, ai_vret, kd_0, fd_0_0, fd_0_1, fd_0_2, fd_0_3, fd_0_4, kd_1, fd_1_0, fd_1_1, ln_2, kd_3, fd_3_0, fd_3_1, fd_3_2, fd_3_3, fd_3_4, fd_3_5, fd_3_6, fd_3_7, fd_3_8, fd_3_9, ln_4, ln_5, ln_6, ln_7, ln_8, ln_9, ln_10, kd_11, fd_11_0, fd_11_1, fd_11_2, fd_11_3, fd_11_4, kd_12, fd_12_0, fd_12_1, fd_12_2, fd_12_3, ln_13, ln_14, ln_15, kd_16, fd_16_0, fd_16_1, fd_16_2, ln_17, kd_18, fd_18_0, fd_18_1, kd_19, fd_19_0, fd_19_1, fd_19_2, fd_19_3, fd_19_4, fd_19_5, fd_19_6, fd_19_7, fd_19_8, fd_19_9, fd_19_10, fd_19_11, fd_19_12, fd_19_13, fd_19_14, fd_19_15, fd_19_16, fd_19_17, fd_19_18, fd_19_19, fd_19_20, ln_20, ln_21, ln_22, ln_23, ln_24, ln_25, ln_26, ln_27, ln_28, ln_29, ln_30, ln_31, ln_32, List.getElem?_cons_zero, List.getElem?_cons_succ, List.set_cons_zero, List.set_cons_succ, true_and, and_true, ↓reduceIte, Int32.reduceLT, Int32.reduceLE, li_10, or_true, true_or, ↓sp_Nodes_has, b2_0, c, Bool.true_eq_false, c1, e4]
          exact h
  · cases h
def nqM (M : aM) (x : Int32) : aM := am_up (am_up M 6 (cl x) 0) 5 (cl x) 5
def sp_Nodes_nameQuote : aS := fun as M K => match as with
  | [.ref a, .int x] => a = 3 ∧ K none (if hasN M x = true then nqM M x else M)
  | _ => False
set_option maxRecDepth 100000 in
set_option maxHeartbeats 4000000 in
theorem ok_Nodes_nameQuote {G : aG} (hG : am_ok G) : am_Sp G Y_Nodes_nameQuote 1 sp_Nodes_nameQuote := by
  intro as M K h
  unfold sp_Nodes_nameQuote at h
  split at h
  · next a x =>
    obtain ⟨rfl, h⟩ := h
    cases c : hasN M x
    · rw [c, if_neg (by decide)] at h
      refine am_entry hG (by decide +kernel) (Nat.le_of_ble_eq_true rfl) ?_
      refine am_go (cuts := k_Nodes_nameQuote) (tb_Nodes_nameQuote (ok_Nodes_has hG) (by decide)) 400 _ _ _ _ ?_
      change am_run _ _ _ _ _ _ [some (.ref 3), some (.int x)] [] _
      simp only [r_Nodes_nameQuote_0, r_Nodes_nameQuote_1, r_Nodes_nameQuote_2, r_Nodes_nameQuote_5, r_Nodes_nameQuote_8, r_Nodes_nameQuote_9, r_Nodes_nameQuote_12, r_Nodes_nameQuote_13, r_Nodes_nameQuote_14, r_Nodes_nameQuote_15, r_Nodes_nameQuote_16, r_Nodes_nameQuote_19, r_Nodes_nameQuote_20, r_Nodes_nameQuote_23, r_Nodes_nameQuote_24, r_Nodes_nameQuote_25, ai_aload, ai_iload, ai_callv2, am_push, am_few, ai_ifeq, ai_getf, ai_const, ai_iast, ai_gets, ai_xlen, ai_vret, kd_0, fd_0_0, fd_0_1, fd_0_2, fd_0_3, fd_0_4, kd_1, fd_1_0, fd_1_1, ln_2, kd_3, fd_3_0, fd_3_1, fd_3_2, fd_3_3, fd_3_4, fd_3_5, fd_3_6, fd_3_7, fd_3_8, fd_3_9, ln_4, ln_5, ln_6, ln_7, ln_8, ln_9, ln_10, kd_11, fd_11_0, fd_11_1, fd_11_2, fd_11_3, fd_11_4, kd_12, fd_12_0, fd_12_1, fd_12_2, fd_12_3, ln_13, ln_14, ln_15, kd_16, fd_16_0, fd_16_1, fd_16_2, ln_17, kd_18, fd_18_0, fd_18_1, kd_19, fd_19_0, fd_19_1, fd_19_2, fd_19_3, fd_19_4, fd_19_5, fd_19_6, fd_19_7, fd_19_8, fd_19_9, fd_19_10, fd_19_11, fd_19_12, fd_19_13, fd_19_14, fd_19_15, fd_19_16, fd_19_17, fd_19_18, fd_19_19, fd_19_20, ln_20, ln_21, ln_22, ln_23, ln_24, ln_25, ln_26, ln_27, ln_28, ln_29, ln_30, ln_31, ln_32, List.getElem?_cons_zero, List.getElem?_cons_succ, List.set_cons_zero, List.set_cons_succ, true_and, and_true, ↓reduceIte, Int32.reduceLT, Int32.reduceLE, li_10, or_true, true_or, ↓sp_Nodes_has, b2_0, c]
      exact h
    · rw [if_pos c] at h
      refine am_entry hG (by decide +kernel) (Nat.le_of_ble_eq_true rfl) ?_
      refine am_go (cuts := k_Nodes_nameQuote) (tb_Nodes_nameQuote (ok_Nodes_has hG) (by decide)) 400 _ _ _ _ ?_
      change am_run _ _ _ _ _ _ [some (.ref 3), some (.int x)] [] _
      simp only [r_Nodes_nameQuote_0, r_Nodes_nameQuote_1, r_Nodes_nameQuote_2, r_Nodes_nameQuote_5, r_Nodes_nameQuote_8, r_Nodes_nameQuote_9, r_Nodes_nameQuote_12, r_Nodes_nameQuote_13, r_Nodes_nameQuote_14, r_Nodes_nameQuote_15, r_Nodes_nameQuote_16, r_Nodes_nameQuote_19, r_Nodes_nameQuote_20, r_Nodes_nameQuote_23, r_Nodes_nameQuote_24, r_Nodes_nameQuote_25, ai_aload, ai_iload, ai_callv2, am_push, am_few, ai_ifeq, ai_getf, ai_const, ai_iast, ai_gets, ai_xlen, ai_vret, kd_0, fd_0_0, fd_0_1, fd_0_2, fd_0_3, fd_0_4, kd_1, fd_1_0, fd_1_1, ln_2, kd_3, fd_3_0, fd_3_1, fd_3_2, fd_3_3, fd_3_4, fd_3_5, fd_3_6, fd_3_7, fd_3_8, fd_3_9, ln_4, ln_5, ln_6, ln_7, ln_8, ln_9, ln_10, kd_11, fd_11_0, fd_11_1, fd_11_2, fd_11_3, fd_11_4, kd_12, fd_12_0, fd_12_1, fd_12_2, fd_12_3, ln_13, ln_14, ln_15, kd_16, fd_16_0, fd_16_1, fd_16_2, ln_17, kd_18, fd_18_0, fd_18_1, kd_19, fd_19_0, fd_19_1, fd_19_2, fd_19_3, fd_19_4, fd_19_5, fd_19_6, fd_19_7, fd_19_8, fd_19_9, fd_19_10, fd_19_11, fd_19_12, fd_19_13, fd_19_14, fd_19_15, fd_19_16, fd_19_17, fd_19_18, fd_19_19, fd_19_20, ln_20, ln_21, ln_22, ln_23, ln_24, ln_25, ln_26, ln_27, ln_28, ln_29, ln_30, ln_31, ln_32, List.getElem?_cons_zero, List.getElem?_cons_succ, List.set_cons_zero, List.set_cons_succ, true_and, and_true, ↓reduceIte, Int32.reduceLT, Int32.reduceLE, li_10, or_true, true_or, ↓sp_Nodes_has, b2_0, c, Bool.true_eq_false, hasN_in c]
      exact h
  · cases h
def n_set (c : Nat) (M : aM) (x v : Int32) : aM := if hasN M x = true then am_up M c (cl x) v else M
def sp_Nodes_setAmount : aS := fun as M K => match as with
  | [.ref a, .int x, .int v] => a = 3 ∧ K none (n_set 5 M x v)
  | _ => False
set_option maxRecDepth 100000 in
set_option maxHeartbeats 4000000 in
theorem ok_Nodes_setAmount {G : aG} (hG : am_ok G) : am_Sp G Y_Nodes_setAmount 1 sp_Nodes_setAmount := by
  intro as M K h
  unfold sp_Nodes_setAmount at h
  split at h
  · next a x v =>
    obtain ⟨rfl, h⟩ := h
    unfold n_set at h
    cases c : hasN M x
    · rw [c, if_neg (by decide)] at h
      refine am_entry hG (by decide +kernel) (Nat.le_of_ble_eq_true rfl) ?_
      refine am_go (cuts := k_Nodes_setAmount) (tb_Nodes_setAmount (ok_Nodes_has hG) (by decide)) 400 _ _ _ _ ?_
      change am_run _ _ _ _ _ _ [some (.ref 3), some (.int x), some (.int v)] [] _
      simp only [r_Nodes_setAmount_0, r_Nodes_setAmount_1, r_Nodes_setAmount_2, r_Nodes_setAmount_5, r_Nodes_setAmount_8, r_Nodes_setAmount_9, r_Nodes_setAmount_12, r_Nodes_setAmount_13, r_Nodes_setAmount_14, r_Nodes_setAmount_15, ai_aload, ai_iload, ai_callv2, am_push, am_few, ai_ifeq, ai_getf, ai_iast, ai_vret, kd_0, fd_0_0, fd_0_1, fd_0_2, fd_0_3, fd_0_4, kd_1, fd_1_0, fd_1_1, ln_2, kd_3, fd_3_0, fd_3_1, fd_3_2, fd_3_3, fd_3_4, fd_3_5, fd_3_6, fd_3_7, fd_3_8, fd_3_9, ln_4, ln_5, ln_6, ln_7, ln_8, ln_9, ln_10, kd_11, fd_11_0, fd_11_1, fd_11_2, fd_11_3, fd_11_4, kd_12, fd_12_0, fd_12_1, fd_12_2, fd_12_3, ln_13, ln_14, ln_15, kd_16, fd_16_0, fd_16_1, fd_16_2, ln_17, kd_18, fd_18_0, fd_18_1, kd_19, fd_19_0, fd_19_1, fd_19_2, fd_19_3, fd_19_4, fd_19_5, fd_19_6, fd_19_7, fd_19_8, fd_19_9, fd_19_10, fd_19_11, fd_19_12, fd_19_13, fd_19_14, fd_19_15, fd_19_16, fd_19_17, fd_19_18, fd_19_19, fd_19_20, ln_20, ln_21, ln_22, ln_23, ln_24, ln_25, ln_26, ln_27, ln_28, ln_29, ln_30, ln_31, ln_32, List.getElem?_cons_zero, List.getElem?_cons_succ, List.set_cons_zero, List.set_cons_succ, true_and, and_true, ↓reduceIte, Int32.reduceLT, Int32.reduceLE, li_10, or_true, true_or, ↓sp_Nodes_has, b2_0, c]
      exact h
    · rw [if_pos c] at h
      refine am_entry hG (by decide +kernel) (Nat.le_of_ble_eq_true rfl) ?_
      refine am_go (cuts := k_Nodes_setAmount) (tb_Nodes_setAmount (ok_Nodes_has hG) (by decide)) 400 _ _ _ _ ?_
      change am_run _ _ _ _ _ _ [some (.ref 3), some (.int x), some (.int v)] [] _
      simp only [r_Nodes_setAmount_0, r_Nodes_setAmount_1, r_Nodes_setAmount_2, r_Nodes_setAmount_5, r_Nodes_setAmount_8, r_Nodes_setAmount_9, r_Nodes_setAmount_12, r_Nodes_setAmount_13, r_Nodes_setAmount_14, r_Nodes_setAmount_15, ai_aload, ai_iload, ai_callv2, am_push, am_few, ai_ifeq, ai_getf, ai_iast, ai_vret, kd_0, fd_0_0, fd_0_1, fd_0_2, fd_0_3, fd_0_4, kd_1, fd_1_0, fd_1_1, ln_2, kd_3, fd_3_0, fd_3_1, fd_3_2, fd_3_3, fd_3_4, fd_3_5, fd_3_6, fd_3_7, fd_3_8, fd_3_9, ln_4, ln_5, ln_6, ln_7, ln_8, ln_9, ln_10, kd_11, fd_11_0, fd_11_1, fd_11_2, fd_11_3, fd_11_4, kd_12, fd_12_0, fd_12_1, fd_12_2, fd_12_3, ln_13, ln_14, ln_15, kd_16, fd_16_0, fd_16_1, fd_16_2, ln_17, kd_18, fd_18_0, fd_18_1, kd_19, fd_19_0, fd_19_1, fd_19_2, fd_19_3, fd_19_4, fd_19_5, fd_19_6, fd_19_7, fd_19_8, fd_19_9, fd_19_10, fd_19_11, fd_19_12, fd_19_13, fd_19_14, fd_19_15, fd_19_16, fd_19_17, fd_19_18, fd_19_19, fd_19_20, ln_20, ln_21, ln_22, ln_23, ln_24, ln_25, ln_26, ln_27, ln_28, ln_29, ln_30, ln_31, ln_32, List.getElem?_cons_zero, List.getElem?_cons_succ, List.set_cons_zero, List.set_cons_succ, true_and, and_true, ↓reduceIte, Int32.reduceLT, Int32.reduceLE, li_10, or_true, true_or, ↓sp_Nodes_has, b2_0, c, Bool.true_eq_false, hasN_in c]
      exact h
  · cases h
def sp_Nodes_setHead : aS := fun as M K => match as with
  | [.ref a, .int x, .int v] => a = 3 ∧ K none (n_set 7 M x v)
  | _ => False
set_option maxRecDepth 100000 in
set_option maxHeartbeats 4000000 in
theorem ok_Nodes_setHead {G : aG} (hG : am_ok G) : am_Sp G Y_Nodes_setHead 1 sp_Nodes_setHead := by
  intro as M K h
  unfold sp_Nodes_setHead at h
  split at h
  · next a x v =>
    obtain ⟨rfl, h⟩ := h
    unfold n_set at h
    cases c : hasN M x
    · rw [c, if_neg (by decide)] at h
      refine am_entry hG (by decide +kernel) (Nat.le_of_ble_eq_true rfl) ?_
      refine am_go (cuts := k_Nodes_setHead) (tb_Nodes_setHead (ok_Nodes_has hG) (by decide)) 400 _ _ _ _ ?_
      change am_run _ _ _ _ _ _ [some (.ref 3), some (.int x), some (.int v)] [] _
      simp only [r_Nodes_setHead_0, r_Nodes_setHead_1, r_Nodes_setHead_2, r_Nodes_setHead_5, r_Nodes_setHead_8, r_Nodes_setHead_9, r_Nodes_setHead_12, r_Nodes_setHead_13, r_Nodes_setHead_14, r_Nodes_setHead_15, ai_aload, ai_iload, ai_callv2, am_push, am_few, ai_ifeq, ai_getf, ai_iast, ai_vret, kd_0, fd_0_0, fd_0_1, fd_0_2, fd_0_3, fd_0_4, kd_1, fd_1_0, fd_1_1, ln_2, kd_3, fd_3_0, fd_3_1, fd_3_2, fd_3_3, fd_3_4, fd_3_5, fd_3_6, fd_3_7, fd_3_8, fd_3_9, ln_4, ln_5, ln_6, ln_7, ln_8, ln_9, ln_10, kd_11, fd_11_0, fd_11_1, fd_11_2, fd_11_3, fd_11_4, kd_12, fd_12_0, fd_12_1, fd_12_2, fd_12_3, ln_13, ln_14, ln_15, kd_16, fd_16_0, fd_16_1, fd_16_2, ln_17, kd_18, fd_18_0, fd_18_1, kd_19, fd_19_0, fd_19_1, fd_19_2, fd_19_3, fd_19_4, fd_19_5, fd_19_6, fd_19_7, fd_19_8, fd_19_9, fd_19_10, fd_19_11, fd_19_12, fd_19_13, fd_19_14, fd_19_15, fd_19_16, fd_19_17, fd_19_18, fd_19_19, fd_19_20, ln_20, ln_21, ln_22, ln_23, ln_24, ln_25, ln_26, ln_27, ln_28, ln_29, ln_30, ln_31, ln_32, List.getElem?_cons_zero, List.getElem?_cons_succ, List.set_cons_zero, List.set_cons_succ, true_and, and_true, ↓reduceIte, Int32.reduceLT, Int32.reduceLE, li_10, or_true, true_or, ↓sp_Nodes_has, b2_0, c]
      exact h
    · rw [if_pos c] at h
      refine am_entry hG (by decide +kernel) (Nat.le_of_ble_eq_true rfl) ?_
      refine am_go (cuts := k_Nodes_setHead) (tb_Nodes_setHead (ok_Nodes_has hG) (by decide)) 400 _ _ _ _ ?_
      change am_run _ _ _ _ _ _ [some (.ref 3), some (.int x), some (.int v)] [] _
      simp only [r_Nodes_setHead_0, r_Nodes_setHead_1, r_Nodes_setHead_2, r_Nodes_setHead_5, r_Nodes_setHead_8, r_Nodes_setHead_9, r_Nodes_setHead_12, r_Nodes_setHead_13, r_Nodes_setHead_14, r_Nodes_setHead_15, ai_aload, ai_iload, ai_callv2, am_push, am_few, ai_ifeq, ai_getf, ai_iast, ai_vret, kd_0, fd_0_0, fd_0_1, fd_0_2, fd_0_3, fd_0_4, kd_1, fd_1_0, fd_1_1, ln_2, kd_3, fd_3_0, fd_3_1, fd_3_2, fd_3_3, fd_3_4, fd_3_5, fd_3_6, fd_3_7, fd_3_8, fd_3_9, ln_4, ln_5, ln_6, ln_7, ln_8, ln_9, ln_10, kd_11, fd_11_0, fd_11_1, fd_11_2, fd_11_3, fd_11_4, kd_12, fd_12_0, fd_12_1, fd_12_2, fd_12_3, ln_13, ln_14, ln_15, kd_16, fd_16_0, fd_16_1, fd_16_2, ln_17, kd_18, fd_18_0, fd_18_1, kd_19, fd_19_0, fd_19_1, fd_19_2, fd_19_3, fd_19_4, fd_19_5, fd_19_6, fd_19_7, fd_19_8, fd_19_9, fd_19_10, fd_19_11, fd_19_12, fd_19_13, fd_19_14, fd_19_15, fd_19_16, fd_19_17, fd_19_18, fd_19_19, fd_19_20, ln_20, ln_21, ln_22, ln_23, ln_24, ln_25, ln_26, ln_27, ln_28, ln_29, ln_30, ln_31, ln_32, List.getElem?_cons_zero, List.getElem?_cons_succ, List.set_cons_zero, List.set_cons_succ, true_and, and_true, ↓reduceIte, Int32.reduceLT, Int32.reduceLE, li_10, or_true, true_or, ↓sp_Nodes_has, b2_0, c, Bool.true_eq_false, hasN_in c]
      exact h
  · cases h
def sp_Nodes_setTail : aS := fun as M K => match as with
  | [.ref a, .int x, .int v] => a = 3 ∧ K none (n_set 8 M x v)
  | _ => False
set_option maxRecDepth 100000 in
set_option maxHeartbeats 4000000 in
theorem ok_Nodes_setTail {G : aG} (hG : am_ok G) : am_Sp G Y_Nodes_setTail 1 sp_Nodes_setTail := by
  intro as M K h
  unfold sp_Nodes_setTail at h
  split at h
  · next a x v =>
    obtain ⟨rfl, h⟩ := h
    unfold n_set at h
    cases c : hasN M x
    · rw [c, if_neg (by decide)] at h
      refine am_entry hG (by decide +kernel) (Nat.le_of_ble_eq_true rfl) ?_
      refine am_go (cuts := k_Nodes_setTail) (tb_Nodes_setTail (ok_Nodes_has hG) (by decide)) 400 _ _ _ _ ?_
      change am_run _ _ _ _ _ _ [some (.ref 3), some (.int x), some (.int v)] [] _
      simp only [r_Nodes_setTail_0, r_Nodes_setTail_1, r_Nodes_setTail_2, r_Nodes_setTail_5, r_Nodes_setTail_8, r_Nodes_setTail_9, r_Nodes_setTail_12, r_Nodes_setTail_13, r_Nodes_setTail_14, r_Nodes_setTail_15, ai_aload, ai_iload, ai_callv2, am_push, am_few, ai_ifeq, ai_getf, ai_iast, ai_vret, kd_0, fd_0_0, fd_0_1, fd_0_2, fd_0_3, fd_0_4, kd_1, fd_1_0, fd_1_1, ln_2, kd_3, fd_3_0, fd_3_1, fd_3_2, fd_3_3, fd_3_4, fd_3_5, fd_3_6, fd_3_7, fd_3_8, fd_3_9, ln_4, ln_5, ln_6, ln_7, ln_8, ln_9, ln_10, kd_11, fd_11_0, fd_11_1, fd_11_2, fd_11_3, fd_11_4, kd_12, fd_12_0, fd_12_1, fd_12_2, fd_12_3, ln_13, ln_14, ln_15, kd_16, fd_16_0, fd_16_1, fd_16_2, ln_17, kd_18, fd_18_0, fd_18_1, kd_19, fd_19_0, fd_19_1, fd_19_2, fd_19_3, fd_19_4, fd_19_5, fd_19_6, fd_19_7, fd_19_8, fd_19_9, fd_19_10, fd_19_11, fd_19_12, fd_19_13, fd_19_14, fd_19_15, fd_19_16, fd_19_17, fd_19_18, fd_19_19, fd_19_20, ln_20, ln_21, ln_22, ln_23, ln_24, ln_25, ln_26, ln_27, ln_28, ln_29, ln_30, ln_31, ln_32, List.getElem?_cons_zero, List.getElem?_cons_succ, List.set_cons_zero, List.set_cons_succ, true_and, and_true, ↓reduceIte, Int32.reduceLT, Int32.reduceLE, li_10, or_true, true_or, ↓sp_Nodes_has, b2_0, c]
      exact h
    · rw [if_pos c] at h
      refine am_entry hG (by decide +kernel) (Nat.le_of_ble_eq_true rfl) ?_
      refine am_go (cuts := k_Nodes_setTail) (tb_Nodes_setTail (ok_Nodes_has hG) (by decide)) 400 _ _ _ _ ?_
      change am_run _ _ _ _ _ _ [some (.ref 3), some (.int x), some (.int v)] [] _
      simp only [r_Nodes_setTail_0, r_Nodes_setTail_1, r_Nodes_setTail_2, r_Nodes_setTail_5, r_Nodes_setTail_8, r_Nodes_setTail_9, r_Nodes_setTail_12, r_Nodes_setTail_13, r_Nodes_setTail_14, r_Nodes_setTail_15, ai_aload, ai_iload, ai_callv2, am_push, am_few, ai_ifeq, ai_getf, ai_iast, ai_vret, kd_0, fd_0_0, fd_0_1, fd_0_2, fd_0_3, fd_0_4, kd_1, fd_1_0, fd_1_1, ln_2, kd_3, fd_3_0, fd_3_1, fd_3_2, fd_3_3, fd_3_4, fd_3_5, fd_3_6, fd_3_7, fd_3_8, fd_3_9, ln_4, ln_5, ln_6, ln_7, ln_8, ln_9, ln_10, kd_11, fd_11_0, fd_11_1, fd_11_2, fd_11_3, fd_11_4, kd_12, fd_12_0, fd_12_1, fd_12_2, fd_12_3, ln_13, ln_14, ln_15, kd_16, fd_16_0, fd_16_1, fd_16_2, ln_17, kd_18, fd_18_0, fd_18_1, kd_19, fd_19_0, fd_19_1, fd_19_2, fd_19_3, fd_19_4, fd_19_5, fd_19_6, fd_19_7, fd_19_8, fd_19_9, fd_19_10, fd_19_11, fd_19_12, fd_19_13, fd_19_14, fd_19_15, fd_19_16, fd_19_17, fd_19_18, fd_19_19, fd_19_20, ln_20, ln_21, ln_22, ln_23, ln_24, ln_25, ln_26, ln_27, ln_28, ln_29, ln_30, ln_31, ln_32, List.getElem?_cons_zero, List.getElem?_cons_succ, List.set_cons_zero, List.set_cons_succ, true_and, and_true, ↓reduceIte, Int32.reduceLT, Int32.reduceLE, li_10, or_true, true_or, ↓sp_Nodes_has, b2_0, c, Bool.true_eq_false, hasN_in c]
      exact h
  · cases h
def n_data (M : aM) (k : Int32) : Int32 := if k < 0 then -1 else if k < M 3 7 then (if k < 200 then M 9 (cl k) else -1) else -1
def sp_Nodes_datumNode : aS := fun as M K => match as with
  | [.ref a, .int k] => a = 3 ∧ K (some (.int (n_data M k))) M
  | _ => False
set_option maxRecDepth 100000 in
set_option maxHeartbeats 4000000 in
theorem ok_Nodes_datumNode {G : aG} (hG : am_ok G) : am_Sp G Y_Nodes_datumNode 0 sp_Nodes_datumNode := by
  intro as M K h
  unfold sp_Nodes_datumNode at h
  split at h
  · next a k =>
    obtain ⟨rfl, h⟩ := h
    refine am_entry hG (by decide +kernel) (Nat.le_of_ble_eq_true rfl) ?_
    refine am_go (cuts := k_Nodes_datumNode) tb_Nodes_datumNode 400 _ _ _ _ ?_
    change am_run _ _ _ _ _ _ [some (.ref 3), some (.int k)] [] _
    simp only [r_Nodes_datumNode_0, r_Nodes_datumNode_1, r_Nodes_datumNode_4, r_Nodes_datumNode_5, r_Nodes_datumNode_6, r_Nodes_datumNode_9, r_Nodes_datumNode_12, r_Nodes_datumNode_13, r_Nodes_datumNode_16, r_Nodes_datumNode_19, r_Nodes_datumNode_20, r_Nodes_datumNode_23, r_Nodes_datumNode_24, r_Nodes_datumNode_25, r_Nodes_datumNode_28, r_Nodes_datumNode_29, ai_iload, ai_iflt, ai_aload, ai_getf, ai_cmpge, ai_const, ai_iald, ai_goto, ai_iret, kd_0, fd_0_0, fd_0_1, fd_0_2, fd_0_3, fd_0_4, kd_1, fd_1_0, fd_1_1, ln_2, kd_3, fd_3_0, fd_3_1, fd_3_2, fd_3_3, fd_3_4, fd_3_5, fd_3_6, fd_3_7, fd_3_8, fd_3_9, ln_4, ln_5, ln_6, ln_7, ln_8, ln_9, ln_10, kd_11, fd_11_0, fd_11_1, fd_11_2, fd_11_3, fd_11_4, kd_12, fd_12_0, fd_12_1, fd_12_2, fd_12_3, ln_13, ln_14, ln_15, kd_16, fd_16_0, fd_16_1, fd_16_2, ln_17, kd_18, fd_18_0, fd_18_1, kd_19, fd_19_0, fd_19_1, fd_19_2, fd_19_3, fd_19_4, fd_19_5, fd_19_6, fd_19_7, fd_19_8, fd_19_9, fd_19_10, fd_19_11, fd_19_12, fd_19_13, fd_19_14, fd_19_15, fd_19_16, fd_19_17, fd_19_18, fd_19_19, fd_19_20, ln_20, ln_21, ln_22, ln_23, ln_24, ln_25, ln_26, ln_27, ln_28, ln_29, ln_30, ln_31, ln_32, List.getElem?_cons_zero, List.getElem?_cons_succ, List.set_cons_zero, List.set_cons_succ, true_and, and_true, ↓reduceIte, Int32.reduceLT, Int32.reduceLE, li_10, or_true, true_or]
    unfold n_data at h
    by_cases c1 : k < 0
    · simp only [c1, ↓reduceIte] at h ⊢; exact h
    by_cases c2 : k < M 3 7
    · by_cases c3 : k < 200
      · have c4 : vp_in k 200 := vin_lt c1 c3 (by decide)
        simp only [c1, c2, c3, c4, ↓reduceIte, true_and] at h ⊢; exact h
      · simp only [c1, c2, c3, ↓reduceIte] at h ⊢; exact h
    · simp only [c1, c2, ↓reduceIte] at h ⊢; exact h
  · cases h
def n_kind (M : aM) (x : Int32) : Int32 := if hasN M x = true then M 4 (cl x) else 0
def sp_Nodes_kindOf : aS := fun as M K => match as with
  | [.ref a, .int x] => a = 3 ∧ K (some (.int (n_kind M x))) M
  | _ => False
set_option maxRecDepth 100000 in
set_option maxHeartbeats 4000000 in
theorem ok_Nodes_kindOf {G : aG} (hG : am_ok G) : am_Sp G Y_Nodes_kindOf 1 sp_Nodes_kindOf := by
  intro as M K h
  unfold sp_Nodes_kindOf at h
  split at h
  · next a x =>
    obtain ⟨rfl, h⟩ := h
    unfold n_kind at h
    cases c : hasN M x
    · rw [c, if_neg (by decide)] at h
      refine am_entry hG (by decide +kernel) (Nat.le_of_ble_eq_true rfl) ?_
      refine am_go (cuts := k_Nodes_kindOf) (tb_Nodes_kindOf (ok_Nodes_has hG) (by decide)) 400 _ _ _ _ ?_
      change am_run _ _ _ _ _ _ [some (.ref 3), some (.int x)] [] _
      simp only [r_Nodes_kindOf_0, r_Nodes_kindOf_1, r_Nodes_kindOf_2, r_Nodes_kindOf_5, r_Nodes_kindOf_8, r_Nodes_kindOf_9, r_Nodes_kindOf_12, r_Nodes_kindOf_13, r_Nodes_kindOf_14, r_Nodes_kindOf_17, r_Nodes_kindOf_18, ai_aload, ai_iload, ai_callv2, am_push, am_few, ai_ifeq, ai_getf, ai_iald, ai_goto, ai_const, ai_iret, kd_0, fd_0_0, fd_0_1, fd_0_2, fd_0_3, fd_0_4, kd_1, fd_1_0, fd_1_1, ln_2, kd_3, fd_3_0, fd_3_1, fd_3_2, fd_3_3, fd_3_4, fd_3_5, fd_3_6, fd_3_7, fd_3_8, fd_3_9, ln_4, ln_5, ln_6, ln_7, ln_8, ln_9, ln_10, kd_11, fd_11_0, fd_11_1, fd_11_2, fd_11_3, fd_11_4, kd_12, fd_12_0, fd_12_1, fd_12_2, fd_12_3, ln_13, ln_14, ln_15, kd_16, fd_16_0, fd_16_1, fd_16_2, ln_17, kd_18, fd_18_0, fd_18_1, kd_19, fd_19_0, fd_19_1, fd_19_2, fd_19_3, fd_19_4, fd_19_5, fd_19_6, fd_19_7, fd_19_8, fd_19_9, fd_19_10, fd_19_11, fd_19_12, fd_19_13, fd_19_14, fd_19_15, fd_19_16, fd_19_17, fd_19_18, fd_19_19, fd_19_20, ln_20, ln_21, ln_22, ln_23, ln_24, ln_25, ln_26, ln_27, ln_28, ln_29, ln_30, ln_31, ln_32, List.getElem?_cons_zero, List.getElem?_cons_succ, List.set_cons_zero, List.set_cons_succ, true_and, and_true, ↓reduceIte, Int32.reduceLT, Int32.reduceLE, li_10, or_true, true_or, ↓sp_Nodes_has, b2_0, c]
      exact h
    · rw [if_pos c] at h
      refine am_entry hG (by decide +kernel) (Nat.le_of_ble_eq_true rfl) ?_
      refine am_go (cuts := k_Nodes_kindOf) (tb_Nodes_kindOf (ok_Nodes_has hG) (by decide)) 400 _ _ _ _ ?_
      change am_run _ _ _ _ _ _ [some (.ref 3), some (.int x)] [] _
      simp only [r_Nodes_kindOf_0, r_Nodes_kindOf_1, r_Nodes_kindOf_2, r_Nodes_kindOf_5, r_Nodes_kindOf_8, r_Nodes_kindOf_9, r_Nodes_kindOf_12, r_Nodes_kindOf_13, r_Nodes_kindOf_14, r_Nodes_kindOf_17, r_Nodes_kindOf_18, ai_aload, ai_iload, ai_callv2, am_push, am_few, ai_ifeq, ai_getf, ai_iald, ai_goto, ai_const, ai_iret, kd_0, fd_0_0, fd_0_1, fd_0_2, fd_0_3, fd_0_4, kd_1, fd_1_0, fd_1_1, ln_2, kd_3, fd_3_0, fd_3_1, fd_3_2, fd_3_3, fd_3_4, fd_3_5, fd_3_6, fd_3_7, fd_3_8, fd_3_9, ln_4, ln_5, ln_6, ln_7, ln_8, ln_9, ln_10, kd_11, fd_11_0, fd_11_1, fd_11_2, fd_11_3, fd_11_4, kd_12, fd_12_0, fd_12_1, fd_12_2, fd_12_3, ln_13, ln_14, ln_15, kd_16, fd_16_0, fd_16_1, fd_16_2, ln_17, kd_18, fd_18_0, fd_18_1, kd_19, fd_19_0, fd_19_1, fd_19_2, fd_19_3, fd_19_4, fd_19_5, fd_19_6, fd_19_7, fd_19_8, fd_19_9, fd_19_10, fd_19_11, fd_19_12, fd_19_13, fd_19_14, fd_19_15, fd_19_16, fd_19_17, fd_19_18, fd_19_19, fd_19_20, ln_20, ln_21, ln_22, ln_23, ln_24, ln_25, ln_26, ln_27, ln_28, ln_29, ln_30, ln_31, ln_32, List.getElem?_cons_zero, List.getElem?_cons_succ, List.set_cons_zero, List.set_cons_succ, true_and, and_true, ↓reduceIte, Int32.reduceLT, Int32.reduceLE, li_10, or_true, true_or, ↓sp_Nodes_has, b2_0, c, Bool.true_eq_false, hasN_in c]
      exact h
  · cases h
def n_amt (M : aM) (x : Int32) : Int32 := if hasN M x = true then M 5 (cl x) else 0
def sp_Nodes_amountOf : aS := fun as M K => match as with
  | [.ref a, .int x] => a = 3 ∧ K (some (.int (n_amt M x))) M
  | _ => False
set_option maxRecDepth 100000 in
set_option maxHeartbeats 4000000 in
theorem ok_Nodes_amountOf {G : aG} (hG : am_ok G) : am_Sp G Y_Nodes_amountOf 1 sp_Nodes_amountOf := by
  intro as M K h
  unfold sp_Nodes_amountOf at h
  split at h
  · next a x =>
    obtain ⟨rfl, h⟩ := h
    unfold n_amt at h
    cases c : hasN M x
    · rw [c, if_neg (by decide)] at h
      refine am_entry hG (by decide +kernel) (Nat.le_of_ble_eq_true rfl) ?_
      refine am_go (cuts := k_Nodes_amountOf) (tb_Nodes_amountOf (ok_Nodes_has hG) (by decide)) 400 _ _ _ _ ?_
      change am_run _ _ _ _ _ _ [some (.ref 3), some (.int x)] [] _
      simp only [r_Nodes_amountOf_0, r_Nodes_amountOf_1, r_Nodes_amountOf_2, r_Nodes_amountOf_5, r_Nodes_amountOf_8, r_Nodes_amountOf_9, r_Nodes_amountOf_12, r_Nodes_amountOf_13, r_Nodes_amountOf_14, r_Nodes_amountOf_17, r_Nodes_amountOf_18, ai_aload, ai_iload, ai_callv2, am_push, am_few, ai_ifeq, ai_getf, ai_iald, ai_goto, ai_const, ai_iret, kd_0, fd_0_0, fd_0_1, fd_0_2, fd_0_3, fd_0_4, kd_1, fd_1_0, fd_1_1, ln_2, kd_3, fd_3_0, fd_3_1, fd_3_2, fd_3_3, fd_3_4, fd_3_5, fd_3_6, fd_3_7, fd_3_8, fd_3_9, ln_4, ln_5, ln_6, ln_7, ln_8, ln_9, ln_10, kd_11, fd_11_0, fd_11_1, fd_11_2, fd_11_3, fd_11_4, kd_12, fd_12_0, fd_12_1, fd_12_2, fd_12_3, ln_13, ln_14, ln_15, kd_16, fd_16_0, fd_16_1, fd_16_2, ln_17, kd_18, fd_18_0, fd_18_1, kd_19, fd_19_0, fd_19_1, fd_19_2, fd_19_3, fd_19_4, fd_19_5, fd_19_6, fd_19_7, fd_19_8, fd_19_9, fd_19_10, fd_19_11, fd_19_12, fd_19_13, fd_19_14, fd_19_15, fd_19_16, fd_19_17, fd_19_18, fd_19_19, fd_19_20, ln_20, ln_21, ln_22, ln_23, ln_24, ln_25, ln_26, ln_27, ln_28, ln_29, ln_30, ln_31, ln_32, List.getElem?_cons_zero, List.getElem?_cons_succ, List.set_cons_zero, List.set_cons_succ, true_and, and_true, ↓reduceIte, Int32.reduceLT, Int32.reduceLE, li_10, or_true, true_or, ↓sp_Nodes_has, b2_0, c]
      exact h
    · rw [if_pos c] at h
      refine am_entry hG (by decide +kernel) (Nat.le_of_ble_eq_true rfl) ?_
      refine am_go (cuts := k_Nodes_amountOf) (tb_Nodes_amountOf (ok_Nodes_has hG) (by decide)) 400 _ _ _ _ ?_
      change am_run _ _ _ _ _ _ [some (.ref 3), some (.int x)] [] _
      simp only [r_Nodes_amountOf_0, r_Nodes_amountOf_1, r_Nodes_amountOf_2, r_Nodes_amountOf_5, r_Nodes_amountOf_8, r_Nodes_amountOf_9, r_Nodes_amountOf_12, r_Nodes_amountOf_13, r_Nodes_amountOf_14, r_Nodes_amountOf_17, r_Nodes_amountOf_18, ai_aload, ai_iload, ai_callv2, am_push, am_few, ai_ifeq, ai_getf, ai_iald, ai_goto, ai_const, ai_iret, kd_0, fd_0_0, fd_0_1, fd_0_2, fd_0_3, fd_0_4, kd_1, fd_1_0, fd_1_1, ln_2, kd_3, fd_3_0, fd_3_1, fd_3_2, fd_3_3, fd_3_4, fd_3_5, fd_3_6, fd_3_7, fd_3_8, fd_3_9, ln_4, ln_5, ln_6, ln_7, ln_8, ln_9, ln_10, kd_11, fd_11_0, fd_11_1, fd_11_2, fd_11_3, fd_11_4, kd_12, fd_12_0, fd_12_1, fd_12_2, fd_12_3, ln_13, ln_14, ln_15, kd_16, fd_16_0, fd_16_1, fd_16_2, ln_17, kd_18, fd_18_0, fd_18_1, kd_19, fd_19_0, fd_19_1, fd_19_2, fd_19_3, fd_19_4, fd_19_5, fd_19_6, fd_19_7, fd_19_8, fd_19_9, fd_19_10, fd_19_11, fd_19_12, fd_19_13, fd_19_14, fd_19_15, fd_19_16, fd_19_17, fd_19_18, fd_19_19, fd_19_20, ln_20, ln_21, ln_22, ln_23, ln_24, ln_25, ln_26, ln_27, ln_28, ln_29, ln_30, ln_31, ln_32, List.getElem?_cons_zero, List.getElem?_cons_succ, List.set_cons_zero, List.set_cons_succ, true_and, and_true, ↓reduceIte, Int32.reduceLT, Int32.reduceLE, li_10, or_true, true_or, ↓sp_Nodes_has, b2_0, c, Bool.true_eq_false, hasN_in c]
      exact h
  · cases h
theorem isN_in {M : aM} {x k : Int32} (h : isN M x k = true) : vp_in x 200 := by
  unfold isN at h
  rw [Bool.and_eq_true] at h
  exact hasN_in h.1
def n_byte (M : aM) (x k : Int32) : Int32 := if (isN M x 2 || isN M x 3) = true then (if k < 0 then -1 else if k < M 5 (cl x) then (if M 6 (cl x) + k < 0 then -1 else if M 6 (cl x) + k < 405 then M 10 (cl (M 6 (cl x) + k)) else -1) else -1) else -1
def sp_Nodes_byteOf : aS := fun as M K => match as with
  | [.ref a, .int x, .int k] => a = 3 ∧ K (some (.int (n_byte M x k))) M
  | _ => False
set_option maxRecDepth 100000 in
set_option maxHeartbeats 4000000 in
theorem ok_Nodes_byteOf {G : aG} (hG : am_ok G) : am_Sp G Y_Nodes_byteOf 1 sp_Nodes_byteOf := by
  intro as M K h
  unfold sp_Nodes_byteOf at h
  split at h
  · next a x k =>
    obtain ⟨rfl, h⟩ := h
    unfold n_byte at h
    refine am_entry hG (by decide +kernel) (Nat.le_of_ble_eq_true rfl) ?_
    refine am_go (cuts := k_Nodes_byteOf) (tb_Nodes_byteOf (ok_Nodes_isOf hG) (by decide)) 400 _ _ _ _ ?_
    change am_run _ _ _ _ _ _ [some (.ref 3), some (.int x), some (.int k), none] [] _
    simp only [r_Nodes_byteOf_0, r_Nodes_byteOf_1, r_Nodes_byteOf_2, r_Nodes_byteOf_3, r_Nodes_byteOf_6, r_Nodes_byteOf_9, r_Nodes_byteOf_10, r_Nodes_byteOf_11, r_Nodes_byteOf_12, r_Nodes_byteOf_15, r_Nodes_byteOf_18, r_Nodes_byteOf_19, r_Nodes_byteOf_22, r_Nodes_byteOf_23, r_Nodes_byteOf_24, r_Nodes_byteOf_27, r_Nodes_byteOf_28, r_Nodes_byteOf_29, r_Nodes_byteOf_32, r_Nodes_byteOf_33, r_Nodes_byteOf_34, r_Nodes_byteOf_35, r_Nodes_byteOf_38, r_Nodes_byteOf_39, r_Nodes_byteOf_40, r_Nodes_byteOf_41, r_Nodes_byteOf_42, r_Nodes_byteOf_43, r_Nodes_byteOf_44, r_Nodes_byteOf_47, r_Nodes_byteOf_48, r_Nodes_byteOf_49, r_Nodes_byteOf_52, r_Nodes_byteOf_53, r_Nodes_byteOf_56, r_Nodes_byteOf_57, r_Nodes_byteOf_60, r_Nodes_byteOf_61, r_Nodes_byteOf_62, r_Nodes_byteOf_65, r_Nodes_byteOf_66, ai_aload, ai_iload, ai_const, ai_callv3, am_push, am_few, ai_ifne, ai_ifeq, ai_iflt, ai_getf, ai_iald, ai_cmplt, ai_iret, ai_iadd, ai_bin, ai_istore, am_cut_0, am_cut_s, am_c1, ai_alen, ai_cmpge, ai_goto, kd_0, fd_0_0, fd_0_1, fd_0_2, fd_0_3, fd_0_4, kd_1, fd_1_0, fd_1_1, ln_2, kd_3, fd_3_0, fd_3_1, fd_3_2, fd_3_3, fd_3_4, fd_3_5, fd_3_6, fd_3_7, fd_3_8, fd_3_9, ln_4, ln_5, ln_6, ln_7, ln_8, ln_9, ln_10, kd_11, fd_11_0, fd_11_1, fd_11_2, fd_11_3, fd_11_4, kd_12, fd_12_0, fd_12_1, fd_12_2, fd_12_3, ln_13, ln_14, ln_15, kd_16, fd_16_0, fd_16_1, fd_16_2, ln_17, kd_18, fd_18_0, fd_18_1, kd_19, fd_19_0, fd_19_1, fd_19_2, fd_19_3, fd_19_4, fd_19_5, fd_19_6, fd_19_7, fd_19_8, fd_19_9, fd_19_10, fd_19_11, fd_19_12, fd_19_13, fd_19_14, fd_19_15, fd_19_16, fd_19_17, fd_19_18, fd_19_19, fd_19_20, ln_20, ln_21, ln_22, ln_23, ln_24, ln_25, ln_26, ln_27, ln_28, ln_29, ln_30, ln_31, ln_32, List.getElem?_cons_zero, List.getElem?_cons_succ, List.set_cons_zero, List.set_cons_succ, true_and, and_true, ↓reduceIte, Int32.reduceLT, Int32.reduceLE, li_10, or_true, true_or, ↓sp_Nodes_isOf, b2_0]
    have key : vp_in x 200 → K (some (.int (if k < 0 then -1 else if k < M 5 (cl x) then (if M 6 (cl x) + k < 0 then -1 else if M 6 (cl x) + k < 405 then M 10 (cl (M 6 (cl x) + k)) else -1) else -1))) M → (if k < 0 then K (some (.int (-1))) M else vp_in x 200 ∧ (if k < M 5 (cl x) then vp_in x 200 ∧ (if M 6 (cl x) + k < 0 then K (some (.int (-1))) M else if M 6 (cl x) + k < Int32.ofNat 405 then vp_in (M 6 (cl x) + k) 405 ∧ K (some (.int (M 10 (cl (M 6 (cl x) + k))))) M else K (some (.int (-1))) M) else K (some (.int (-1))) M)) := by
      intro hx hk
      by_cases c1 : k < 0
      · simp only [c1, ↓reduceIte] at hk ⊢; exact hk
      · simp only [c1, ↓reduceIte] at hk ⊢
        refine ⟨hx, ?_⟩
        by_cases c2 : k < M 5 (cl x)
        · simp only [c2, ↓reduceIte] at hk ⊢
          refine ⟨hx, ?_⟩
          by_cases c3 : M 6 (cl x) + k < 0
          · simp only [c3, ↓reduceIte] at hk ⊢; exact hk
          · simp only [c3, ↓reduceIte] at hk ⊢
            by_cases c4 : M 6 (cl x) + k < 405
            · simp only [c4, ↓reduceIte] at hk
              rw [if_pos (show M 6 (cl x) + k < Int32.ofNat 405 from c4)]
              exact ⟨vin_lt c3 c4 (by decide), hk⟩
            · simp only [c4, ↓reduceIte] at hk
              rw [if_neg (show ¬ M 6 (cl x) + k < Int32.ofNat 405 from c4)]
              exact hk
        · simp only [c2, ↓reduceIte] at hk ⊢; exact hk
    cases c2 : isN M x 2
    · cases c3 : isN M x 3
      · simp only [c2, c3, Bool.or_false, Bool.false_eq_true, ↓reduceIte] at h ⊢; exact h
      · simp only [c2, c3, Bool.or_true, Bool.true_eq_false, ↓reduceIte] at h ⊢
        exact key (isN_in c3) h
    · simp only [c2, Bool.true_or, Bool.true_eq_false, ↓reduceIte] at h ⊢
      exact key (isN_in c2) h
  · cases h
def n_head (M : aM) (x : Int32) : Int32 := if isN M x 4 = true then M 7 (cl x) else -1
def sp_Nodes_headOf : aS := fun as M K => match as with
  | [.ref a, .int x] => a = 3 ∧ K (some (.int (n_head M x))) M
  | _ => False
set_option maxRecDepth 100000 in
set_option maxHeartbeats 4000000 in
theorem ok_Nodes_headOf {G : aG} (hG : am_ok G) : am_Sp G Y_Nodes_headOf 1 sp_Nodes_headOf := by
  intro as M K h
  unfold sp_Nodes_headOf at h
  split at h
  · next a x =>
    obtain ⟨rfl, h⟩ := h
    unfold n_head at h
    cases c : isN M x 4
    · rw [c, if_neg (by decide)] at h
      refine am_entry hG (by decide +kernel) (Nat.le_of_ble_eq_true rfl) ?_
      refine am_go (cuts := k_Nodes_headOf) (tb_Nodes_headOf (ok_Nodes_isOf hG) (by decide)) 400 _ _ _ _ ?_
      change am_run _ _ _ _ _ _ [some (.ref 3), some (.int x)] [] _
      simp only [r_Nodes_headOf_0, r_Nodes_headOf_1, r_Nodes_headOf_2, r_Nodes_headOf_3, r_Nodes_headOf_6, r_Nodes_headOf_9, r_Nodes_headOf_10, r_Nodes_headOf_13, r_Nodes_headOf_14, r_Nodes_headOf_15, r_Nodes_headOf_18, r_Nodes_headOf_19, ai_aload, ai_iload, ai_const, ai_callv3, am_push, am_few, ai_ifeq, ai_getf, ai_iald, ai_goto, ai_iret, kd_0, fd_0_0, fd_0_1, fd_0_2, fd_0_3, fd_0_4, kd_1, fd_1_0, fd_1_1, ln_2, kd_3, fd_3_0, fd_3_1, fd_3_2, fd_3_3, fd_3_4, fd_3_5, fd_3_6, fd_3_7, fd_3_8, fd_3_9, ln_4, ln_5, ln_6, ln_7, ln_8, ln_9, ln_10, kd_11, fd_11_0, fd_11_1, fd_11_2, fd_11_3, fd_11_4, kd_12, fd_12_0, fd_12_1, fd_12_2, fd_12_3, ln_13, ln_14, ln_15, kd_16, fd_16_0, fd_16_1, fd_16_2, ln_17, kd_18, fd_18_0, fd_18_1, kd_19, fd_19_0, fd_19_1, fd_19_2, fd_19_3, fd_19_4, fd_19_5, fd_19_6, fd_19_7, fd_19_8, fd_19_9, fd_19_10, fd_19_11, fd_19_12, fd_19_13, fd_19_14, fd_19_15, fd_19_16, fd_19_17, fd_19_18, fd_19_19, fd_19_20, ln_20, ln_21, ln_22, ln_23, ln_24, ln_25, ln_26, ln_27, ln_28, ln_29, ln_30, ln_31, ln_32, List.getElem?_cons_zero, List.getElem?_cons_succ, List.set_cons_zero, List.set_cons_succ, true_and, and_true, ↓reduceIte, Int32.reduceLT, Int32.reduceLE, li_10, or_true, true_or, ↓sp_Nodes_isOf, b2_0, c]
      exact h
    · rw [if_pos c] at h
      refine am_entry hG (by decide +kernel) (Nat.le_of_ble_eq_true rfl) ?_
      refine am_go (cuts := k_Nodes_headOf) (tb_Nodes_headOf (ok_Nodes_isOf hG) (by decide)) 400 _ _ _ _ ?_
      change am_run _ _ _ _ _ _ [some (.ref 3), some (.int x)] [] _
      simp only [r_Nodes_headOf_0, r_Nodes_headOf_1, r_Nodes_headOf_2, r_Nodes_headOf_3, r_Nodes_headOf_6, r_Nodes_headOf_9, r_Nodes_headOf_10, r_Nodes_headOf_13, r_Nodes_headOf_14, r_Nodes_headOf_15, r_Nodes_headOf_18, r_Nodes_headOf_19, ai_aload, ai_iload, ai_const, ai_callv3, am_push, am_few, ai_ifeq, ai_getf, ai_iald, ai_goto, ai_iret, kd_0, fd_0_0, fd_0_1, fd_0_2, fd_0_3, fd_0_4, kd_1, fd_1_0, fd_1_1, ln_2, kd_3, fd_3_0, fd_3_1, fd_3_2, fd_3_3, fd_3_4, fd_3_5, fd_3_6, fd_3_7, fd_3_8, fd_3_9, ln_4, ln_5, ln_6, ln_7, ln_8, ln_9, ln_10, kd_11, fd_11_0, fd_11_1, fd_11_2, fd_11_3, fd_11_4, kd_12, fd_12_0, fd_12_1, fd_12_2, fd_12_3, ln_13, ln_14, ln_15, kd_16, fd_16_0, fd_16_1, fd_16_2, ln_17, kd_18, fd_18_0, fd_18_1, kd_19, fd_19_0, fd_19_1, fd_19_2, fd_19_3, fd_19_4, fd_19_5, fd_19_6, fd_19_7, fd_19_8, fd_19_9, fd_19_10, fd_19_11, fd_19_12, fd_19_13, fd_19_14, fd_19_15, fd_19_16, fd_19_17, fd_19_18, fd_19_19, fd_19_20, ln_20, ln_21, ln_22, ln_23, ln_24, ln_25, ln_26, ln_27, ln_28, ln_29, ln_30, ln_31, ln_32, List.getElem?_cons_zero, List.getElem?_cons_succ, List.set_cons_zero, List.set_cons_succ, true_and, and_true, ↓reduceIte, Int32.reduceLT, Int32.reduceLE, li_10, or_true, true_or, ↓sp_Nodes_isOf, b2_0, c, Bool.true_eq_false, isN_in c]
      exact h
  · cases h
def n_tail (M : aM) (x : Int32) : Int32 := if isN M x 4 = true then M 8 (cl x) else -1
def sp_Nodes_tailOf : aS := fun as M K => match as with
  | [.ref a, .int x] => a = 3 ∧ K (some (.int (n_tail M x))) M
  | _ => False
set_option maxRecDepth 100000 in
set_option maxHeartbeats 4000000 in
theorem ok_Nodes_tailOf {G : aG} (hG : am_ok G) : am_Sp G Y_Nodes_tailOf 1 sp_Nodes_tailOf := by
  intro as M K h
  unfold sp_Nodes_tailOf at h
  split at h
  · next a x =>
    obtain ⟨rfl, h⟩ := h
    unfold n_tail at h
    cases c : isN M x 4
    · rw [c, if_neg (by decide)] at h
      refine am_entry hG (by decide +kernel) (Nat.le_of_ble_eq_true rfl) ?_
      refine am_go (cuts := k_Nodes_tailOf) (tb_Nodes_tailOf (ok_Nodes_isOf hG) (by decide)) 400 _ _ _ _ ?_
      change am_run _ _ _ _ _ _ [some (.ref 3), some (.int x)] [] _
      simp only [r_Nodes_tailOf_0, r_Nodes_tailOf_1, r_Nodes_tailOf_2, r_Nodes_tailOf_3, r_Nodes_tailOf_6, r_Nodes_tailOf_9, r_Nodes_tailOf_10, r_Nodes_tailOf_13, r_Nodes_tailOf_14, r_Nodes_tailOf_15, r_Nodes_tailOf_18, r_Nodes_tailOf_19, ai_aload, ai_iload, ai_const, ai_callv3, am_push, am_few, ai_ifeq, ai_getf, ai_iald, ai_goto, ai_iret, kd_0, fd_0_0, fd_0_1, fd_0_2, fd_0_3, fd_0_4, kd_1, fd_1_0, fd_1_1, ln_2, kd_3, fd_3_0, fd_3_1, fd_3_2, fd_3_3, fd_3_4, fd_3_5, fd_3_6, fd_3_7, fd_3_8, fd_3_9, ln_4, ln_5, ln_6, ln_7, ln_8, ln_9, ln_10, kd_11, fd_11_0, fd_11_1, fd_11_2, fd_11_3, fd_11_4, kd_12, fd_12_0, fd_12_1, fd_12_2, fd_12_3, ln_13, ln_14, ln_15, kd_16, fd_16_0, fd_16_1, fd_16_2, ln_17, kd_18, fd_18_0, fd_18_1, kd_19, fd_19_0, fd_19_1, fd_19_2, fd_19_3, fd_19_4, fd_19_5, fd_19_6, fd_19_7, fd_19_8, fd_19_9, fd_19_10, fd_19_11, fd_19_12, fd_19_13, fd_19_14, fd_19_15, fd_19_16, fd_19_17, fd_19_18, fd_19_19, fd_19_20, ln_20, ln_21, ln_22, ln_23, ln_24, ln_25, ln_26, ln_27, ln_28, ln_29, ln_30, ln_31, ln_32, List.getElem?_cons_zero, List.getElem?_cons_succ, List.set_cons_zero, List.set_cons_succ, true_and, and_true, ↓reduceIte, Int32.reduceLT, Int32.reduceLE, li_10, or_true, true_or, ↓sp_Nodes_isOf, b2_0, c]
      exact h
    · rw [if_pos c] at h
      refine am_entry hG (by decide +kernel) (Nat.le_of_ble_eq_true rfl) ?_
      refine am_go (cuts := k_Nodes_tailOf) (tb_Nodes_tailOf (ok_Nodes_isOf hG) (by decide)) 400 _ _ _ _ ?_
      change am_run _ _ _ _ _ _ [some (.ref 3), some (.int x)] [] _
      simp only [r_Nodes_tailOf_0, r_Nodes_tailOf_1, r_Nodes_tailOf_2, r_Nodes_tailOf_3, r_Nodes_tailOf_6, r_Nodes_tailOf_9, r_Nodes_tailOf_10, r_Nodes_tailOf_13, r_Nodes_tailOf_14, r_Nodes_tailOf_15, r_Nodes_tailOf_18, r_Nodes_tailOf_19, ai_aload, ai_iload, ai_const, ai_callv3, am_push, am_few, ai_ifeq, ai_getf, ai_iald, ai_goto, ai_iret, kd_0, fd_0_0, fd_0_1, fd_0_2, fd_0_3, fd_0_4, kd_1, fd_1_0, fd_1_1, ln_2, kd_3, fd_3_0, fd_3_1, fd_3_2, fd_3_3, fd_3_4, fd_3_5, fd_3_6, fd_3_7, fd_3_8, fd_3_9, ln_4, ln_5, ln_6, ln_7, ln_8, ln_9, ln_10, kd_11, fd_11_0, fd_11_1, fd_11_2, fd_11_3, fd_11_4, kd_12, fd_12_0, fd_12_1, fd_12_2, fd_12_3, ln_13, ln_14, ln_15, kd_16, fd_16_0, fd_16_1, fd_16_2, ln_17, kd_18, fd_18_0, fd_18_1, kd_19, fd_19_0, fd_19_1, fd_19_2, fd_19_3, fd_19_4, fd_19_5, fd_19_6, fd_19_7, fd_19_8, fd_19_9, fd_19_10, fd_19_11, fd_19_12, fd_19_13, fd_19_14, fd_19_15, fd_19_16, fd_19_17, fd_19_18, fd_19_19, fd_19_20, ln_20, ln_21, ln_22, ln_23, ln_24, ln_25, ln_26, ln_27, ln_28, ln_29, ln_30, ln_31, ln_32, List.getElem?_cons_zero, List.getElem?_cons_succ, List.set_cons_zero, List.set_cons_succ, true_and, and_true, ↓reduceIte, Int32.reduceLT, Int32.reduceLE, li_10, or_true, true_or, ↓sp_Nodes_isOf, b2_0, c, Bool.true_eq_false, isN_in c]
      exact h
  · cases h
