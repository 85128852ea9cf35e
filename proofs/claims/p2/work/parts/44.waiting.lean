/-! WHAT WAITS: a ring -/
def wf (M : aM) : Nat := cl (M 16 1)
def ww (M : aM) : Nat := cl (M 16 2)
def wt_ok (M : aM) : Prop := M 16 1 = nI (wf M) ∧ wf M < 500 ∧ M 16 2 = nI (ww M) ∧ ww M ≤ 500
def wix (M : aM) (k : Nat) : Nat := if wf M + k < 500 then wf M + k else wf M + k - 500
def sayM (M : aM) (b : Int32) : aM := if ww M = 500 then M else am_up (am_up M 17 (wix M (ww M)) b) 16 2 (nI (ww M + 1))
def sp_Waiting_append : aS := fun as M K => match as with
  | [.ref a, .int b] => a = 16 ∧ wt_ok M ∧ K none (sayM M b)
  | _ => False
set_option maxRecDepth 100000 in
set_option maxHeartbeats 4000000 in
theorem ok_Waiting_append {G : aG} (hG : am_ok G) : am_Sp G Y_Waiting_append 0 sp_Waiting_append := by
  intro as M K h
  unfold sp_Waiting_append at h
  split at h
  · next a b =>
    obtain ⟨rfl, ⟨h1, h2, h3, h4⟩, h⟩ := h
    unfold sayM at h
    by_cases c : ww M = 500
    · have e1 : ¬ M 16 2 < 500 := by rw [h3]; exact nI_nlt (b := 500) (a := ww M) (by omega) (by omega)
      refine am_entry hG (by decide +kernel) (Nat.le_of_ble_eq_true rfl) ?_
      refine am_go (cuts := k_Waiting_append) tb_Waiting_append 400 _ _ _ _ ?_
      change am_run _ _ _ _ _ _ [some (.ref 16), some (.int b), none] [] _
      simp only [r_Waiting_append_0, r_Waiting_append_1, r_Waiting_append_4, r_Waiting_append_7, r_Waiting_append_10, r_Waiting_append_11, r_Waiting_append_12, r_Waiting_append_15, r_Waiting_append_16, r_Waiting_append_19, r_Waiting_append_20, r_Waiting_append_23, r_Waiting_append_26, r_Waiting_append_27, r_Waiting_append_30, r_Waiting_append_31, r_Waiting_append_34, r_Waiting_append_35, r_Waiting_append_38, r_Waiting_append_39, r_Waiting_append_42, r_Waiting_append_43, r_Waiting_append_46, r_Waiting_append_47, r_Waiting_append_50, r_Waiting_append_51, r_Waiting_append_52, r_Waiting_append_53, r_Waiting_append_56, r_Waiting_append_57, r_Waiting_append_60, r_Waiting_append_63, r_Waiting_append_64, r_Waiting_append_67, r_Waiting_append_68, r_Waiting_append_69, r_Waiting_append_70, r_Waiting_append_71, r_Waiting_append_72, r_Waiting_append_75, r_Waiting_append_76, r_Waiting_append_77, r_Waiting_append_80, ai_aload, ai_getf, ai_const, ai_cmplt, ai_vret, ai_iadd, ai_bin, ai_cmpge, ai_goto, ai_isub, ai_istore, am_cut_0, am_cut_s, am_c1, ai_iload, ai_iflt, ai_iast, ai_dup, ai_putf, kd_0, fd_0_0, fd_0_1, fd_0_2, fd_0_3, fd_0_4, kd_1, fd_1_0, fd_1_1, ln_2, kd_3, fd_3_0, fd_3_1, fd_3_2, fd_3_3, fd_3_4, fd_3_5, fd_3_6, fd_3_7, fd_3_8, fd_3_9, ln_4, ln_5, ln_6, ln_7, ln_8, ln_9, ln_10, kd_11, fd_11_0, fd_11_1, fd_11_2, fd_11_3, fd_11_4, kd_12, fd_12_0, fd_12_1, fd_12_2, fd_12_3, ln_13, ln_14, ln_15, kd_16, fd_16_0, fd_16_1, fd_16_2, ln_17, kd_18, fd_18_0, fd_18_1, kd_19, fd_19_0, fd_19_1, fd_19_2, fd_19_3, fd_19_4, fd_19_5, fd_19_6, fd_19_7, fd_19_8, fd_19_9, fd_19_10, fd_19_11, fd_19_12, fd_19_13, fd_19_14, fd_19_15, fd_19_16, fd_19_17, fd_19_18, fd_19_19, fd_19_20, ln_20, ln_21, ln_22, ln_23, ln_24, ln_25, ln_26, ln_27, ln_28, ln_29, ln_30, ln_31, ln_32, List.getElem?_cons_zero, List.getElem?_cons_succ, List.set_cons_zero, List.set_cons_succ, true_and, and_true, ↓reduceIte, Int32.reduceLT, Int32.reduceLE, li_10, or_true, true_or, e1]
      rw [if_pos c] at h; exact h
    · have e1 : M 16 2 < 500 := by rw [h3]; exact nI_lt (b := 500) (by omega) (by decide)
      have es : M 16 1 + M 16 2 = nI (wf M + ww M) := by rw [h1, h3]; exact nI_add _ _
      rw [if_neg c] at h
      unfold wix at h
      by_cases c2 : wf M + ww M < 500
      · rw [if_pos c2] at h
        have e2 : M 16 1 + M 16 2 < 500 := by rw [es]; exact nI_lt (b := 500) c2 (by decide)
        have e3 : ¬ M 16 1 + M 16 2 < 0 := by rw [es]; exact nI_pos (by omega)
        have e4 : vp_in (M 16 1 + M 16 2) 500 := by rw [es]; exact vp_in_nI c2 (by decide)
        refine am_entry hG (by decide +kernel) (Nat.le_of_ble_eq_true rfl) ?_
        refine am_go (cuts := k_Waiting_append) tb_Waiting_append 400 _ _ _ _ ?_
        change am_run _ _ _ _ _ _ [some (.ref 16), some (.int b), none] [] _
        simp only [r_Waiting_append_0, r_Waiting_append_1, r_Waiting_append_4, r_Waiting_append_7, r_Waiting_append_10, r_Waiting_append_11, r_Waiting_append_12, r_Waiting_append_15, r_Waiting_append_16, r_Waiting_append_19, r_Waiting_append_20, r_Waiting_append_23, r_Waiting_append_26, r_Waiting_append_27, r_Waiting_append_30, r_Waiting_append_31, r_Waiting_append_34, r_Waiting_append_35, r_Waiting_append_38, r_Waiting_append_39, r_Waiting_append_42, r_Waiting_append_43, r_Waiting_append_46, r_Waiting_append_47, r_Waiting_append_50, r_Waiting_append_51, r_Waiting_append_52, r_Waiting_append_53, r_Waiting_append_56, r_Waiting_append_57, r_Waiting_append_60, r_Waiting_append_63, r_Waiting_append_64, r_Waiting_append_67, r_Waiting_append_68, r_Waiting_append_69, r_Waiting_append_70, r_Waiting_append_71, r_Waiting_append_72, r_Waiting_append_75, r_Waiting_append_76, r_Waiting_append_77, r_Waiting_append_80, ai_aload, ai_getf, ai_const, ai_cmplt, ai_vret, ai_iadd, ai_bin, ai_cmpge, ai_goto, ai_isub, ai_istore, am_cut_0, am_cut_s, am_c1, ai_iload, ai_iflt, ai_iast, ai_dup, ai_putf, kd_0, fd_0_0, fd_0_1, fd_0_2, fd_0_3, fd_0_4, kd_1, fd_1_0, fd_1_1, ln_2, kd_3, fd_3_0, fd_3_1, fd_3_2, fd_3_3, fd_3_4, fd_3_5, fd_3_6, fd_3_7, fd_3_8, fd_3_9, ln_4, ln_5, ln_6, ln_7, ln_8, ln_9, ln_10, kd_11, fd_11_0, fd_11_1, fd_11_2, fd_11_3, fd_11_4, kd_12, fd_12_0, fd_12_1, fd_12_2, fd_12_3, ln_13, ln_14, ln_15, kd_16, fd_16_0, fd_16_1, fd_16_2, ln_17, kd_18, fd_18_0, fd_18_1, kd_19, fd_19_0, fd_19_1, fd_19_2, fd_19_3, fd_19_4, fd_19_5, fd_19_6, fd_19_7, fd_19_8, fd_19_9, fd_19_10, fd_19_11, fd_19_12, fd_19_13, fd_19_14, fd_19_15, fd_19_16, fd_19_17, fd_19_18, fd_19_19, fd_19_20, ln_20, ln_21, ln_22, ln_23, ln_24, ln_25, ln_26, ln_27, ln_28, ln_29, ln_30, ln_31, ln_32, List.getElem?_cons_zero, List.getElem?_cons_succ, List.set_cons_zero, List.set_cons_succ, true_and, and_true, ↓reduceIte, Int32.reduceLT, Int32.reduceLE, li_10, or_true, true_or, e1, e2, e3, e4, am_up_ap, Nat.reduceEqDiff]
        rw [es, show (nI (wf M + ww M)).toNatClampNeg = wf M + ww M from nI_clamp (by omega), h3, nI_1]
        exact h
      · rw [if_neg c2] at h
        have e2 : ¬ M 16 1 + M 16 2 < 500 := by rw [es]; exact nI_nlt (b := 500) (a := wf M + ww M) (by omega) (by omega)
        have es2 : M 16 1 + M 16 2 - 500 = nI (wf M + ww M - 500) := by rw [es]; exact pk_sub (b := 500) (by omega)
        have e3 : ¬ M 16 1 + M 16 2 - 500 < 0 := by rw [es2]; exact nI_pos (by omega)
        have e5 : M 16 1 + M 16 2 - 500 < 500 := by rw [es2]; exact nI_lt (b := 500) (by omega) (by decide)
        have e4 : vp_in (M 16 1 + M 16 2 - 500) 500 := by rw [es2]; exact vp_in_nI (by omega) (by decide)
        refine am_entry hG (by decide +kernel) (Nat.le_of_ble_eq_true rfl) ?_
        refine am_go (cuts := k_Waiting_append) tb_Waiting_append 400 _ _ _ _ ?_
        change am_run _ _ _ _ _ _ [some (.ref 16), some (.int b), none] [] _
        simp only [r_Waiting_append_0, r_Waiting_append_1, r_Waiting_append_4, r_Waiting_append_7, r_Waiting_append_10, r_Waiting_append_11, r_Waiting_append_12, r_Waiting_append_15, r_Waiting_append_16, r_Waiting_append_19, r_Waiting_append_20, r_Waiting_append_23, r_Waiting_append_26, r_Waiting_append_27, r_Waiting_append_30, r_Waiting_append_31, r_Waiting_append_34, r_Waiting_append_35, r_Waiting_append_38, r_Waiting_append_39, r_Waiting_append_42, r_Waiting_append_43, r_Waiting_append_46, r_Waiting_append_47, r_Waiting_append_50, r_Waiting_append_51, r_Waiting_append_52, r_Waiting_append_53, r_Waiting_append_56, r_Waiting_append_57, r_Waiting_append_60, r_Waiting_append_63, r_Waiting_append_64, r_Waiting_append_67, r_Waiting_append_68, r_Waiting_append_69, r_Waiting_append_70, r_Waiting_append_71, r_Waiting_append_72, r_Waiting_append_75, r_Waiting_append_76, r_Waiting_append_77, r_Waiting_append_80, ai_aload, ai_getf, ai_const, ai_cmplt, ai_vret, ai_iadd, ai_bin, ai_cmpge, ai_goto, ai_isub, ai_istore, am_cut_0, am_cut_s, am_c1, ai_iload, ai_iflt, ai_iast, ai_dup, ai_putf, kd_0, fd_0_0, fd_0_1, fd_0_2, fd_0_3, fd_0_4, kd_1, fd_1_0, fd_1_1, ln_2, kd_3, fd_3_0, fd_3_1, fd_3_2, fd_3_3, fd_3_4, fd_3_5, fd_3_6, fd_3_7, fd_3_8, fd_3_9, ln_4, ln_5, ln_6, ln_7, ln_8, ln_9, ln_10, kd_11, fd_11_0, fd_11_1, fd_11_2, fd_11_3, fd_11_4, kd_12, fd_12_0, fd_12_1, fd_12_2, fd_12_3, ln_13, ln_14, ln_15, kd_16, fd_16_0, fd_16_1, fd_16_2, ln_17, kd_18, fd_18_0, fd_18_1, kd_19, fd_19_0, fd_19_1, fd_19_2, fd_19_3, fd_19_4, fd_19_5, fd_19_6, fd_19_7, fd_19_8, fd_19_9, fd_19_10, fd_19_11, fd_19_12, fd_19_13, fd_19_14, fd_19_15, fd_19_16, fd_19_17, fd_19_18, fd_19_19, fd_19_20, ln_20, ln_21, ln_22, ln_23, ln_24, ln_25, ln_26, ln_27, ln_28, ln_29, ln_30, ln_31, ln_32, List.getElem?_cons_zero, List.getElem?_cons_succ, List.set_cons_zero, List.set_cons_succ, true_and, and_true, ↓reduceIte, Int32.reduceLT, Int32.reduceLE, li_10, or_true, true_or, e1, e2, e3, e4, e5, am_up_ap, Nat.reduceEqDiff]
        rw [es2, show (nI (wf M + ww M - 500)).toNatClampNeg = wf M + ww M - 500 from nI_clamp (by omega), h3, nI_1]
        exact h
  · cases h
def takM (M : aM) : aM := am_up (am_up M 16 1 (nI (if wf M + 1 < 500 then wf M + 1 else 0))) 16 2 (nI (ww M - 1))
def sp_Waiting_take : aS := fun as M K => match as with
  | [.ref a] => a = 16 ∧ (wt_ok M ∧ 0 < ww M) ∧ K (some (.int (M 17 (wf M)))) (takM M)
  | _ => False
set_option maxRecDepth 100000 in
set_option maxHeartbeats 4000000 in
theorem ok_Waiting_take {G : aG} (hG : am_ok G) : am_Sp G Y_Waiting_take 0 sp_Waiting_take := by
  intro as M K h
  unfold sp_Waiting_take at h
  split at h
  · next a =>
    obtain ⟨rfl, ⟨⟨h1, h2, h3, h4⟩, h5⟩, h⟩ := h
    unfold takM at h
    have e1 : ¬ M 16 2 ≤ 0 := by rw [h3]; exact nI_nle h5 (by omega)
    have e2 : ¬ M 16 1 < 0 := by rw [h1]; exact nI_pos (by omega)
    have e3 : M 16 1 < 500 := by rw [h1]; exact nI_lt (b := 500) h2 (by decide)
    have e4 : vp_in (M 16 1) 500 := by rw [h1]; exact vp_in_nI h2 (by decide)
    have ec : (M 16 1).toNatClampNeg = wf M := rfl
    have e6 : M 16 2 - 1 = nI (ww M - 1) := by rw [h3]; exact pk_sub (b := 1) (by omega)
    by_cases c : wf M + 1 < 500
    · rw [if_pos c] at h
      have e5 : M 16 1 + 1 < 500 := by rw [h1, nI_1]; exact nI_lt (b := 500) c (by decide)
      refine am_entry hG (by decide +kernel) (Nat.le_of_ble_eq_true rfl) ?_
      refine am_go (cuts := k_Waiting_take) tb_Waiting_take 400 _ _ _ _ ?_
      change am_run _ _ _ _ _ _ [some (.ref 16), none] [] _
      simp only [r_Waiting_take_0, r_Waiting_take_1, r_Waiting_take_4, r_Waiting_take_7, r_Waiting_take_8, r_Waiting_take_11, r_Waiting_take_14, r_Waiting_take_15, r_Waiting_take_18, r_Waiting_take_21, r_Waiting_take_24, r_Waiting_take_25, r_Waiting_take_26, r_Waiting_take_27, r_Waiting_take_30, r_Waiting_take_31, r_Waiting_take_34, r_Waiting_take_35, r_Waiting_take_36, r_Waiting_take_37, r_Waiting_take_38, r_Waiting_take_41, r_Waiting_take_42, r_Waiting_take_43, r_Waiting_take_46, r_Waiting_take_49, r_Waiting_take_50, r_Waiting_take_53, r_Waiting_take_54, r_Waiting_take_55, r_Waiting_take_58, r_Waiting_take_59, r_Waiting_take_62, r_Waiting_take_63, r_Waiting_take_64, r_Waiting_take_67, r_Waiting_take_68, r_Waiting_take_69, r_Waiting_take_72, r_Waiting_take_73, ai_aload, ai_getf, ai_ifle, ai_iflt, ai_const, ai_cmplt, ai_iret, ai_iald, ai_istore, am_cut_0, am_cut_s, am_c1, ai_iadd, ai_bin, ai_cmpge, ai_goto, ai_putf, ai_dup, ai_isub, ai_iload, kd_0, fd_0_0, fd_0_1, fd_0_2, fd_0_3, fd_0_4, kd_1, fd_1_0, fd_1_1, ln_2, kd_3, fd_3_0, fd_3_1, fd_3_2, fd_3_3, fd_3_4, fd_3_5, fd_3_6, fd_3_7, fd_3_8, fd_3_9, ln_4, ln_5, ln_6, ln_7, ln_8, ln_9, ln_10, kd_11, fd_11_0, fd_11_1, fd_11_2, fd_11_3, fd_11_4, kd_12, fd_12_0, fd_12_1, fd_12_2, fd_12_3, ln_13, ln_14, ln_15, kd_16, fd_16_0, fd_16_1, fd_16_2, ln_17, kd_18, fd_18_0, fd_18_1, kd_19, fd_19_0, fd_19_1, fd_19_2, fd_19_3, fd_19_4, fd_19_5, fd_19_6, fd_19_7, fd_19_8, fd_19_9, fd_19_10, fd_19_11, fd_19_12, fd_19_13, fd_19_14, fd_19_15, fd_19_16, fd_19_17, fd_19_18, fd_19_19, fd_19_20, ln_20, ln_21, ln_22, ln_23, ln_24, ln_25, ln_26, ln_27, ln_28, ln_29, ln_30, ln_31, ln_32, List.getElem?_cons_zero, List.getElem?_cons_succ, List.set_cons_zero, List.set_cons_succ, true_and, and_true, ↓reduceIte, Int32.reduceLT, Int32.reduceLE, li_10, or_true, true_or, e1, e2, e3, e4, e5, am_up_ap, Nat.reduceEqDiff]
      rw [ec, e6, h1, nI_1]
      exact h
    · rw [if_neg c] at h
      have e5 : ¬ M 16 1 + 1 < 500 := by rw [h1, nI_1]; exact nI_nlt (b := 500) (a := wf M + 1) (by omega) (by omega)
      refine am_entry hG (by decide +kernel) (Nat.le_of_ble_eq_true rfl) ?_
      refine am_go (cuts := k_Waiting_take) tb_Waiting_take 400 _ _ _ _ ?_
      change am_run _ _ _ _ _ _ [some (.ref 16), none] [] _
      simp only [r_Waiting_take_0, r_Waiting_take_1, r_Waiting_take_4, r_Waiting_take_7, r_Waiting_take_8, r_Waiting_take_11, r_Waiting_take_14, r_Waiting_take_15, r_Waiting_take_18, r_Waiting_take_21, r_Waiting_take_24, r_Waiting_take_25, r_Waiting_take_26, r_Waiting_take_27, r_Waiting_take_30, r_Waiting_take_31, r_Waiting_take_34, r_Waiting_take_35, r_Waiting_take_36, r_Waiting_take_37, r_Waiting_take_38, r_Waiting_take_41, r_Waiting_take_42, r_Waiting_take_43, r_Waiting_take_46, r_Waiting_take_49, r_Waiting_take_50, r_Waiting_take_53, r_Waiting_take_54, r_Waiting_take_55, r_Waiting_take_58, r_Waiting_take_59, r_Waiting_take_62, r_Waiting_take_63, r_Waiting_take_64, r_Waiting_take_67, r_Waiting_take_68, r_Waiting_take_69, r_Waiting_take_72, r_Waiting_take_73, ai_aload, ai_getf, ai_ifle, ai_iflt, ai_const, ai_cmplt, ai_iret, ai_iald, ai_istore, am_cut_0, am_cut_s, am_c1, ai_iadd, ai_bin, ai_cmpge, ai_goto, ai_putf, ai_dup, ai_isub, ai_iload, kd_0, fd_0_0, fd_0_1, fd_0_2, fd_0_3, fd_0_4, kd_1, fd_1_0, fd_1_1, ln_2, kd_3, fd_3_0, fd_3_1, fd_3_2, fd_3_3, fd_3_4, fd_3_5, fd_3_6, fd_3_7, fd_3_8, fd_3_9, ln_4, ln_5, ln_6, ln_7, ln_8, ln_9, ln_10, kd_11, fd_11_0, fd_11_1, fd_11_2, fd_11_3, fd_11_4, kd_12, fd_12_0, fd_12_1, fd_12_2, fd_12_3, ln_13, ln_14, ln_15, kd_16, fd_16_0, fd_16_1, fd_16_2, ln_17, kd_18, fd_18_0, fd_18_1, kd_19, fd_19_0, fd_19_1, fd_19_2, fd_19_3, fd_19_4, fd_19_5, fd_19_6, fd_19_7, fd_19_8, fd_19_9, fd_19_10, fd_19_11, fd_19_12, fd_19_13, fd_19_14, fd_19_15, fd_19_16, fd_19_17, fd_19_18, fd_19_19, fd_19_20, ln_20, ln_21, ln_22, ln_23, ln_24, ln_25, ln_26, ln_27, ln_28, ln_29, ln_30, ln_31, ln_32, List.getElem?_cons_zero, List.getElem?_cons_succ, List.set_cons_zero, List.set_cons_succ, true_and, and_true, ↓reduceIte, Int32.reduceLT, Int32.reduceLE, li_10, or_true, true_or, e1, e2, e3, e4, e5, am_up_ap, Nat.reduceEqDiff]
      rw [ec, e6]
      exact h
  · cases h
