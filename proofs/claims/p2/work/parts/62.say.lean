/-! THE REFERENCE: writing and comparing, as far as safety goes -/
def mW (M : aM) : Nat := cl (M 19 18)
def mw_ok (M : aM) : Prop := M 19 18 = nI (mW M) ∧ mW M ≤ 500
/-- only what waits may differ -/
def wr_rel (M N : aM) : Prop := (∀ i, ¬ i = 19 → ¬ i = 30 → N i = M i) ∧ (∀ j, ¬ j = 18 → N 19 j = M 19 j) ∧ mw_ok N
theorem wr_rel.rf {M : aM} (h : mw_ok M) : wr_rel M M := ⟨fun _ _ _ => rfl, fun _ _ => rfl, h⟩
theorem wr_rel.tr {M N P : aM} (h1 : wr_rel M N) (h2 : wr_rel N P) : wr_rel M P := ⟨fun i a b => (h2.1 i a b).trans (h1.1 i a b), fun j a => (h2.2.1 j a).trans (h1.2.1 j a), h2.2.2⟩
def m_say (M : aM) (b : Int32) : aM := if mW M = 500 then M else am_up (am_up M 30 (mW M) b) 19 18 (nI (mW M + 1))
theorem m_say_rel {M : aM} {b : Int32} (h : mw_ok M) : wr_rel M (m_say M b) := by
  unfold m_say
  by_cases c : mW M = 500
  · rw [if_pos c]; exact wr_rel.rf h
  · rw [if_neg c]
    have h2 := h.2
    have e : mW (am_up (am_up M 30 (mW M) b) 19 18 (nI (mW M + 1))) = mW M + 1 := nI_clamp (by omega)
    refine ⟨fun i a1 a2 => ?_, fun j a => ?_, ⟨by rw [e]; rfl, by rw [e]; omega⟩⟩
    · funext j
      simp only [am_up_ap, a1, a2, ↓reduceIte]
    · simp only [am_up_ap, a, ↓reduceIte, Nat.reduceEqDiff]
def sp_Model_say : aS := fun as M K => match as with
  | [.ref a, .int b] => a = 19 ∧ mw_ok M ∧ K none (m_say M b)
  | _ => False
set_option maxRecDepth 100000 in
set_option maxHeartbeats 4000000 in
theorem ok_Model_say {G : aG} (hG : am_ok G) : am_Sp G Y_Model_say 0 sp_Model_say := by
  intro as M K h
  unfold sp_Model_say at h
  split at h
  · next a b =>
    obtain ⟨rfl, hw, h⟩ := h
    unfold m_say at h
    have h2 := hw.2
    by_cases c : mW M = 500
    · rw [if_pos c] at h
      have e1 : (M 19 18 = 500) = True := eq_true (by rw [hw.1, c]; rfl)
      refine am_entry hG (by decide +kernel) (Nat.le_of_ble_eq_true rfl) ?_
      refine am_go (cuts := k_Model_say) tb_Model_say 400 _ _ _ _ ?_
      change am_run _ _ _ _ _ _ [some (.ref 19), some (.int b)] [] _
      simp only [r_Model_say_0, r_Model_say_1, r_Model_say_4, r_Model_say_7, r_Model_say_10, r_Model_say_11, r_Model_say_12, r_Model_say_15, r_Model_say_16, r_Model_say_19, r_Model_say_20, r_Model_say_21, r_Model_say_22, r_Model_say_23, r_Model_say_26, r_Model_say_27, r_Model_say_28, r_Model_say_31, ai_aload, ai_getf, ai_const, ai_cmpne, ai_vret, ai_iload, ai_iast, ai_iadd, ai_bin, ai_putf, kd_0, fd_0_0, fd_0_1, fd_0_2, fd_0_3, fd_0_4, kd_1, fd_1_0, fd_1_1, ln_2, kd_3, fd_3_0, fd_3_1, fd_3_2, fd_3_3, fd_3_4, fd_3_5, fd_3_6, fd_3_7, fd_3_8, fd_3_9, ln_4, ln_5, ln_6, ln_7, ln_8, ln_9, ln_10, kd_11, fd_11_0, fd_11_1, fd_11_2, fd_11_3, fd_11_4, kd_12, fd_12_0, fd_12_1, fd_12_2, fd_12_3, ln_13, ln_14, ln_15, kd_16, fd_16_0, fd_16_1, fd_16_2, ln_17, kd_18, fd_18_0, fd_18_1, kd_19, fd_19_0, fd_19_1, fd_19_2, fd_19_3, fd_19_4, fd_19_5, fd_19_6, fd_19_7, fd_19_8, fd_19_9, fd_19_10, fd_19_11, fd_19_12, fd_19_13, fd_19_14, fd_19_15, fd_19_16, fd_19_17, fd_19_18, fd_19_19, fd_19_20, ln_20, ln_21, ln_22, ln_23, ln_24, ln_25, ln_26, ln_27, ln_28, ln_29, ln_30, ln_31, ln_32, List.getElem?_cons_zero, List.getElem?_cons_succ, List.set_cons_zero, List.set_cons_succ, true_and, and_true, ↓reduceIte, Int32.reduceLT, Int32.reduceLE, li_10, or_true, true_or, e1]
      exact h
    · rw [if_neg c] at h
      have e1 : ¬ M 19 18 = 500 := by
        rw [hw.1]
        intro q
        exact c ((nI_eq (a := mW M) (b := 500) (by omega) (by decide)).mp q)
      have e2 : vp_in (M 19 18) 500 := by rw [hw.1]; exact vp_in_nI (by omega) (by decide)
      have e3 : (M 19 18).toNatClampNeg = mW M := rfl
      have e4 : M 19 18 + 1 = nI (mW M + 1) := by rw [← nI_1, ← hw.1]
      refine am_entry hG (by decide +kernel) (Nat.le_of_ble_eq_true rfl) ?_
      refine am_go (cuts := k_Model_say) tb_Model_say 400 _ _ _ _ ?_
      change am_run _ _ _ _ _ _ [some (.ref 19), some (.int b)] [] _
      simp only [r_Model_say_0, r_Model_say_1, r_Model_say_4, r_Model_say_7, r_Model_say_10, r_Model_say_11, r_Model_say_12, r_Model_say_15, r_Model_say_16, r_Model_say_19, r_Model_say_20, r_Model_say_21, r_Model_say_22, r_Model_say_23, r_Model_say_26, r_Model_say_27, r_Model_say_28, r_Model_say_31, ai_aload, ai_getf, ai_const, ai_cmpne, ai_vret, ai_iload, ai_iast, ai_iadd, ai_bin, ai_putf, kd_0, fd_0_0, fd_0_1, fd_0_2, fd_0_3, fd_0_4, kd_1, fd_1_0, fd_1_1, ln_2, kd_3, fd_3_0, fd_3_1, fd_3_2, fd_3_3, fd_3_4, fd_3_5, fd_3_6, fd_3_7, fd_3_8, fd_3_9, ln_4, ln_5, ln_6, ln_7, ln_8, ln_9, ln_10, kd_11, fd_11_0, fd_11_1, fd_11_2, fd_11_3, fd_11_4, kd_12, fd_12_0, fd_12_1, fd_12_2, fd_12_3, ln_13, ln_14, ln_15, kd_16, fd_16_0, fd_16_1, fd_16_2, ln_17, kd_18, fd_18_0, fd_18_1, kd_19, fd_19_0, fd_19_1, fd_19_2, fd_19_3, fd_19_4, fd_19_5, fd_19_6, fd_19_7, fd_19_8, fd_19_9, fd_19_10, fd_19_11, fd_19_12, fd_19_13, fd_19_14, fd_19_15, fd_19_16, fd_19_17, fd_19_18, fd_19_19, fd_19_20, ln_20, ln_21, ln_22, ln_23, ln_24, ln_25, ln_26, ln_27, ln_28, ln_29, ln_30, ln_31, ln_32, List.getElem?_cons_zero, List.getElem?_cons_succ, List.set_cons_zero, List.set_cons_succ, true_and, and_true, ↓reduceIte, Int32.reduceLT, Int32.reduceLE, li_10, or_true, true_or, e1, e2, e3, e4, am_up_ap, Nat.reduceEqDiff]
      exact h
  · cases h
/-- some more bytes wait, nobody asks which -/
def sp_Model_number0 : aS := fun as M K => match as with
  | [.ref a, .int _] => a = 19 ∧ mw_ok M ∧ ∀ N, wr_rel M N → K none N
  | _ => False
def tn (k : Nat) : Int32 := nI (10 ^ k)
set_option maxRecDepth 100000 in
set_option maxHeartbeats 4000000 in
theorem lp_Model_number2 {G : aG} (hG : am_ok G) {K : aR} {v l : Int32} {M0 : aM} (hK : ∀ N, wr_rel M0 N → K none N) : ∀ (k : Nat) (M : aM), k ≤ 9 → wr_rel M0 M → am_X G Y_Model_number 1 K 39 [some (.ref 19), some (.int v), some (.int l), some (.int (tn k))] [] M := by
  have Z : ∀ M : aM, wr_rel M0 M → am_X G Y_Model_number 1 K 39 [some (.ref 19), some (.int v), some (.int l), some (.int 0)] [] M := by
    intro M hM
    have z0 : (0 : Int32) ≤ 0 := by decide
    refine am_from (tb_Model_number (ok_Model_say hG) (by decide)) k_Model_number 400 ?_
    simp only [q_Model_number_23, q_Model_number_39, r_Model_number_0, r_Model_number_1, r_Model_number_4, r_Model_number_5, r_Model_number_7, r_Model_number_10, r_Model_number_11, r_Model_number_14, r_Model_number_15, r_Model_number_16, r_Model_number_19, r_Model_number_20, r_Model_number_21, r_Model_number_22, r_Model_number_23, r_Model_number_24, r_Model_number_25, r_Model_number_26, r_Model_number_28, r_Model_number_31, r_Model_number_32, r_Model_number_34, r_Model_number_35, r_Model_number_36, r_Model_number_39, r_Model_number_40, r_Model_number_43, r_Model_number_44, r_Model_number_46, r_Model_number_47, r_Model_number_48, r_Model_number_49, r_Model_number_51, r_Model_number_52, r_Model_number_53, r_Model_number_56, r_Model_number_57, r_Model_number_59, r_Model_number_60, r_Model_number_61, r_Model_number_64, ai_iload, ai_ifge, ai_aload, ai_const, ai_callv2, am_push, am_few, ai_ineg, ai_goto, ai_istore, am_cut_0, am_cut_s, am_c1, ai_idiv, ai_cmple, ai_imul, ai_bin, ai_ifle, ai_irem, ai_iadd, ai_vret, kd_0, fd_0_0, fd_0_1, fd_0_2, fd_0_3, fd_0_4, kd_1, fd_1_0, fd_1_1, ln_2, kd_3, fd_3_0, fd_3_1, fd_3_2, fd_3_3, fd_3_4, fd_3_5, fd_3_6, fd_3_7, fd_3_8, fd_3_9, ln_4, ln_5, ln_6, ln_7, ln_8, ln_9, ln_10, kd_11, fd_11_0, fd_11_1, fd_11_2, fd_11_3, fd_11_4, kd_12, fd_12_0, fd_12_1, fd_12_2, fd_12_3, ln_13, ln_14, ln_15, kd_16, fd_16_0, fd_16_1, fd_16_2, ln_17, kd_18, fd_18_0, fd_18_1, kd_19, fd_19_0, fd_19_1, fd_19_2, fd_19_3, fd_19_4, fd_19_5, fd_19_6, fd_19_7, fd_19_8, fd_19_9, fd_19_10, fd_19_11, fd_19_12, fd_19_13, fd_19_14, fd_19_15, fd_19_16, fd_19_17, fd_19_18, fd_19_19, fd_19_20, ln_20, ln_21, ln_22, ln_23, ln_24, ln_25, ln_26, ln_27, ln_28, ln_29, ln_30, ln_31, ln_32, List.getElem?_cons_zero, List.getElem?_cons_succ, List.set_cons_zero, List.set_cons_succ, true_and, and_true, ↓reduceIte, Int32.reduceLT, Int32.reduceLE, li_10, or_true, true_or, z0]
    exact hK M hM
  have l10 : ((10 : Int32) = 0) = False := eq_false (by decide)
  intro k
  induction k with
  | zero =>
    intro M hk hM
    have t0 : ¬ tn 0 ≤ 0 := by decide
    have t1 : ¬ tn 0 = 0 := by decide
    have t2 : tn 0 / 10 = 0 := by decide
    have hw := hM.2.2
    refine am_from (tb_Model_number (ok_Model_say hG) (by decide)) k_Model_number 400 ?_
    simp only [q_Model_number_23, q_Model_number_39, r_Model_number_0, r_Model_number_1, r_Model_number_4, r_Model_number_5, r_Model_number_7, r_Model_number_10, r_Model_number_11, r_Model_number_14, r_Model_number_15, r_Model_number_16, r_Model_number_19, r_Model_number_20, r_Model_number_21, r_Model_number_22, r_Model_number_23, r_Model_number_24, r_Model_number_25, r_Model_number_26, r_Model_number_28, r_Model_number_31, r_Model_number_32, r_Model_number_34, r_Model_number_35, r_Model_number_36, r_Model_number_39, r_Model_number_40, r_Model_number_43, r_Model_number_44, r_Model_number_46, r_Model_number_47, r_Model_number_48, r_Model_number_49, r_Model_number_51, r_Model_number_52, r_Model_number_53, r_Model_number_56, r_Model_number_57, r_Model_number_59, r_Model_number_60, r_Model_number_61, r_Model_number_64, ai_iload, ai_ifge, ai_aload, ai_const, ai_callv2, am_push, am_few, ai_ineg, ai_goto, ai_istore, am_cut_0, am_cut_s, am_c1, ai_idiv, ai_cmple, ai_imul, ai_bin, ai_ifle, ai_irem, ai_iadd, ai_vret, kd_0, fd_0_0, fd_0_1, fd_0_2, fd_0_3, fd_0_4, kd_1, fd_1_0, fd_1_1, ln_2, kd_3, fd_3_0, fd_3_1, fd_3_2, fd_3_3, fd_3_4, fd_3_5, fd_3_6, fd_3_7, fd_3_8, fd_3_9, ln_4, ln_5, ln_6, ln_7, ln_8, ln_9, ln_10, kd_11, fd_11_0, fd_11_1, fd_11_2, fd_11_3, fd_11_4, kd_12, fd_12_0, fd_12_1, fd_12_2, fd_12_3, ln_13, ln_14, ln_15, kd_16, fd_16_0, fd_16_1, fd_16_2, ln_17, kd_18, fd_18_0, fd_18_1, kd_19, fd_19_0, fd_19_1, fd_19_2, fd_19_3, fd_19_4, fd_19_5, fd_19_6, fd_19_7, fd_19_8, fd_19_9, fd_19_10, fd_19_11, fd_19_12, fd_19_13, fd_19_14, fd_19_15, fd_19_16, fd_19_17, fd_19_18, fd_19_19, fd_19_20, ln_20, ln_21, ln_22, ln_23, ln_24, ln_25, ln_26, ln_27, ln_28, ln_29, ln_30, ln_31, ln_32, List.getElem?_cons_zero, List.getElem?_cons_succ, List.set_cons_zero, List.set_cons_succ, true_and, and_true, ↓reduceIte, Int32.reduceLT, Int32.reduceLE, li_10, or_true, true_or, ↓sp_Model_say, t0, t1, t2, hw, l10, not_false_eq_true]
    exact Z _ (hM.tr (m_say_rel hw))
  | succ k ih =>
    intro M hk hM
    have t0 : ¬ tn (k + 1) ≤ 0 := nI_nle (Nat.pow_pos (by decide)) (Nat.lt_of_le_of_lt (Nat.pow_le_pow_right (by decide) hk) (by decide))
    have t1 : ¬ tn (k + 1) = 0 := nI_ne0 (Nat.pow_pos (by decide)) (Nat.lt_of_le_of_lt (Nat.pow_le_pow_right (by decide) hk) (by decide))
    have t2 : tn (k + 1) / 10 = tn k := by
      rcases (show k = 0 ∨ k = 1 ∨ k = 2 ∨ k = 3 ∨ k = 4 ∨ k = 5 ∨ k = 6 ∨ k = 7 ∨ k = 8 by omega) with rfl | rfl | rfl | rfl | rfl | rfl | rfl | rfl | rfl <;> decide
    have hw := hM.2.2
    refine am_from (tb_Model_number (ok_Model_say hG) (by decide)) k_Model_number 400 ?_
    simp only [q_Model_number_23, q_Model_number_39, r_Model_number_0, r_Model_number_1, r_Model_number_4, r_Model_number_5, r_Model_number_7, r_Model_number_10, r_Model_number_11, r_Model_number_14, r_Model_number_15, r_Model_number_16, r_Model_number_19, r_Model_number_20, r_Model_number_21, r_Model_number_22, r_Model_number_23, r_Model_number_24, r_Model_number_25, r_Model_number_26, r_Model_number_28, r_Model_number_31, r_Model_number_32, r_Model_number_34, r_Model_number_35, r_Model_number_36, r_Model_number_39, r_Model_number_40, r_Model_number_43, r_Model_number_44, r_Model_number_46, r_Model_number_47, r_Model_number_48, r_Model_number_49, r_Model_number_51, r_Model_number_52, r_Model_number_53, r_Model_number_56, r_Model_number_57, r_Model_number_59, r_Model_number_60, r_Model_number_61, r_Model_number_64, ai_iload, ai_ifge, ai_aload, ai_const, ai_callv2, am_push, am_few, ai_ineg, ai_goto, ai_istore, am_cut_0, am_cut_s, am_c1, ai_idiv, ai_cmple, ai_imul, ai_bin, ai_ifle, ai_irem, ai_iadd, ai_vret, kd_0, fd_0_0, fd_0_1, fd_0_2, fd_0_3, fd_0_4, kd_1, fd_1_0, fd_1_1, ln_2, kd_3, fd_3_0, fd_3_1, fd_3_2, fd_3_3, fd_3_4, fd_3_5, fd_3_6, fd_3_7, fd_3_8, fd_3_9, ln_4, ln_5, ln_6, ln_7, ln_8, ln_9, ln_10, kd_11, fd_11_0, fd_11_1, fd_11_2, fd_11_3, fd_11_4, kd_12, fd_12_0, fd_12_1, fd_12_2, fd_12_3, ln_13, ln_14, ln_15, kd_16, fd_16_0, fd_16_1, fd_16_2, ln_17, kd_18, fd_18_0, fd_18_1, kd_19, fd_19_0, fd_19_1, fd_19_2, fd_19_3, fd_19_4, fd_19_5, fd_19_6, fd_19_7, fd_19_8, fd_19_9, fd_19_10, fd_19_11, fd_19_12, fd_19_13, fd_19_14, fd_19_15, fd_19_16, fd_19_17, fd_19_18, fd_19_19, fd_19_20, ln_20, ln_21, ln_22, ln_23, ln_24, ln_25, ln_26, ln_27, ln_28, ln_29, ln_30, ln_31, ln_32, List.getElem?_cons_zero, List.getElem?_cons_succ, List.set_cons_zero, List.set_cons_succ, true_and, and_true, ↓reduceIte, Int32.reduceLT, Int32.reduceLE, li_10, or_true, true_or, ↓sp_Model_say, t0, t1, t2, hw, l10, not_false_eq_true]
    exact ih _ (by omega) (hM.tr (m_say_rel hw))
theorem div9 (l : Int32) : ¬ 9 < l / tn 9 := by
  intro q
  have h := Int32.lt_iff_toInt_lt.mp q
  have h1 : (tn 9).toInt = 1000000000 := by decide
  have h2 := Int32.toInt_lt l
  have h3 := Int32.le_toInt l
  have h9 : (9 : Int32).toInt = 9 := by decide
  rw [h9, Int32.toInt_div, h1] at h
  have h4 : Int.tdiv l.toInt 1000000000 ≤ 2 ∧ -3 ≤ Int.tdiv l.toInt 1000000000 := by
    by_cases c : l.toInt < 0
    · have e : l.toInt.tdiv 1000000000 = -((-l.toInt) / 1000000000) := by
        rw [show l.toInt = -(-l.toInt) by omega, Int.neg_tdiv, Int.tdiv_eq_ediv_of_nonneg (by omega)]
        simp
      omega
    · rw [Int.tdiv_eq_ediv_of_nonneg (by omega)]
      omega
  have h5 : (Int.tdiv l.toInt 1000000000).bmod (2 ^ 32) = Int.tdiv l.toInt 1000000000 := Int.bmod_eq_of_le (by omega) (by omega)
  rw [h5] at h
  omega
set_option maxRecDepth 100000 in
set_option maxHeartbeats 4000000 in
theorem lp_Model_number1 {G : aG} (hG : am_ok G) {K : aR} {v l : Int32} {M : aM} (hw : mw_ok M) (hK : ∀ N, wr_rel M N → K none N) : ∀ (r k : Nat), k + r = 9 → am_X G Y_Model_number 1 K 23 [some (.ref 19), some (.int v), some (.int l), some (.int (tn k))] [] M := by
  intro r
  induction r with
  | zero =>
    intro k hk
    have e : k = 9 := by omega
    subst e
    have d9 := div9 l
    have t1 : ¬ tn 9 = 0 := by decide
    refine am_from (tb_Model_number (ok_Model_say hG) (by decide)) k_Model_number 400 ?_
    simp only [q_Model_number_23, q_Model_number_39, r_Model_number_0, r_Model_number_1, r_Model_number_4, r_Model_number_5, r_Model_number_7, r_Model_number_10, r_Model_number_11, r_Model_number_14, r_Model_number_15, r_Model_number_16, r_Model_number_19, r_Model_number_20, r_Model_number_21, r_Model_number_22, r_Model_number_23, r_Model_number_24, r_Model_number_25, r_Model_number_26, r_Model_number_28, r_Model_number_31, r_Model_number_32, r_Model_number_34, r_Model_number_35, r_Model_number_36, r_Model_number_39, r_Model_number_40, r_Model_number_43, r_Model_number_44, r_Model_number_46, r_Model_number_47, r_Model_number_48, r_Model_number_49, r_Model_number_51, r_Model_number_52, r_Model_number_53, r_Model_number_56, r_Model_number_57, r_Model_number_59, r_Model_number_60, r_Model_number_61, r_Model_number_64, ai_iload, ai_ifge, ai_aload, ai_const, ai_callv2, am_push, am_few, ai_ineg, ai_goto, ai_istore, am_cut_0, am_cut_s, am_c1, ai_idiv, ai_cmple, ai_imul, ai_bin, ai_ifle, ai_irem, ai_iadd, ai_vret, kd_0, fd_0_0, fd_0_1, fd_0_2, fd_0_3, fd_0_4, kd_1, fd_1_0, fd_1_1, ln_2, kd_3, fd_3_0, fd_3_1, fd_3_2, fd_3_3, fd_3_4, fd_3_5, fd_3_6, fd_3_7, fd_3_8, fd_3_9, ln_4, ln_5, ln_6, ln_7, ln_8, ln_9, ln_10, kd_11, fd_11_0, fd_11_1, fd_11_2, fd_11_3, fd_11_4, kd_12, fd_12_0, fd_12_1, fd_12_2, fd_12_3, ln_13, ln_14, ln_15, kd_16, fd_16_0, fd_16_1, fd_16_2, ln_17, kd_18, fd_18_0, fd_18_1, kd_19, fd_19_0, fd_19_1, fd_19_2, fd_19_3, fd_19_4, fd_19_5, fd_19_6, fd_19_7, fd_19_8, fd_19_9, fd_19_10, fd_19_11, fd_19_12, fd_19_13, fd_19_14, fd_19_15, fd_19_16, fd_19_17, fd_19_18, fd_19_19, fd_19_20, ln_20, ln_21, ln_22, ln_23, ln_24, ln_25, ln_26, ln_27, ln_28, ln_29, ln_30, ln_31, ln_32, List.getElem?_cons_zero, List.getElem?_cons_succ, List.set_cons_zero, List.set_cons_succ, true_and, and_true, ↓reduceIte, Int32.reduceLT, Int32.reduceLE, li_10, or_true, true_or, d9, t1, not_false_eq_true]
    exact lp_Model_number2 hG hK 9 M (by omega) (wr_rel.rf hw)
  | succ r ih =>
    intro k hk
    have t1 : ¬ tn k = 0 := nI_ne0 (Nat.pow_pos (by decide)) (Nat.lt_of_le_of_lt (Nat.pow_le_pow_right (by decide) (show k ≤ 9 by omega)) (by decide))
    have t3 : tn k * 10 = tn (k + 1) := by
      rcases (show k = 0 ∨ k = 1 ∨ k = 2 ∨ k = 3 ∨ k = 4 ∨ k = 5 ∨ k = 6 ∨ k = 7 ∨ k = 8 by omega) with rfl | rfl | rfl | rfl | rfl | rfl | rfl | rfl | rfl <;> decide
    by_cases c : 9 < l / tn k
    · refine am_from (tb_Model_number (ok_Model_say hG) (by decide)) k_Model_number 400 ?_
      simp only [q_Model_number_23, q_Model_number_39, r_Model_number_0, r_Model_number_1, r_Model_number_4, r_Model_number_5, r_Model_number_7, r_Model_number_10, r_Model_number_11, r_Model_number_14, r_Model_number_15, r_Model_number_16, r_Model_number_19, r_Model_number_20, r_Model_number_21, r_Model_number_22, r_Model_number_23, r_Model_number_24, r_Model_number_25, r_Model_number_26, r_Model_number_28, r_Model_number_31, r_Model_number_32, r_Model_number_34, r_Model_number_35, r_Model_number_36, r_Model_number_39, r_Model_number_40, r_Model_number_43, r_Model_number_44, r_Model_number_46, r_Model_number_47, r_Model_number_48, r_Model_number_49, r_Model_number_51, r_Model_number_52, r_Model_number_53, r_Model_number_56, r_Model_number_57, r_Model_number_59, r_Model_number_60, r_Model_number_61, r_Model_number_64, ai_iload, ai_ifge, ai_aload, ai_const, ai_callv2, am_push, am_few, ai_ineg, ai_goto, ai_istore, am_cut_0, am_cut_s, am_c1, ai_idiv, ai_cmple, ai_imul, ai_bin, ai_ifle, ai_irem, ai_iadd, ai_vret, kd_0, fd_0_0, fd_0_1, fd_0_2, fd_0_3, fd_0_4, kd_1, fd_1_0, fd_1_1, ln_2, kd_3, fd_3_0, fd_3_1, fd_3_2, fd_3_3, fd_3_4, fd_3_5, fd_3_6, fd_3_7, fd_3_8, fd_3_9, ln_4, ln_5, ln_6, ln_7, ln_8, ln_9, ln_10, kd_11, fd_11_0, fd_11_1, fd_11_2, fd_11_3, fd_11_4, kd_12, fd_12_0, fd_12_1, fd_12_2, fd_12_3, ln_13, ln_14, ln_15, kd_16, fd_16_0, fd_16_1, fd_16_2, ln_17, kd_18, fd_18_0, fd_18_1, kd_19, fd_19_0, fd_19_1, fd_19_2, fd_19_3, fd_19_4, fd_19_5, fd_19_6, fd_19_7, fd_19_8, fd_19_9, fd_19_10, fd_19_11, fd_19_12, fd_19_13, fd_19_14, fd_19_15, fd_19_16, fd_19_17, fd_19_18, fd_19_19, fd_19_20, ln_20, ln_21, ln_22, ln_23, ln_24, ln_25, ln_26, ln_27, ln_28, ln_29, ln_30, ln_31, ln_32, List.getElem?_cons_zero, List.getElem?_cons_succ, List.set_cons_zero, List.set_cons_succ, true_and, and_true, ↓reduceIte, Int32.reduceLT, Int32.reduceLE, li_10, or_true, true_or, c, t1, t3, not_false_eq_true]
      exact ih (k + 1) (by omega)
    · refine am_from (tb_Model_number (ok_Model_say hG) (by decide)) k_Model_number 400 ?_
      simp only [q_Model_number_23, q_Model_number_39, r_Model_number_0, r_Model_number_1, r_Model_number_4, r_Model_number_5, r_Model_number_7, r_Model_number_10, r_Model_number_11, r_Model_number_14, r_Model_number_15, r_Model_number_16, r_Model_number_19, r_Model_number_20, r_Model_number_21, r_Model_number_22, r_Model_number_23, r_Model_number_24, r_Model_number_25, r_Model_number_26, r_Model_number_28, r_Model_number_31, r_Model_number_32, r_Model_number_34, r_Model_number_35, r_Model_number_36, r_Model_number_39, r_Model_number_40, r_Model_number_43, r_Model_number_44, r_Model_number_46, r_Model_number_47, r_Model_number_48, r_Model_number_49, r_Model_number_51, r_Model_number_52, r_Model_number_53, r_Model_number_56, r_Model_number_57, r_Model_number_59, r_Model_number_60, r_Model_number_61, r_Model_number_64, ai_iload, ai_ifge, ai_aload, ai_const, ai_callv2, am_push, am_few, ai_ineg, ai_goto, ai_istore, am_cut_0, am_cut_s, am_c1, ai_idiv, ai_cmple, ai_imul, ai_bin, ai_ifle, ai_irem, ai_iadd, ai_vret, kd_0, fd_0_0, fd_0_1, fd_0_2, fd_0_3, fd_0_4, kd_1, fd_1_0, fd_1_1, ln_2, kd_3, fd_3_0, fd_3_1, fd_3_2, fd_3_3, fd_3_4, fd_3_5, fd_3_6, fd_3_7, fd_3_8, fd_3_9, ln_4, ln_5, ln_6, ln_7, ln_8, ln_9, ln_10, kd_11, fd_11_0, fd_11_1, fd_11_2, fd_11_3, fd_11_4, kd_12, fd_12_0, fd_12_1, fd_12_2, fd_12_3, ln_13, ln_14, ln_15, kd_16, fd_16_0, fd_16_1, fd_16_2, ln_17, kd_18, fd_18_0, fd_18_1, kd_19, fd_19_0, fd_19_1, fd_19_2, fd_19_3, fd_19_4, fd_19_5, fd_19_6, fd_19_7, fd_19_8, fd_19_9, fd_19_10, fd_19_11, fd_19_12, fd_19_13, fd_19_14, fd_19_15, fd_19_16, fd_19_17, fd_19_18, fd_19_19, fd_19_20, ln_20, ln_21, ln_22, ln_23, ln_24, ln_25, ln_26, ln_27, ln_28, ln_29, ln_30, ln_31, ln_32, List.getElem?_cons_zero, List.getElem?_cons_succ, List.set_cons_zero, List.set_cons_succ, true_and, and_true, ↓reduceIte, Int32.reduceLT, Int32.reduceLE, li_10, or_true, true_or, c, t1, not_false_eq_true]
      exact lp_Model_number2 hG hK k M (by omega) (wr_rel.rf hw)
set_option maxRecDepth 100000 in
set_option maxHeartbeats 4000000 in
theorem ok_Model_number0 {G : aG} (hG : am_ok G) : am_Sp G Y_Model_number 1 sp_Model_number0 := by
  intro as M K h
  unfold sp_Model_number0 at h
  split at h
  · next a v =>
    obtain ⟨rfl, hw, h⟩ := h
    by_cases c : 0 ≤ v
    · refine am_entry hG (by decide +kernel) (Nat.le_of_ble_eq_true rfl) ?_
      refine am_go (cuts := k_Model_number) (tb_Model_number (ok_Model_say hG) (by decide)) 400 _ _ _ _ ?_
      change am_run _ _ _ _ _ _ [some (.ref 19), some (.int v), none, none] [] _
      simp only [q_Model_number_23, q_Model_number_39, r_Model_number_0, r_Model_number_1, r_Model_number_4, r_Model_number_5, r_Model_number_7, r_Model_number_10, r_Model_number_11, r_Model_number_14, r_Model_number_15, r_Model_number_16, r_Model_number_19, r_Model_number_20, r_Model_number_21, r_Model_number_22, r_Model_number_23, r_Model_number_24, r_Model_number_25, r_Model_number_26, r_Model_number_28, r_Model_number_31, r_Model_number_32, r_Model_number_34, r_Model_number_35, r_Model_number_36, r_Model_number_39, r_Model_number_40, r_Model_number_43, r_Model_number_44, r_Model_number_46, r_Model_number_47, r_Model_number_48, r_Model_number_49, r_Model_number_51, r_Model_number_52, r_Model_number_53, r_Model_number_56, r_Model_number_57, r_Model_number_59, r_Model_number_60, r_Model_number_61, r_Model_number_64, ai_iload, ai_ifge, ai_aload, ai_const, ai_callv2, am_push, am_few, ai_ineg, ai_goto, ai_istore, am_cut_0, am_cut_s, am_c1, ai_idiv, ai_cmple, ai_imul, ai_bin, ai_ifle, ai_irem, ai_iadd, ai_vret, kd_0, fd_0_0, fd_0_1, fd_0_2, fd_0_3, fd_0_4, kd_1, fd_1_0, fd_1_1, ln_2, kd_3, fd_3_0, fd_3_1, fd_3_2, fd_3_3, fd_3_4, fd_3_5, fd_3_6, fd_3_7, fd_3_8, fd_3_9, ln_4, ln_5, ln_6, ln_7, ln_8, ln_9, ln_10, kd_11, fd_11_0, fd_11_1, fd_11_2, fd_11_3, fd_11_4, kd_12, fd_12_0, fd_12_1, fd_12_2, fd_12_3, ln_13, ln_14, ln_15, kd_16, fd_16_0, fd_16_1, fd_16_2, ln_17, kd_18, fd_18_0, fd_18_1, kd_19, fd_19_0, fd_19_1, fd_19_2, fd_19_3, fd_19_4, fd_19_5, fd_19_6, fd_19_7, fd_19_8, fd_19_9, fd_19_10, fd_19_11, fd_19_12, fd_19_13, fd_19_14, fd_19_15, fd_19_16, fd_19_17, fd_19_18, fd_19_19, fd_19_20, ln_20, ln_21, ln_22, ln_23, ln_24, ln_25, ln_26, ln_27, ln_28, ln_29, ln_30, ln_31, ln_32, List.getElem?_cons_zero, List.getElem?_cons_succ, List.set_cons_zero, List.set_cons_succ, true_and, and_true, ↓reduceIte, Int32.reduceLT, Int32.reduceLE, li_10, or_true, true_or, c]
      exact lp_Model_number1 hG hw h 9 0 rfl
    · refine am_entry hG (by decide +kernel) (Nat.le_of_ble_eq_true rfl) ?_
      refine am_go (cuts := k_Model_number) (tb_Model_number (ok_Model_say hG) (by decide)) 400 _ _ _ _ ?_
      change am_run _ _ _ _ _ _ [some (.ref 19), some (.int v), none, none] [] _
      simp only [q_Model_number_23, q_Model_number_39, r_Model_number_0, r_Model_number_1, r_Model_number_4, r_Model_number_5, r_Model_number_7, r_Model_number_10, r_Model_number_11, r_Model_number_14, r_Model_number_15, r_Model_number_16, r_Model_number_19, r_Model_number_20, r_Model_number_21, r_Model_number_22, r_Model_number_23, r_Model_number_24, r_Model_number_25, r_Model_number_26, r_Model_number_28, r_Model_number_31, r_Model_number_32, r_Model_number_34, r_Model_number_35, r_Model_number_36, r_Model_number_39, r_Model_number_40, r_Model_number_43, r_Model_number_44, r_Model_number_46, r_Model_number_47, r_Model_number_48, r_Model_number_49, r_Model_number_51, r_Model_number_52, r_Model_number_53, r_Model_number_56, r_Model_number_57, r_Model_number_59, r_Model_number_60, r_Model_number_61, r_Model_number_64, ai_iload, ai_ifge, ai_aload, ai_const, ai_callv2, am_push, am_few, ai_ineg, ai_goto, ai_istore, am_cut_0, am_cut_s, am_c1, ai_idiv, ai_cmple, ai_imul, ai_bin, ai_ifle, ai_irem, ai_iadd, ai_vret, kd_0, fd_0_0, fd_0_1, fd_0_2, fd_0_3, fd_0_4, kd_1, fd_1_0, fd_1_1, ln_2, kd_3, fd_3_0, fd_3_1, fd_3_2, fd_3_3, fd_3_4, fd_3_5, fd_3_6, fd_3_7, fd_3_8, fd_3_9, ln_4, ln_5, ln_6, ln_7, ln_8, ln_9, ln_10, kd_11, fd_11_0, fd_11_1, fd_11_2, fd_11_3, fd_11_4, kd_12, fd_12_0, fd_12_1, fd_12_2, fd_12_3, ln_13, ln_14, ln_15, kd_16, fd_16_0, fd_16_1, fd_16_2, ln_17, kd_18, fd_18_0, fd_18_1, kd_19, fd_19_0, fd_19_1, fd_19_2, fd_19_3, fd_19_4, fd_19_5, fd_19_6, fd_19_7, fd_19_8, fd_19_9, fd_19_10, fd_19_11, fd_19_12, fd_19_13, fd_19_14, fd_19_15, fd_19_16, fd_19_17, fd_19_18, fd_19_19, fd_19_20, ln_20, ln_21, ln_22, ln_23, ln_24, ln_25, ln_26, ln_27, ln_28, ln_29, ln_30, ln_31, ln_32, List.getElem?_cons_zero, List.getElem?_cons_succ, List.set_cons_zero, List.set_cons_succ, true_and, and_true, ↓reduceIte, Int32.reduceLT, Int32.reduceLE, li_10, or_true, true_or, ↓sp_Model_say, hw, c]
      exact lp_Model_number1 hG (m_say_rel hw).2.2 (fun N hN => h N ((m_say_rel hw).tr hN)) 9 0 rfl
  · cases h
