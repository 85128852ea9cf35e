/-! THE REFERENCE: what is plain -/
theorem li_32 : ((3 : Int32) = 2) = False := eq_false (by decide)
def m_tl (M : aM) : Nat := cl (M 19 1)
def mt_ok (M : aM) : Prop := M 19 1 = nI (m_tl M) ∧ m_tl M ≤ 400
def mN (M : aM) : Nat := cl (M 19 5)
def mc_ok (M : aM) : Prop := M 19 5 = nI (mN M) ∧ mN M ≤ 200
def mD (M : aM) : Nat := cl (M 19 11)
def md_ok (M : aM) : Prop := M 19 11 = nI (mD M) ∧ mD M ≤ 200
def m_has (M : aM) (x : Int32) : Bool := !(decide (x < 0)) && decide (x < M 19 5)
theorem m_hasD {M : aM} {x : Int32} (hc : mc_ok M) (h : m_has M x = true) : x = nI (cl x) ∧ cl x < mN M ∧ vp_in x 200 := by
  unfold m_has at h
  simp only [Bool.and_eq_true, Bool.not_eq_true', decide_eq_false_iff_not, decide_eq_true_eq] at h
  obtain ⟨j, hj, rfl⟩ := nI_of h.1
  have h2 := h.2
  rw [hc.1] at h2
  have h3 := (nI_ltI hj (by have := hc.2; omega)).mp h2
  have e : cl (nI j) = j := nI_clamp hj
  rw [e]
  exact ⟨rfl, h3, vp_in_nI (by have := hc.2; omega) (by decide)⟩
def m_apd (M : aM) (b : Int32) : aM := am_up (am_up M 20 (m_tl M) b) 19 1 (nI (m_tl M + 1))
theorem m_apd_tl {M : aM} {b : Int32} (h : m_tl M < 400) : m_tl (m_apd M b) = m_tl M + 1 := by
  show cl (m_apd M b 19 1) = _
  unfold m_apd
  simp only [am_up_ap, Nat.reduceEqDiff, ↓reduceIte]
  exact nI_clamp (by omega)
theorem m_apd_ok {M : aM} {b : Int32} (h : m_tl M < 400) : mt_ok (m_apd M b) := by
  refine ⟨?_, by rw [m_apd_tl h]; omega⟩
  rw [m_apd_tl h]
  unfold m_apd
  simp only [am_up_ap, Nat.reduceEqDiff, ↓reduceIte]
def mpb (v : Int64) (k : Nat) : Int32 := (v >>> ((8 * nI k).toInt64 &&& 63)).toInt32 &&& 255
def m_putL (v : Int64) : Nat → aM → aM
  | 0, M => M
  | k + 1, M => m_putL v k (m_apd M (mpb v k))
def m_putOk (M : aM) (n : Int32) : Bool := !(decide (n < 1)) && !(decide (8 < n)) && !(decide (400 < M 19 1 + n))
def sp_Model_put : aS := fun as M K => match as with
  | [.ref a, .long v, .int n] => a = 19 ∧ mt_ok M ∧ K (some (.int (b2 (m_putOk M n)))) (if m_putOk M n = true then m_putL v (cl n) M else M)
  | _ => False
set_option maxRecDepth 100000 in
set_option maxHeartbeats 4000000 in
theorem lp_Model_put {G : aG} (hG : am_ok G) {K : aR} {v : Int64} {n : Int32} : ∀ (k : Nat) (M : aM), mt_ok M → m_tl M + k ≤ 400 → K (some (.int 1)) (m_putL v k M) → am_X G Y_Model_put 1 K 30 [some (.ref 19), some (.long v), none, some (.int n), some (.int (nI k - 1))] [] M := by
  intro k
  induction k with
  | zero =>
    intro M ht hk h
    have e1 : nI 0 - 1 < 0 := by decide
    refine am_from tb_Model_put k_Model_put 400 ?_
    simp only [q_Model_put_30, r_Model_put_0, r_Model_put_1, r_Model_put_2, r_Model_put_5, r_Model_put_6, r_Model_put_8, r_Model_put_11, r_Model_put_12, r_Model_put_15, r_Model_put_16, r_Model_put_17, r_Model_put_20, r_Model_put_23, r_Model_put_24, r_Model_put_25, r_Model_put_26, r_Model_put_27, r_Model_put_28, r_Model_put_30, r_Model_put_32, r_Model_put_35, r_Model_put_36, r_Model_put_39, r_Model_put_40, r_Model_put_43, r_Model_put_44, r_Model_put_46, r_Model_put_48, r_Model_put_49, r_Model_put_50, r_Model_put_51, r_Model_put_54, r_Model_put_55, r_Model_put_56, r_Model_put_57, r_Model_put_58, r_Model_put_61, r_Model_put_62, r_Model_put_63, r_Model_put_66, r_Model_put_69, r_Model_put_72, r_Model_put_73, ai_iload, ai_const, ai_cmplt, ai_cmpgt, ai_aload, ai_getf, ai_iadd, ai_bin, ai_cmple, ai_zret, ai_isub, ai_istore, am_cut_0, am_cut_s, am_c1, ai_iflt, ai_lload, ai_imul, ai_lshr, ai_l2i, ai_iand, ai_iast, ai_putf, ai_iinc, ai_goto, kd_0, fd_0_0, fd_0_1, fd_0_2, fd_0_3, fd_0_4, kd_1, fd_1_0, fd_1_1, ln_2, kd_3, fd_3_0, fd_3_1, fd_3_2, fd_3_3, fd_3_4, fd_3_5, fd_3_6, fd_3_7, fd_3_8, fd_3_9, ln_4, ln_5, ln_6, ln_7, ln_8, ln_9, ln_10, kd_11, fd_11_0, fd_11_1, fd_11_2, fd_11_3, fd_11_4, kd_12, fd_12_0, fd_12_1, fd_12_2, fd_12_3, ln_13, ln_14, ln_15, kd_16, fd_16_0, fd_16_1, fd_16_2, ln_17, kd_18, fd_18_0, fd_18_1, kd_19, fd_19_0, fd_19_1, fd_19_2, fd_19_3, fd_19_4, fd_19_5, fd_19_6, fd_19_7, fd_19_8, fd_19_9, fd_19_10, fd_19_11, fd_19_12, fd_19_13, fd_19_14, fd_19_15, fd_19_16, fd_19_17, fd_19_18, fd_19_19, fd_19_20, ln_20, ln_21, ln_22, ln_23, ln_24, ln_25, ln_26, ln_27, ln_28, ln_29, ln_30, ln_31, ln_32, List.getElem?_cons_zero, List.getElem?_cons_succ, List.set_cons_zero, List.set_cons_succ, true_and, and_true, ↓reduceIte, Int32.reduceLT, Int32.reduceLE, li_10, or_true, true_or, e1]
    exact h
  | succ k ih =>
    intro M ht hk h
    have e1 : ¬ nI k < 0 := nI_pos (by omega)
    have e2 : m_tl M < 400 := by omega
    have e3 : vp_in (M 19 1) 400 := by rw [ht.1]; exact vp_in_nI e2 (by decide)
    have en : nI k + (-1) = nI k - 1 := (Int32.sub_eq_add_neg _ _).symm
    rw [nI_pred]
    refine am_from tb_Model_put k_Model_put 400 ?_
    simp only [q_Model_put_30, r_Model_put_0, r_Model_put_1, r_Model_put_2, r_Model_put_5, r_Model_put_6, r_Model_put_8, r_Model_put_11, r_Model_put_12, r_Model_put_15, r_Model_put_16, r_Model_put_17, r_Model_put_20, r_Model_put_23, r_Model_put_24, r_Model_put_25, r_Model_put_26, r_Model_put_27, r_Model_put_28, r_Model_put_30, r_Model_put_32, r_Model_put_35, r_Model_put_36, r_Model_put_39, r_Model_put_40, r_Model_put_43, r_Model_put_44, r_Model_put_46, r_Model_put_48, r_Model_put_49, r_Model_put_50, r_Model_put_51, r_Model_put_54, r_Model_put_55, r_Model_put_56, r_Model_put_57, r_Model_put_58, r_Model_put_61, r_Model_put_62, r_Model_put_63, r_Model_put_66, r_Model_put_69, r_Model_put_72, r_Model_put_73, ai_iload, ai_const, ai_cmplt, ai_cmpgt, ai_aload, ai_getf, ai_iadd, ai_bin, ai_cmple, ai_zret, ai_isub, ai_istore, am_cut_0, am_cut_s, am_c1, ai_iflt, ai_lload, ai_imul, ai_lshr, ai_l2i, ai_iand, ai_iast, ai_putf, ai_iinc, ai_goto, kd_0, fd_0_0, fd_0_1, fd_0_2, fd_0_3, fd_0_4, kd_1, fd_1_0, fd_1_1, ln_2, kd_3, fd_3_0, fd_3_1, fd_3_2, fd_3_3, fd_3_4, fd_3_5, fd_3_6, fd_3_7, fd_3_8, fd_3_9, ln_4, ln_5, ln_6, ln_7, ln_8, ln_9, ln_10, kd_11, fd_11_0, fd_11_1, fd_11_2, fd_11_3, fd_11_4, kd_12, fd_12_0, fd_12_1, fd_12_2, fd_12_3, ln_13, ln_14, ln_15, kd_16, fd_16_0, fd_16_1, fd_16_2, ln_17, kd_18, fd_18_0, fd_18_1, kd_19, fd_19_0, fd_19_1, fd_19_2, fd_19_3, fd_19_4, fd_19_5, fd_19_6, fd_19_7, fd_19_8, fd_19_9, fd_19_10, fd_19_11, fd_19_12, fd_19_13, fd_19_14, fd_19_15, fd_19_16, fd_19_17, fd_19_18, fd_19_19, fd_19_20, ln_20, ln_21, ln_22, ln_23, ln_24, ln_25, ln_26, ln_27, ln_28, ln_29, ln_30, ln_31, ln_32, List.getElem?_cons_zero, List.getElem?_cons_succ, List.set_cons_zero, List.set_cons_succ, true_and, and_true, ↓reduceIte, Int32.reduceLT, Int32.reduceLE, li_10, or_true, true_or, e1, e3, en, am_up_ap, Nat.reduceEqDiff]
    have e4 : M 19 1 + 1 = nI (m_tl M + 1) := by rw [← nI_1, ← ht.1]
    rw [e4]
    exact ih (m_apd M (mpb v k)) (m_apd_ok e2) (by rw [m_apd_tl e2]; omega) h
set_option maxRecDepth 100000 in
set_option maxHeartbeats 4000000 in
theorem ok_Model_put {G : aG} (hG : am_ok G) : am_Sp G Y_Model_put 1 sp_Model_put := by
  intro as M K h
  unfold sp_Model_put at h
  split at h
  · next a v n =>
    obtain ⟨rfl, ht, h⟩ := h
    unfold m_putOk at h
    by_cases c1 : n < 1
    · refine am_entry hG (by decide +kernel) (Nat.le_of_ble_eq_true rfl) ?_
      refine am_go (cuts := k_Model_put) tb_Model_put 400 _ _ _ _ ?_
      change am_run _ _ _ _ _ _ [some (.ref 19), some (.long v), none, some (.int n), none] [] _
      simp only [q_Model_put_30, r_Model_put_0, r_Model_put_1, r_Model_put_2, r_Model_put_5, r_Model_put_6, r_Model_put_8, r_Model_put_11, r_Model_put_12, r_Model_put_15, r_Model_put_16, r_Model_put_17, r_Model_put_20, r_Model_put_23, r_Model_put_24, r_Model_put_25, r_Model_put_26, r_Model_put_27, r_Model_put_28, r_Model_put_30, r_Model_put_32, r_Model_put_35, r_Model_put_36, r_Model_put_39, r_Model_put_40, r_Model_put_43, r_Model_put_44, r_Model_put_46, r_Model_put_48, r_Model_put_49, r_Model_put_50, r_Model_put_51, r_Model_put_54, r_Model_put_55, r_Model_put_56, r_Model_put_57, r_Model_put_58, r_Model_put_61, r_Model_put_62, r_Model_put_63, r_Model_put_66, r_Model_put_69, r_Model_put_72, r_Model_put_73, ai_iload, ai_const, ai_cmplt, ai_cmpgt, ai_aload, ai_getf, ai_iadd, ai_bin, ai_cmple, ai_zret, ai_isub, ai_istore, am_cut_0, am_cut_s, am_c1, ai_iflt, ai_lload, ai_imul, ai_lshr, ai_l2i, ai_iand, ai_iast, ai_putf, ai_iinc, ai_goto, kd_0, fd_0_0, fd_0_1, fd_0_2, fd_0_3, fd_0_4, kd_1, fd_1_0, fd_1_1, ln_2, kd_3, fd_3_0, fd_3_1, fd_3_2, fd_3_3, fd_3_4, fd_3_5, fd_3_6, fd_3_7, fd_3_8, fd_3_9, ln_4, ln_5, ln_6, ln_7, ln_8, ln_9, ln_10, kd_11, fd_11_0, fd_11_1, fd_11_2, fd_11_3, fd_11_4, kd_12, fd_12_0, fd_12_1, fd_12_2, fd_12_3, ln_13, ln_14, ln_15, kd_16, fd_16_0, fd_16_1, fd_16_2, ln_17, kd_18, fd_18_0, fd_18_1, kd_19, fd_19_0, fd_19_1, fd_19_2, fd_19_3, fd_19_4, fd_19_5, fd_19_6, fd_19_7, fd_19_8, fd_19_9, fd_19_10, fd_19_11, fd_19_12, fd_19_13, fd_19_14, fd_19_15, fd_19_16, fd_19_17, fd_19_18, fd_19_19, fd_19_20, ln_20, ln_21, ln_22, ln_23, ln_24, ln_25, ln_26, ln_27, ln_28, ln_29, ln_30, ln_31, ln_32, List.getElem?_cons_zero, List.getElem?_cons_succ, List.set_cons_zero, List.set_cons_succ, true_and, and_true, ↓reduceIte, Int32.reduceLT, Int32.reduceLE, li_10, or_true, true_or, c1]
      simp [c1, b2] at h
      exact h
    by_cases c2 : 8 < n
    · refine am_entry hG (by decide +kernel) (Nat.le_of_ble_eq_true rfl) ?_
      refine am_go (cuts := k_Model_put) tb_Model_put 400 _ _ _ _ ?_
      change am_run _ _ _ _ _ _ [some (.ref 19), some (.long v), none, some (.int n), none] [] _
      simp only [q_Model_put_30, r_Model_put_0, r_Model_put_1, r_Model_put_2, r_Model_put_5, r_Model_put_6, r_Model_put_8, r_Model_put_11, r_Model_put_12, r_Model_put_15, r_Model_put_16, r_Model_put_17, r_Model_put_20, r_Model_put_23, r_Model_put_24, r_Model_put_25, r_Model_put_26, r_Model_put_27, r_Model_put_28, r_Model_put_30, r_Model_put_32, r_Model_put_35, r_Model_put_36, r_Model_put_39, r_Model_put_40, r_Model_put_43, r_Model_put_44, r_Model_put_46, r_Model_put_48, r_Model_put_49, r_Model_put_50, r_Model_put_51, r_Model_put_54, r_Model_put_55, r_Model_put_56, r_Model_put_57, r_Model_put_58, r_Model_put_61, r_Model_put_62, r_Model_put_63, r_Model_put_66, r_Model_put_69, r_Model_put_72, r_Model_put_73, ai_iload, ai_const, ai_cmplt, ai_cmpgt, ai_aload, ai_getf, ai_iadd, ai_bin, ai_cmple, ai_zret, ai_isub, ai_istore, am_cut_0, am_cut_s, am_c1, ai_iflt, ai_lload, ai_imul, ai_lshr, ai_l2i, ai_iand, ai_iast, ai_putf, ai_iinc, ai_goto, kd_0, fd_0_0, fd_0_1, fd_0_2, fd_0_3, fd_0_4, kd_1, fd_1_0, fd_1_1, ln_2, kd_3, fd_3_0, fd_3_1, fd_3_2, fd_3_3, fd_3_4, fd_3_5, fd_3_6, fd_3_7, fd_3_8, fd_3_9, ln_4, ln_5, ln_6, ln_7, ln_8, ln_9, ln_10, kd_11, fd_11_0, fd_11_1, fd_11_2, fd_11_3, fd_11_4, kd_12, fd_12_0, fd_12_1, fd_12_2, fd_12_3, ln_13, ln_14, ln_15, kd_16, fd_16_0, fd_16_1, fd_16_2, ln_17, kd_18, fd_18_0, fd_18_1, kd_19, fd_19_0, fd_19_1, fd_19_2, fd_19_3, fd_19_4, fd_19_5, fd_19_6, fd_19_7, fd_19_8, fd_19_9, fd_19_10, fd_19_11, fd_19_12, fd_19_13, fd_19_14, fd_19_15, fd_19_16, fd_19_17, fd_19_18, fd_19_19, fd_19_20, ln_20, ln_21, ln_22, ln_23, ln_24, ln_25, ln_26, ln_27, ln_28, ln_29, ln_30, ln_31, ln_32, List.getElem?_cons_zero, List.getElem?_cons_succ, List.set_cons_zero, List.set_cons_succ, true_and, and_true, ↓reduceIte, Int32.reduceLT, Int32.reduceLE, li_10, or_true, true_or, c1, c2]
      simp [c2, b2] at h
      exact h
    by_cases c3 : 400 < M 19 1 + n
    · refine am_entry hG (by decide +kernel) (Nat.le_of_ble_eq_true rfl) ?_
      refine am_go (cuts := k_Model_put) tb_Model_put 400 _ _ _ _ ?_
      change am_run _ _ _ _ _ _ [some (.ref 19), some (.long v), none, some (.int n), none] [] _
      simp only [q_Model_put_30, r_Model_put_0, r_Model_put_1, r_Model_put_2, r_Model_put_5, r_Model_put_6, r_Model_put_8, r_Model_put_11, r_Model_put_12, r_Model_put_15, r_Model_put_16, r_Model_put_17, r_Model_put_20, r_Model_put_23, r_Model_put_24, r_Model_put_25, r_Model_put_26, r_Model_put_27, r_Model_put_28, r_Model_put_30, r_Model_put_32, r_Model_put_35, r_Model_put_36, r_Model_put_39, r_Model_put_40, r_Model_put_43, r_Model_put_44, r_Model_put_46, r_Model_put_48, r_Model_put_49, r_Model_put_50, r_Model_put_51, r_Model_put_54, r_Model_put_55, r_Model_put_56, r_Model_put_57, r_Model_put_58, r_Model_put_61, r_Model_put_62, r_Model_put_63, r_Model_put_66, r_Model_put_69, r_Model_put_72, r_Model_put_73, ai_iload, ai_const, ai_cmplt, ai_cmpgt, ai_aload, ai_getf, ai_iadd, ai_bin, ai_cmple, ai_zret, ai_isub, ai_istore, am_cut_0, am_cut_s, am_c1, ai_iflt, ai_lload, ai_imul, ai_lshr, ai_l2i, ai_iand, ai_iast, ai_putf, ai_iinc, ai_goto, kd_0, fd_0_0, fd_0_1, fd_0_2, fd_0_3, fd_0_4, kd_1, fd_1_0, fd_1_1, ln_2, kd_3, fd_3_0, fd_3_1, fd_3_2, fd_3_3, fd_3_4, fd_3_5, fd_3_6, fd_3_7, fd_3_8, fd_3_9, ln_4, ln_5, ln_6, ln_7, ln_8, ln_9, ln_10, kd_11, fd_11_0, fd_11_1, fd_11_2, fd_11_3, fd_11_4, kd_12, fd_12_0, fd_12_1, fd_12_2, fd_12_3, ln_13, ln_14, ln_15, kd_16, fd_16_0, fd_16_1, fd_16_2, ln_17, kd_18, fd_18_0, fd_18_1, kd_19, fd_19_0, fd_19_1, fd_19_2, fd_19_3, fd_19_4, fd_19_5, fd_19_6, fd_19_7, fd_19_8, fd_19_9, fd_19_10, fd_19_11, fd_19_12, fd_19_13, fd_19_14, fd_19_15, fd_19_16, fd_19_17, fd_19_18, fd_19_19, fd_19_20, ln_20, ln_21, ln_22, ln_23, ln_24, ln_25, ln_26, ln_27, ln_28, ln_29, ln_30, ln_31, ln_32, List.getElem?_cons_zero, List.getElem?_cons_succ, List.set_cons_zero, List.set_cons_succ, true_and, and_true, ↓reduceIte, Int32.reduceLT, Int32.reduceLE, li_10, or_true, true_or, c1, c2, c3]
      simp [c3, b2] at h
      exact h
    refine am_entry hG (by decide +kernel) (Nat.le_of_ble_eq_true rfl) ?_
    refine am_go (cuts := k_Model_put) tb_Model_put 400 _ _ _ _ ?_
    change am_run _ _ _ _ _ _ [some (.ref 19), some (.long v), none, some (.int n), none] [] _
    simp only [q_Model_put_30, r_Model_put_0, r_Model_put_1, r_Model_put_2, r_Model_put_5, r_Model_put_6, r_Model_put_8, r_Model_put_11, r_Model_put_12, r_Model_put_15, r_Model_put_16, r_Model_put_17, r_Model_put_20, r_Model_put_23, r_Model_put_24, r_Model_put_25, r_Model_put_26, r_Model_put_27, r_Model_put_28, r_Model_put_30, r_Model_put_32, r_Model_put_35, r_Model_put_36, r_Model_put_39, r_Model_put_40, r_Model_put_43, r_Model_put_44, r_Model_put_46, r_Model_put_48, r_Model_put_49, r_Model_put_50, r_Model_put_51, r_Model_put_54, r_Model_put_55, r_Model_put_56, r_Model_put_57, r_Model_put_58, r_Model_put_61, r_Model_put_62, r_Model_put_63, r_Model_put_66, r_Model_put_69, r_Model_put_72, r_Model_put_73, ai_iload, ai_const, ai_cmplt, ai_cmpgt, ai_aload, ai_getf, ai_iadd, ai_bin, ai_cmple, ai_zret, ai_isub, ai_istore, am_cut_0, am_cut_s, am_c1, ai_iflt, ai_lload, ai_imul, ai_lshr, ai_l2i, ai_iand, ai_iast, ai_putf, ai_iinc, ai_goto, kd_0, fd_0_0, fd_0_1, fd_0_2, fd_0_3, fd_0_4, kd_1, fd_1_0, fd_1_1, ln_2, kd_3, fd_3_0, fd_3_1, fd_3_2, fd_3_3, fd_3_4, fd_3_5, fd_3_6, fd_3_7, fd_3_8, fd_3_9, ln_4, ln_5, ln_6, ln_7, ln_8, ln_9, ln_10, kd_11, fd_11_0, fd_11_1, fd_11_2, fd_11_3, fd_11_4, kd_12, fd_12_0, fd_12_1, fd_12_2, fd_12_3, ln_13, ln_14, ln_15, kd_16, fd_16_0, fd_16_1, fd_16_2, ln_17, kd_18, fd_18_0, fd_18_1, kd_19, fd_19_0, fd_19_1, fd_19_2, fd_19_3, fd_19_4, fd_19_5, fd_19_6, fd_19_7, fd_19_8, fd_19_9, fd_19_10, fd_19_11, fd_19_12, fd_19_13, fd_19_14, fd_19_15, fd_19_16, fd_19_17, fd_19_18, fd_19_19, fd_19_20, ln_20, ln_21, ln_22, ln_23, ln_24, ln_25, ln_26, ln_27, ln_28, ln_29, ln_30, ln_31, ln_32, List.getElem?_cons_zero, List.getElem?_cons_succ, List.set_cons_zero, List.set_cons_succ, true_and, and_true, ↓reduceIte, Int32.reduceLT, Int32.reduceLE, li_10, or_true, true_or, c1, c2, c3]
    simp only [c1, c2, c3, decide_false, Bool.not_false, Bool.and_self, ↓reduceIte] at h
    have h1 : ¬ n < 0 := fun q => c1 (Int32.lt_trans q (by decide))
    obtain ⟨j, hj, rfl⟩ := nI_of h1
    rw [show cl (nI j) = j from nI_clamp hj] at h
    have h8 : j ≤ 8 := by
      apply Nat.le_of_not_lt
      intro q
      exact c2 (nI_lt (a := 8) q hj)
    have h4 : m_tl M + j ≤ 400 := by
      apply Nat.le_of_not_lt
      intro q
      apply c3
      rw [ht.1, nI_add]
      exact nI_lt (a := 400) q (by have := ht.2; omega)
    exact lp_Model_put hG j M ht h4 h
  · cases h
def sp_Model_place : aS := fun as M K => match as with
  | [.ref a] => a = 19 ∧ K (some (.int (M 19 4))) M
  | _ => False
set_option maxRecDepth 100000 in
set_option maxHeartbeats 4000000 in
theorem ok_Model_place {G : aG} (hG : am_ok G) : am_Sp G Y_Model_place 1 sp_Model_place := by
  intro as M K h
  unfold sp_Model_place at h
  split at h
  · next a =>
    obtain ⟨rfl, h⟩ := h
    refine am_entry hG (by decide +kernel) (Nat.le_of_ble_eq_true rfl) ?_
    refine am_go (cuts := k_Model_place) tb_Model_place 400 _ _ _ _ ?_
    change am_run _ _ _ _ _ _ [some (.ref 19)] [] _
    simp only [r_Model_place_0, r_Model_place_1, r_Model_place_4, ai_aload, ai_getf, ai_iret, kd_0, fd_0_0, fd_0_1, fd_0_2, fd_0_3, fd_0_4, kd_1, fd_1_0, fd_1_1, ln_2, kd_3, fd_3_0, fd_3_1, fd_3_2, fd_3_3, fd_3_4, fd_3_5, fd_3_6, fd_3_7, fd_3_8, fd_3_9, ln_4, ln_5, ln_6, ln_7, ln_8, ln_9, ln_10, kd_11, fd_11_0, fd_11_1, fd_11_2, fd_11_3, fd_11_4, kd_12, fd_12_0, fd_12_1, fd_12_2, fd_12_3, ln_13, ln_14, ln_15, kd_16, fd_16_0, fd_16_1, fd_16_2, ln_17, kd_18, fd_18_0, fd_18_1, kd_19, fd_19_0, fd_19_1, fd_19_2, fd_19_3, fd_19_4, fd_19_5, fd_19_6, fd_19_7, fd_19_8, fd_19_9, fd_19_10, fd_19_11, fd_19_12, fd_19_13, fd_19_14, fd_19_15, fd_19_16, fd_19_17, fd_19_18, fd_19_19, fd_19_20, ln_20, ln_21, ln_22, ln_23, ln_24, ln_25, ln_26, ln_27, ln_28, ln_29, ln_30, ln_31, ln_32, List.getElem?_cons_zero, List.getElem?_cons_succ, List.set_cons_zero, List.set_cons_succ, true_and, and_true, ↓reduceIte, Int32.reduceLT, Int32.reduceLE, li_10, or_true, true_or]
    exact h
  · cases h
def sp_Model_isNode : aS := fun as M K => match as with
  | [.ref a, .int x] => a = 19 ∧ K (some (.int (b2 (m_has M x)))) M
  | _ => False
set_option maxRecDepth 100000 in
set_option maxHeartbeats 4000000 in
theorem ok_Model_isNode {G : aG} (hG : am_ok G) : am_Sp G Y_Model_isNode 0 sp_Model_isNode := by
  intro as M K h
  unfold sp_Model_isNode at h
  split at h
  · next a x =>
    obtain ⟨rfl, h⟩ := h
    unfold m_has at h
    refine am_entry hG (by decide +kernel) (Nat.le_of_ble_eq_true rfl) ?_
    refine am_go (cuts := k_Model_isNode) tb_Model_isNode 400 _ _ _ _ ?_
    change am_run _ _ _ _ _ _ [some (.ref 19), some (.int x)] [] _
    simp only [r_Model_isNode_0, r_Model_isNode_1, r_Model_isNode_4, r_Model_isNode_5, r_Model_isNode_6, r_Model_isNode_9, r_Model_isNode_12, r_Model_isNode_13, r_Model_isNode_16, r_Model_isNode_17, ai_iload, ai_iflt, ai_aload, ai_getf, ai_cmpge, ai_const, ai_goto, ai_zret, kd_0, fd_0_0, fd_0_1, fd_0_2, fd_0_3, fd_0_4, kd_1, fd_1_0, fd_1_1, ln_2, kd_3, fd_3_0, fd_3_1, fd_3_2, fd_3_3, fd_3_4, fd_3_5, fd_3_6, fd_3_7, fd_3_8, fd_3_9, ln_4, ln_5, ln_6, ln_7, ln_8, ln_9, ln_10, kd_11, fd_11_0, fd_11_1, fd_11_2, fd_11_3, fd_11_4, kd_12, fd_12_0, fd_12_1, fd_12_2, fd_12_3, ln_13, ln_14, ln_15, kd_16, fd_16_0, fd_16_1, fd_16_2, ln_17, kd_18, fd_18_0, fd_18_1, kd_19, fd_19_0, fd_19_1, fd_19_2, fd_19_3, fd_19_4, fd_19_5, fd_19_6, fd_19_7, fd_19_8, fd_19_9, fd_19_10, fd_19_11, fd_19_12, fd_19_13, fd_19_14, fd_19_15, fd_19_16, fd_19_17, fd_19_18, fd_19_19, fd_19_20, ln_20, ln_21, ln_22, ln_23, ln_24, ln_25, ln_26, ln_27, ln_28, ln_29, ln_30, ln_31, ln_32, List.getElem?_cons_zero, List.getElem?_cons_succ, List.set_cons_zero, List.set_cons_succ, true_and, and_true, ↓reduceIte, Int32.reduceLT, Int32.reduceLE, li_10, or_true, true_or]
    by_cases c1 : x < 0
    · rw [if_pos c1]; simp [c1, b2] at h; exact h
    · rw [if_neg c1]
      by_cases c2 : x < M 19 5
      · rw [if_pos c2]; simp [c1, c2, b2] at h; exact h
      · rw [if_neg c2]; simp [c2, b2] at h; exact h
  · cases h
def m_data (M : aM) (k : Int32) : Int32 := if k < 0 then -1 else if k < M 19 11 then M 26 (cl k) else -1
def sp_Model_datum : aS := fun as M K => match as with
  | [.ref a, .int k] => a = 19 ∧ md_ok M ∧ K (some (.int (m_data M k))) M
  | _ => False
set_option maxRecDepth 100000 in
set_option maxHeartbeats 4000000 in
theorem ok_Model_datum {G : aG} (hG : am_ok G) : am_Sp G Y_Model_datum 1 sp_Model_datum := by
  intro as M K h
  unfold sp_Model_datum at h
  split at h
  · next a k =>
    obtain ⟨rfl, hd, h⟩ := h
    unfold m_data at h
    by_cases c1 : k < 0
    · rw [if_pos c1] at h
      refine am_entry hG (by decide +kernel) (Nat.le_of_ble_eq_true rfl) ?_
      refine am_go (cuts := k_Model_datum) tb_Model_datum 400 _ _ _ _ ?_
      change am_run _ _ _ _ _ _ [some (.ref 19), some (.int k)] [] _
      simp only [r_Model_datum_0, r_Model_datum_1, r_Model_datum_4, r_Model_datum_5, r_Model_datum_6, r_Model_datum_9, r_Model_datum_12, r_Model_datum_13, r_Model_datum_16, r_Model_datum_17, r_Model_datum_18, r_Model_datum_21, r_Model_datum_22, ai_iload, ai_iflt, ai_aload, ai_getf, ai_cmpge, ai_iald, ai_goto, ai_const, ai_iret, kd_0, fd_0_0, fd_0_1, fd_0_2, fd_0_3, fd_0_4, kd_1, fd_1_0, fd_1_1, ln_2, kd_3, fd_3_0, fd_3_1, fd_3_2, fd_3_3, fd_3_4, fd_3_5, fd_3_6, fd_3_7, fd_3_8, fd_3_9, ln_4, ln_5, ln_6, ln_7, ln_8, ln_9, ln_10, kd_11, fd_11_0, fd_11_1, fd_11_2, fd_11_3, fd_11_4, kd_12, fd_12_0, fd_12_1, fd_12_2, fd_12_3, ln_13, ln_14, ln_15, kd_16, fd_16_0, fd_16_1, fd_16_2, ln_17, kd_18, fd_18_0, fd_18_1, kd_19, fd_19_0, fd_19_1, fd_19_2, fd_19_3, fd_19_4, fd_19_5, fd_19_6, fd_19_7, fd_19_8, fd_19_9, fd_19_10, fd_19_11, fd_19_12, fd_19_13, fd_19_14, fd_19_15, fd_19_16, fd_19_17, fd_19_18, fd_19_19, fd_19_20, ln_20, ln_21, ln_22, ln_23, ln_24, ln_25, ln_26, ln_27, ln_28, ln_29, ln_30, ln_31, ln_32, List.getElem?_cons_zero, List.getElem?_cons_succ, List.set_cons_zero, List.set_cons_succ, true_and, and_true, ↓reduceIte, Int32.reduceLT, Int32.reduceLE, li_10, or_true, true_or, c1]
      exact h
    rw [if_neg c1] at h
    by_cases c2 : k < M 19 11
    · rw [if_pos c2] at h
      have c3 : vp_in k 200 := by
        obtain ⟨j, hj, rfl⟩ := nI_of c1
        rw [hd.1] at c2
        have := (nI_ltI hj (by have := hd.2; omega)).mp c2
        exact vp_in_nI (by have := hd.2; omega) (by decide)
      refine am_entry hG (by decide +kernel) (Nat.le_of_ble_eq_true rfl) ?_
      refine am_go (cuts := k_Model_datum) tb_Model_datum 400 _ _ _ _ ?_
      change am_run _ _ _ _ _ _ [some (.ref 19), some (.int k)] [] _
      simp only [r_Model_datum_0, r_Model_datum_1, r_Model_datum_4, r_Model_datum_5, r_Model_datum_6, r_Model_datum_9, r_Model_datum_12, r_Model_datum_13, r_Model_datum_16, r_Model_datum_17, r_Model_datum_18, r_Model_datum_21, r_Model_datum_22, ai_iload, ai_iflt, ai_aload, ai_getf, ai_cmpge, ai_iald, ai_goto, ai_const, ai_iret, kd_0, fd_0_0, fd_0_1, fd_0_2, fd_0_3, fd_0_4, kd_1, fd_1_0, fd_1_1, ln_2, kd_3, fd_3_0, fd_3_1, fd_3_2, fd_3_3, fd_3_4, fd_3_5, fd_3_6, fd_3_7, fd_3_8, fd_3_9, ln_4, ln_5, ln_6, ln_7, ln_8, ln_9, ln_10, kd_11, fd_11_0, fd_11_1, fd_11_2, fd_11_3, fd_11_4, kd_12, fd_12_0, fd_12_1, fd_12_2, fd_12_3, ln_13, ln_14, ln_15, kd_16, fd_16_0, fd_16_1, fd_16_2, ln_17, kd_18, fd_18_0, fd_18_1, kd_19, fd_19_0, fd_19_1, fd_19_2, fd_19_3, fd_19_4, fd_19_5, fd_19_6, fd_19_7, fd_19_8, fd_19_9, fd_19_10, fd_19_11, fd_19_12, fd_19_13, fd_19_14, fd_19_15, fd_19_16, fd_19_17, fd_19_18, fd_19_19, fd_19_20, ln_20, ln_21, ln_22, ln_23, ln_24, ln_25, ln_26, ln_27, ln_28, ln_29, ln_30, ln_31, ln_32, List.getElem?_cons_zero, List.getElem?_cons_succ, List.set_cons_zero, List.set_cons_succ, true_and, and_true, ↓reduceIte, Int32.reduceLT, Int32.reduceLE, li_10, or_true, true_or, c1, c2, c3]
      exact h
    · rw [if_neg c2] at h
      refine am_entry hG (by decide +kernel) (Nat.le_of_ble_eq_true rfl) ?_
      refine am_go (cuts := k_Model_datum) tb_Model_datum 400 _ _ _ _ ?_
      change am_run _ _ _ _ _ _ [some (.ref 19), some (.int k)] [] _
      simp only [r_Model_datum_0, r_Model_datum_1, r_Model_datum_4, r_Model_datum_5, r_Model_datum_6, r_Model_datum_9, r_Model_datum_12, r_Model_datum_13, r_Model_datum_16, r_Model_datum_17, r_Model_datum_18, r_Model_datum_21, r_Model_datum_22, ai_iload, ai_iflt, ai_aload, ai_getf, ai_cmpge, ai_iald, ai_goto, ai_const, ai_iret, kd_0, fd_0_0, fd_0_1, fd_0_2, fd_0_3, fd_0_4, kd_1, fd_1_0, fd_1_1, ln_2, kd_3, fd_3_0, fd_3_1, fd_3_2, fd_3_3, fd_3_4, fd_3_5, fd_3_6, fd_3_7, fd_3_8, fd_3_9, ln_4, ln_5, ln_6, ln_7, ln_8, ln_9, ln_10, kd_11, fd_11_0, fd_11_1, fd_11_2, fd_11_3, fd_11_4, kd_12, fd_12_0, fd_12_1, fd_12_2, fd_12_3, ln_13, ln_14, ln_15, kd_16, fd_16_0, fd_16_1, fd_16_2, ln_17, kd_18, fd_18_0, fd_18_1, kd_19, fd_19_0, fd_19_1, fd_19_2, fd_19_3, fd_19_4, fd_19_5, fd_19_6, fd_19_7, fd_19_8, fd_19_9, fd_19_10, fd_19_11, fd_19_12, fd_19_13, fd_19_14, fd_19_15, fd_19_16, fd_19_17, fd_19_18, fd_19_19, fd_19_20, ln_20, ln_21, ln_22, ln_23, ln_24, ln_25, ln_26, ln_27, ln_28, ln_29, ln_30, ln_31, ln_32, List.getElem?_cons_zero, List.getElem?_cons_succ, List.set_cons_zero, List.set_cons_succ, true_and, and_true, ↓reduceIte, Int32.reduceLT, Int32.reduceLE, li_10, or_true, true_or, c1, c2]
      exact h
  · cases h
def m_kind (M : aM) (x : Int32) : Int32 := if m_has M x = true then M 21 (cl x) else 0
def sp_Model_kind : aS := fun as M K => match as with
  | [.ref a, .int x] => a = 19 ∧ mc_ok M ∧ K (some (.int (m_kind M x))) M
  | _ => False
set_option maxRecDepth 100000 in
set_option maxHeartbeats 4000000 in
theorem ok_Model_kind {G : aG} (hG : am_ok G) : am_Sp G Y_Model_kind 1 sp_Model_kind := by
  intro as M K h
  unfold sp_Model_kind at h
  split at h
  · next a x =>
    obtain ⟨rfl, hc, h⟩ := h
    unfold m_kind at h
    cases c : m_has M x
    · rw [c] at h
      refine am_entry hG (by decide +kernel) (Nat.le_of_ble_eq_true rfl) ?_
      refine am_go (cuts := k_Model_kind) (tb_Model_kind (ok_Model_isNode hG) (by decide)) 400 _ _ _ _ ?_
      change am_run _ _ _ _ _ _ [some (.ref 19), some (.int x)] [] _
      simp only [r_Model_kind_0, r_Model_kind_1, r_Model_kind_2, r_Model_kind_5, r_Model_kind_8, r_Model_kind_9, r_Model_kind_12, r_Model_kind_13, r_Model_kind_14, r_Model_kind_17, r_Model_kind_18, ai_aload, ai_iload, ai_callv2, am_push, am_few, ai_ifeq, ai_getf, ai_iald, ai_goto, ai_const, ai_iret, kd_0, fd_0_0, fd_0_1, fd_0_2, fd_0_3, fd_0_4, kd_1, fd_1_0, fd_1_1, ln_2, kd_3, fd_3_0, fd_3_1, fd_3_2, fd_3_3, fd_3_4, fd_3_5, fd_3_6, fd_3_7, fd_3_8, fd_3_9, ln_4, ln_5, ln_6, ln_7, ln_8, ln_9, ln_10, kd_11, fd_11_0, fd_11_1, fd_11_2, fd_11_3, fd_11_4, kd_12, fd_12_0, fd_12_1, fd_12_2, fd_12_3, ln_13, ln_14, ln_15, kd_16, fd_16_0, fd_16_1, fd_16_2, ln_17, kd_18, fd_18_0, fd_18_1, kd_19, fd_19_0, fd_19_1, fd_19_2, fd_19_3, fd_19_4, fd_19_5, fd_19_6, fd_19_7, fd_19_8, fd_19_9, fd_19_10, fd_19_11, fd_19_12, fd_19_13, fd_19_14, fd_19_15, fd_19_16, fd_19_17, fd_19_18, fd_19_19, fd_19_20, ln_20, ln_21, ln_22, ln_23, ln_24, ln_25, ln_26, ln_27, ln_28, ln_29, ln_30, ln_31, ln_32, List.getElem?_cons_zero, List.getElem?_cons_succ, List.set_cons_zero, List.set_cons_succ, true_and, and_true, ↓reduceIte, Int32.reduceLT, Int32.reduceLE, li_10, or_true, true_or, ↓sp_Model_isNode, b2_eq0, c]
      exact h
    · rw [c] at h
      have c3 := (m_hasD hc c).2.2
      refine am_entry hG (by decide +kernel) (Nat.le_of_ble_eq_true rfl) ?_
      refine am_go (cuts := k_Model_kind) (tb_Model_kind (ok_Model_isNode hG) (by decide)) 400 _ _ _ _ ?_
      change am_run _ _ _ _ _ _ [some (.ref 19), some (.int x)] [] _
      simp only [r_Model_kind_0, r_Model_kind_1, r_Model_kind_2, r_Model_kind_5, r_Model_kind_8, r_Model_kind_9, r_Model_kind_12, r_Model_kind_13, r_Model_kind_14, r_Model_kind_17, r_Model_kind_18, ai_aload, ai_iload, ai_callv2, am_push, am_few, ai_ifeq, ai_getf, ai_iald, ai_goto, ai_const, ai_iret, kd_0, fd_0_0, fd_0_1, fd_0_2, fd_0_3, fd_0_4, kd_1, fd_1_0, fd_1_1, ln_2, kd_3, fd_3_0, fd_3_1, fd_3_2, fd_3_3, fd_3_4, fd_3_5, fd_3_6, fd_3_7, fd_3_8, fd_3_9, ln_4, ln_5, ln_6, ln_7, ln_8, ln_9, ln_10, kd_11, fd_11_0, fd_11_1, fd_11_2, fd_11_3, fd_11_4, kd_12, fd_12_0, fd_12_1, fd_12_2, fd_12_3, ln_13, ln_14, ln_15, kd_16, fd_16_0, fd_16_1, fd_16_2, ln_17, kd_18, fd_18_0, fd_18_1, kd_19, fd_19_0, fd_19_1, fd_19_2, fd_19_3, fd_19_4, fd_19_5, fd_19_6, fd_19_7, fd_19_8, fd_19_9, fd_19_10, fd_19_11, fd_19_12, fd_19_13, fd_19_14, fd_19_15, fd_19_16, fd_19_17, fd_19_18, fd_19_19, fd_19_20, ln_20, ln_21, ln_22, ln_23, ln_24, ln_25, ln_26, ln_27, ln_28, ln_29, ln_30, ln_31, ln_32, List.getElem?_cons_zero, List.getElem?_cons_succ, List.set_cons_zero, List.set_cons_succ, true_and, and_true, ↓reduceIte, Int32.reduceLT, Int32.reduceLE, li_10, or_true, true_or, ↓sp_Model_isNode, b2_eq0, c, c3, reduceCtorEq]
      exact h
  · cases h
def m_amt (M : aM) (x : Int32) : Int32 := if m_has M x = true then M 22 (cl x) else 0
def sp_Model_value : aS := fun as M K => match as with
  | [.ref a, .int x] => a = 19 ∧ mc_ok M ∧ K (some (.int (m_amt M x))) M
  | _ => False
set_option maxRecDepth 100000 in
set_option maxHeartbeats 4000000 in
theorem ok_Model_value {G : aG} (hG : am_ok G) : am_Sp G Y_Model_value 1 sp_Model_value := by
  intro as M K h
  unfold sp_Model_value at h
  split at h
  · next a x =>
    obtain ⟨rfl, hc, h⟩ := h
    unfold m_amt at h
    cases c : m_has M x
    · rw [c] at h
      refine am_entry hG (by decide +kernel) (Nat.le_of_ble_eq_true rfl) ?_
      refine am_go (cuts := k_Model_value) (tb_Model_value (ok_Model_isNode hG) (by decide)) 400 _ _ _ _ ?_
      change am_run _ _ _ _ _ _ [some (.ref 19), some (.int x)] [] _
      simp only [r_Model_value_0, r_Model_value_1, r_Model_value_2, r_Model_value_5, r_Model_value_8, r_Model_value_9, r_Model_value_12, r_Model_value_13, r_Model_value_14, r_Model_value_17, r_Model_value_18, ai_aload, ai_iload, ai_callv2, am_push, am_few, ai_ifeq, ai_getf, ai_iald, ai_goto, ai_const, ai_iret, kd_0, fd_0_0, fd_0_1, fd_0_2, fd_0_3, fd_0_4, kd_1, fd_1_0, fd_1_1, ln_2, kd_3, fd_3_0, fd_3_1, fd_3_2, fd_3_3, fd_3_4, fd_3_5, fd_3_6, fd_3_7, fd_3_8, fd_3_9, ln_4, ln_5, ln_6, ln_7, ln_8, ln_9, ln_10, kd_11, fd_11_0, fd_11_1, fd_11_2, fd_11_3, fd_11_4, kd_12, fd_12_0, fd_12_1, fd_12_2, fd_12_3, ln_13, ln_14, ln_15, kd_16, fd_16_0, fd_16_1, fd_16_2, ln_17, kd_18, fd_18_0, fd_18_1, kd_19, fd_19_0, fd_19_1, fd_19_2, fd_19_3, fd_19_4, fd_19_5, fd_19_6, fd_19_7, fd_19_8, fd_19_9, fd_19_10, fd_19_11, fd_19_12, fd_19_13, fd_19_14, fd_19_15, fd_19_16, fd_19_17, fd_19_18, fd_19_19, fd_19_20, ln_20, ln_21, ln_22, ln_23, ln_24, ln_25, ln_26, ln_27, ln_28, ln_29, ln_30, ln_31, ln_32, List.getElem?_cons_zero, List.getElem?_cons_succ, List.set_cons_zero, List.set_cons_succ, true_and, and_true, ↓reduceIte, Int32.reduceLT, Int32.reduceLE, li_10, or_true, true_or, ↓sp_Model_isNode, b2_eq0, c]
      exact h
    · rw [c] at h
      have c3 := (m_hasD hc c).2.2
      refine am_entry hG (by decide +kernel) (Nat.le_of_ble_eq_true rfl) ?_
      refine am_go (cuts := k_Model_value) (tb_Model_value (ok_Model_isNode hG) (by decide)) 400 _ _ _ _ ?_
      change am_run _ _ _ _ _ _ [some (.ref 19), some (.int x)] [] _
      simp only [r_Model_value_0, r_Model_value_1, r_Model_value_2, r_Model_value_5, r_Model_value_8, r_Model_value_9, r_Model_value_12, r_Model_value_13, r_Model_value_14, r_Model_value_17, r_Model_value_18, ai_aload, ai_iload, ai_callv2, am_push, am_few, ai_ifeq, ai_getf, ai_iald, ai_goto, ai_const, ai_iret, kd_0, fd_0_0, fd_0_1, fd_0_2, fd_0_3, fd_0_4, kd_1, fd_1_0, fd_1_1, ln_2, kd_3, fd_3_0, fd_3_1, fd_3_2, fd_3_3, fd_3_4, fd_3_5, fd_3_6, fd_3_7, fd_3_8, fd_3_9, ln_4, ln_5, ln_6, ln_7, ln_8, ln_9, ln_10, kd_11, fd_11_0, fd_11_1, fd_11_2, fd_11_3, fd_11_4, kd_12, fd_12_0, fd_12_1, fd_12_2, fd_12_3, ln_13, ln_14, ln_15, kd_16, fd_16_0, fd_16_1, fd_16_2, ln_17, kd_18, fd_18_0, fd_18_1, kd_19, fd_19_0, fd_19_1, fd_19_2, fd_19_3, fd_19_4, fd_19_5, fd_19_6, fd_19_7, fd_19_8, fd_19_9, fd_19_10, fd_19_11, fd_19_12, fd_19_13, fd_19_14, fd_19_15, fd_19_16, fd_19_17, fd_19_18, fd_19_19, fd_19_20, ln_20, ln_21, ln_22, ln_23, ln_24, ln_25, ln_26, ln_27, ln_28, ln_29, ln_30, ln_31, ln_32, List.getElem?_cons_zero, List.getElem?_cons_succ, List.set_cons_zero, List.set_cons_succ, true_and, and_true, ↓reduceIte, Int32.reduceLT, Int32.reduceLE, li_10, or_true, true_or, ↓sp_Model_isNode, b2_eq0, c, c3, reduceCtorEq]
      exact h
  · cases h
def m_isT (M : aM) (x : Int32) : Bool := m_has M x && (decide (M 21 (cl x) = 2) || decide (M 21 (cl x) = 3))
def mb_ok (M : aM) : Prop := ∀ x, m_isT M x = true → M 22 (cl x) = nI (cl (M 22 (cl x))) ∧ cl (M 22 (cl x)) ≤ 20
def m_byte (M : aM) (x k : Int32) : Int32 := if m_isT M x = true then (if k < 0 then -1 else if k < M 22 (cl x) then M 23 (20 * cl x + cl k) else -1) else -1
def sp_Model_byteAt : aS := fun as M K => match as with
  | [.ref a, .int x, .int k] => a = 19 ∧ (mc_ok M ∧ mb_ok M) ∧ K (some (.int (m_byte M x k))) M
  | _ => False
set_option maxRecDepth 100000 in
set_option maxHeartbeats 4000000 in
theorem ok_Model_byteAt {G : aG} (hG : am_ok G) : am_Sp G Y_Model_byteAt 1 sp_Model_byteAt := by
  intro as M K h
  unfold sp_Model_byteAt at h
  split at h
  · next a x k =>
    obtain ⟨rfl, ⟨hc, hb⟩, h⟩ := h
    unfold m_byte at h
    cases c : m_has M x
    · have c2 : m_isT M x = false := by unfold m_isT; rw [c]; rfl
      rw [c2] at h
      refine am_entry hG (by decide +kernel) (Nat.le_of_ble_eq_true rfl) ?_
      refine am_go (cuts := k_Model_byteAt) (tb_Model_byteAt (ok_Model_isNode hG) (by decide)) 400 _ _ _ _ ?_
      change am_run _ _ _ _ _ _ [some (.ref 19), some (.int x), some (.int k), none] [] _
      simp only [r_Model_byteAt_0, r_Model_byteAt_1, r_Model_byteAt_2, r_Model_byteAt_5, r_Model_byteAt_8, r_Model_byteAt_9, r_Model_byteAt_12, r_Model_byteAt_13, r_Model_byteAt_14, r_Model_byteAt_15, r_Model_byteAt_18, r_Model_byteAt_19, r_Model_byteAt_22, r_Model_byteAt_23, r_Model_byteAt_24, r_Model_byteAt_25, r_Model_byteAt_28, r_Model_byteAt_29, r_Model_byteAt_32, r_Model_byteAt_33, r_Model_byteAt_34, r_Model_byteAt_37, r_Model_byteAt_38, r_Model_byteAt_39, r_Model_byteAt_42, r_Model_byteAt_43, r_Model_byteAt_46, r_Model_byteAt_47, r_Model_byteAt_48, r_Model_byteAt_49, r_Model_byteAt_52, r_Model_byteAt_53, r_Model_byteAt_56, r_Model_byteAt_58, r_Model_byteAt_59, r_Model_byteAt_60, r_Model_byteAt_61, r_Model_byteAt_62, r_Model_byteAt_63, r_Model_byteAt_66, r_Model_byteAt_67, ai_aload, ai_iload, ai_callv2, am_push, am_few, ai_ifeq, ai_getf, ai_iald, ai_const, ai_cmpeq, ai_cmpne, ai_iflt, ai_cmpge, ai_goto, ai_istore, am_cut_0, am_cut_s, am_c1, ai_imul, ai_bin, ai_iadd, ai_iret, kd_0, fd_0_0, fd_0_1, fd_0_2, fd_0_3, fd_0_4, kd_1, fd_1_0, fd_1_1, ln_2, kd_3, fd_3_0, fd_3_1, fd_3_2, fd_3_3, fd_3_4, fd_3_5, fd_3_6, fd_3_7, fd_3_8, fd_3_9, ln_4, ln_5, ln_6, ln_7, ln_8, ln_9, ln_10, kd_11, fd_11_0, fd_11_1, fd_11_2, fd_11_3, fd_11_4, kd_12, fd_12_0, fd_12_1, fd_12_2, fd_12_3, ln_13, ln_14, ln_15, kd_16, fd_16_0, fd_16_1, fd_16_2, ln_17, kd_18, fd_18_0, fd_18_1, kd_19, fd_19_0, fd_19_1, fd_19_2, fd_19_3, fd_19_4, fd_19_5, fd_19_6, fd_19_7, fd_19_8, fd_19_9, fd_19_10, fd_19_11, fd_19_12, fd_19_13, fd_19_14, fd_19_15, fd_19_16, fd_19_17, fd_19_18, fd_19_19, fd_19_20, ln_20, ln_21, ln_22, ln_23, ln_24, ln_25, ln_26, ln_27, ln_28, ln_29, ln_30, ln_31, ln_32, List.getElem?_cons_zero, List.getElem?_cons_succ, List.set_cons_zero, List.set_cons_succ, true_and, and_true, ↓reduceIte, Int32.reduceLT, Int32.reduceLE, li_10, or_true, true_or, ↓sp_Model_isNode, b2_eq0, c]
      exact h
    have hx := m_hasD hc c
    have c3 := hx.2.2
    by_cases c4 : m_isT M x = true
    · rw [if_pos c4] at h
      have c5 : M 21 (cl x) = 2 ∨ M 21 (cl x) = 3 := by
        have := c4
        unfold m_isT at this
        simpa [c] using this
      have hv := hb x c4
      by_cases c6 : k < 0
      · rw [if_pos c6] at h
        rcases c5 with c5 | c5
        · refine am_entry hG (by decide +kernel) (Nat.le_of_ble_eq_true rfl) ?_
          refine am_go (cuts := k_Model_byteAt) (tb_Model_byteAt (ok_Model_isNode hG) (by decide)) 400 _ _ _ _ ?_
          change am_run _ _ _ _ _ _ [some (.ref 19), some (.int x), some (.int k), none] [] _
          simp only [r_Model_byteAt_0, r_Model_byteAt_1, r_Model_byteAt_2, r_Model_byteAt_5, r_Model_byteAt_8, r_Model_byteAt_9, r_Model_byteAt_12, r_Model_byteAt_13, r_Model_byteAt_14, r_Model_byteAt_15, r_Model_byteAt_18, r_Model_byteAt_19, r_Model_byteAt_22, r_Model_byteAt_23, r_Model_byteAt_24, r_Model_byteAt_25, r_Model_byteAt_28, r_Model_byteAt_29, r_Model_byteAt_32, r_Model_byteAt_33, r_Model_byteAt_34, r_Model_byteAt_37, r_Model_byteAt_38, r_Model_byteAt_39, r_Model_byteAt_42, r_Model_byteAt_43, r_Model_byteAt_46, r_Model_byteAt_47, r_Model_byteAt_48, r_Model_byteAt_49, r_Model_byteAt_52, r_Model_byteAt_53, r_Model_byteAt_56, r_Model_byteAt_58, r_Model_byteAt_59, r_Model_byteAt_60, r_Model_byteAt_61, r_Model_byteAt_62, r_Model_byteAt_63, r_Model_byteAt_66, r_Model_byteAt_67, ai_aload, ai_iload, ai_callv2, am_push, am_few, ai_ifeq, ai_getf, ai_iald, ai_const, ai_cmpeq, ai_cmpne, ai_iflt, ai_cmpge, ai_goto, ai_istore, am_cut_0, am_cut_s, am_c1, ai_imul, ai_bin, ai_iadd, ai_iret, kd_0, fd_0_0, fd_0_1, fd_0_2, fd_0_3, fd_0_4, kd_1, fd_1_0, fd_1_1, ln_2, kd_3, fd_3_0, fd_3_1, fd_3_2, fd_3_3, fd_3_4, fd_3_5, fd_3_6, fd_3_7, fd_3_8, fd_3_9, ln_4, ln_5, ln_6, ln_7, ln_8, ln_9, ln_10, kd_11, fd_11_0, fd_11_1, fd_11_2, fd_11_3, fd_11_4, kd_12, fd_12_0, fd_12_1, fd_12_2, fd_12_3, ln_13, ln_14, ln_15, kd_16, fd_16_0, fd_16_1, fd_16_2, ln_17, kd_18, fd_18_0, fd_18_1, kd_19, fd_19_0, fd_19_1, fd_19_2, fd_19_3, fd_19_4, fd_19_5, fd_19_6, fd_19_7, fd_19_8, fd_19_9, fd_19_10, fd_19_11, fd_19_12, fd_19_13, fd_19_14, fd_19_15, fd_19_16, fd_19_17, fd_19_18, fd_19_19, fd_19_20, ln_20, ln_21, ln_22, ln_23, ln_24, ln_25, ln_26, ln_27, ln_28, ln_29, ln_30, ln_31, ln_32, List.getElem?_cons_zero, List.getElem?_cons_succ, List.set_cons_zero, List.set_cons_succ, true_and, and_true, ↓reduceIte, Int32.reduceLT, Int32.reduceLE, li_10, or_true, true_or, ↓sp_Model_isNode, b2_eq0, c, c3, c5, c6, reduceCtorEq]
          exact h
        · refine am_entry hG (by decide +kernel) (Nat.le_of_ble_eq_true rfl) ?_
          refine am_go (cuts := k_Model_byteAt) (tb_Model_byteAt (ok_Model_isNode hG) (by decide)) 400 _ _ _ _ ?_
          change am_run _ _ _ _ _ _ [some (.ref 19), some (.int x), some (.int k), none] [] _
          simp only [r_Model_byteAt_0, r_Model_byteAt_1, r_Model_byteAt_2, r_Model_byteAt_5, r_Model_byteAt_8, r_Model_byteAt_9, r_Model_byteAt_12, r_Model_byteAt_13, r_Model_byteAt_14, r_Model_byteAt_15, r_Model_byteAt_18, r_Model_byteAt_19, r_Model_byteAt_22, r_Model_byteAt_23, r_Model_byteAt_24, r_Model_byteAt_25, r_Model_byteAt_28, r_Model_byteAt_29, r_Model_byteAt_32, r_Model_byteAt_33, r_Model_byteAt_34, r_Model_byteAt_37, r_Model_byteAt_38, r_Model_byteAt_39, r_Model_byteAt_42, r_Model_byteAt_43, r_Model_byteAt_46, r_Model_byteAt_47, r_Model_byteAt_48, r_Model_byteAt_49, r_Model_byteAt_52, r_Model_byteAt_53, r_Model_byteAt_56, r_Model_byteAt_58, r_Model_byteAt_59, r_Model_byteAt_60, r_Model_byteAt_61, r_Model_byteAt_62, r_Model_byteAt_63, r_Model_byteAt_66, r_Model_byteAt_67, ai_aload, ai_iload, ai_callv2, am_push, am_few, ai_ifeq, ai_getf, ai_iald, ai_const, ai_cmpeq, ai_cmpne, ai_iflt, ai_cmpge, ai_goto, ai_istore, am_cut_0, am_cut_s, am_c1, ai_imul, ai_bin, ai_iadd, ai_iret, kd_0, fd_0_0, fd_0_1, fd_0_2, fd_0_3, fd_0_4, kd_1, fd_1_0, fd_1_1, ln_2, kd_3, fd_3_0, fd_3_1, fd_3_2, fd_3_3, fd_3_4, fd_3_5, fd_3_6, fd_3_7, fd_3_8, fd_3_9, ln_4, ln_5, ln_6, ln_7, ln_8, ln_9, ln_10, kd_11, fd_11_0, fd_11_1, fd_11_2, fd_11_3, fd_11_4, kd_12, fd_12_0, fd_12_1, fd_12_2, fd_12_3, ln_13, ln_14, ln_15, kd_16, fd_16_0, fd_16_1, fd_16_2, ln_17, kd_18, fd_18_0, fd_18_1, kd_19, fd_19_0, fd_19_1, fd_19_2, fd_19_3, fd_19_4, fd_19_5, fd_19_6, fd_19_7, fd_19_8, fd_19_9, fd_19_10, fd_19_11, fd_19_12, fd_19_13, fd_19_14, fd_19_15, fd_19_16, fd_19_17, fd_19_18, fd_19_19, fd_19_20, ln_20, ln_21, ln_22, ln_23, ln_24, ln_25, ln_26, ln_27, ln_28, ln_29, ln_30, ln_31, ln_32, List.getElem?_cons_zero, List.getElem?_cons_succ, List.set_cons_zero, List.set_cons_succ, true_and, and_true, ↓reduceIte, Int32.reduceLT, Int32.reduceLE, li_10, or_true, true_or, ↓sp_Model_isNode, b2_eq0, c, c3, c5, c6, reduceCtorEq, li_32]
          exact h
      rw [if_neg c6] at h
      by_cases c7 : k < M 22 (cl x)
      · rw [if_pos c7] at h
        obtain ⟨j, hj, rfl⟩ := nI_of c6
        have hj2 : j < 20 := by
          have h7 := c7
          rw [hv.1] at h7
          have := (nI_ltI hj (cl_lt _)).mp h7
          omega
        have hix : 20 * x + nI j = nI (20 * cl x + j) := by
          rw [hx.1, show cl (nI (cl x)) = cl x from nI_clamp (cl_lt x)]
          show nI 20 * nI (cl x) + nI j = _
          rw [show nI 20 * nI (cl x) = nI (20 * cl x) from (Int32.ofNat_mul 20 (cl x)).symm, nI_add]
        have hin : vp_in (20 * x + nI j) 4000 := by
          rw [hix]
          exact vp_in_nI (by have := hx.2.1; have := hc.2; omega) (by decide)
        rw [show cl (nI j) = j from nI_clamp hj] at h
        rcases c5 with c5 | c5
        · refine am_entry hG (by decide +kernel) (Nat.le_of_ble_eq_true rfl) ?_
          refine am_go (cuts := k_Model_byteAt) (tb_Model_byteAt (ok_Model_isNode hG) (by decide)) 400 _ _ _ _ ?_
          change am_run _ _ _ _ _ _ [some (.ref 19), some (.int x), some (.int (nI j)), none] [] _
          simp only [r_Model_byteAt_0, r_Model_byteAt_1, r_Model_byteAt_2, r_Model_byteAt_5, r_Model_byteAt_8, r_Model_byteAt_9, r_Model_byteAt_12, r_Model_byteAt_13, r_Model_byteAt_14, r_Model_byteAt_15, r_Model_byteAt_18, r_Model_byteAt_19, r_Model_byteAt_22, r_Model_byteAt_23, r_Model_byteAt_24, r_Model_byteAt_25, r_Model_byteAt_28, r_Model_byteAt_29, r_Model_byteAt_32, r_Model_byteAt_33, r_Model_byteAt_34, r_Model_byteAt_37, r_Model_byteAt_38, r_Model_byteAt_39, r_Model_byteAt_42, r_Model_byteAt_43, r_Model_byteAt_46, r_Model_byteAt_47, r_Model_byteAt_48, r_Model_byteAt_49, r_Model_byteAt_52, r_Model_byteAt_53, r_Model_byteAt_56, r_Model_byteAt_58, r_Model_byteAt_59, r_Model_byteAt_60, r_Model_byteAt_61, r_Model_byteAt_62, r_Model_byteAt_63, r_Model_byteAt_66, r_Model_byteAt_67, ai_aload, ai_iload, ai_callv2, am_push, am_few, ai_ifeq, ai_getf, ai_iald, ai_const, ai_cmpeq, ai_cmpne, ai_iflt, ai_cmpge, ai_goto, ai_istore, am_cut_0, am_cut_s, am_c1, ai_imul, ai_bin, ai_iadd, ai_iret, kd_0, fd_0_0, fd_0_1, fd_0_2, fd_0_3, fd_0_4, kd_1, fd_1_0, fd_1_1, ln_2, kd_3, fd_3_0, fd_3_1, fd_3_2, fd_3_3, fd_3_4, fd_3_5, fd_3_6, fd_3_7, fd_3_8, fd_3_9, ln_4, ln_5, ln_6, ln_7, ln_8, ln_9, ln_10, kd_11, fd_11_0, fd_11_1, fd_11_2, fd_11_3, fd_11_4, kd_12, fd_12_0, fd_12_1, fd_12_2, fd_12_3, ln_13, ln_14, ln_15, kd_16, fd_16_0, fd_16_1, fd_16_2, ln_17, kd_18, fd_18_0, fd_18_1, kd_19, fd_19_0, fd_19_1, fd_19_2, fd_19_3, fd_19_4, fd_19_5, fd_19_6, fd_19_7, fd_19_8, fd_19_9, fd_19_10, fd_19_11, fd_19_12, fd_19_13, fd_19_14, fd_19_15, fd_19_16, fd_19_17, fd_19_18, fd_19_19, fd_19_20, ln_20, ln_21, ln_22, ln_23, ln_24, ln_25, ln_26, ln_27, ln_28, ln_29, ln_30, ln_31, ln_32, List.getElem?_cons_zero, List.getElem?_cons_succ, List.set_cons_zero, List.set_cons_succ, true_and, and_true, ↓reduceIte, Int32.reduceLT, Int32.reduceLE, li_10, or_true, true_or, ↓sp_Model_isNode, b2_eq0, c, c3, c5, c6, c7, hin, reduceCtorEq]
          rw [hix, show (nI (20 * cl x + j)).toNatClampNeg = 20 * cl x + j from nI_clamp (by have := hx.2.1; have := hc.2; omega)]
          exact h
        · refine am_entry hG (by decide +kernel) (Nat.le_of_ble_eq_true rfl) ?_
          refine am_go (cuts := k_Model_byteAt) (tb_Model_byteAt (ok_Model_isNode hG) (by decide)) 400 _ _ _ _ ?_
          change am_run _ _ _ _ _ _ [some (.ref 19), some (.int x), some (.int (nI j)), none] [] _
          simp only [r_Model_byteAt_0, r_Model_byteAt_1, r_Model_byteAt_2, r_Model_byteAt_5, r_Model_byteAt_8, r_Model_byteAt_9, r_Model_byteAt_12, r_Model_byteAt_13, r_Model_byteAt_14, r_Model_byteAt_15, r_Model_byteAt_18, r_Model_byteAt_19, r_Model_byteAt_22, r_Model_byteAt_23, r_Model_byteAt_24, r_Model_byteAt_25, r_Model_byteAt_28, r_Model_byteAt_29, r_Model_byteAt_32, r_Model_byteAt_33, r_Model_byteAt_34, r_Model_byteAt_37, r_Model_byteAt_38, r_Model_byteAt_39, r_Model_byteAt_42, r_Model_byteAt_43, r_Model_byteAt_46, r_Model_byteAt_47, r_Model_byteAt_48, r_Model_byteAt_49, r_Model_byteAt_52, r_Model_byteAt_53, r_Model_byteAt_56, r_Model_byteAt_58, r_Model_byteAt_59, r_Model_byteAt_60, r_Model_byteAt_61, r_Model_byteAt_62, r_Model_byteAt_63, r_Model_byteAt_66, r_Model_byteAt_67, ai_aload, ai_iload, ai_callv2, am_push, am_few, ai_ifeq, ai_getf, ai_iald, ai_const, ai_cmpeq, ai_cmpne, ai_iflt, ai_cmpge, ai_goto, ai_istore, am_cut_0, am_cut_s, am_c1, ai_imul, ai_bin, ai_iadd, ai_iret, kd_0, fd_0_0, fd_0_1, fd_0_2, fd_0_3, fd_0_4, kd_1, fd_1_0, fd_1_1, ln_2, kd_3, fd_3_0, fd_3_1, fd_3_2, fd_3_3, fd_3_4, fd_3_5, fd_3_6, fd_3_7, fd_3_8, fd_3_9, ln_4, ln_5, ln_6, ln_7, ln_8, ln_9, ln_10, kd_11, fd_11_0, fd_11_1, fd_11_2, fd_11_3, fd_11_4, kd_12, fd_12_0, fd_12_1, fd_12_2, fd_12_3, ln_13, ln_14, ln_15, kd_16, fd_16_0, fd_16_1, fd_16_2, ln_17, kd_18, fd_18_0, fd_18_1, kd_19, fd_19_0, fd_19_1, fd_19_2, fd_19_3, fd_19_4, fd_19_5, fd_19_6, fd_19_7, fd_19_8, fd_19_9, fd_19_10, fd_19_11, fd_19_12, fd_19_13, fd_19_14, fd_19_15, fd_19_16, fd_19_17, fd_19_18, fd_19_19, fd_19_20, ln_20, ln_21, ln_22, ln_23, ln_24, ln_25, ln_26, ln_27, ln_28, ln_29, ln_30, ln_31, ln_32, List.getElem?_cons_zero, List.getElem?_cons_succ, List.set_cons_zero, List.set_cons_succ, true_and, and_true, ↓reduceIte, Int32.reduceLT, Int32.reduceLE, li_10, or_true, true_or, ↓sp_Model_isNode, b2_eq0, c, c3, c5, c6, c7, hin, reduceCtorEq, li_32]
          rw [hix, show (nI (20 * cl x + j)).toNatClampNeg = 20 * cl x + j from nI_clamp (by have := hx.2.1; have := hc.2; omega)]
          exact h
      · rw [if_neg c7] at h
        rcases c5 with c5 | c5
        · refine am_entry hG (by decide +kernel) (Nat.le_of_ble_eq_true rfl) ?_
          refine am_go (cuts := k_Model_byteAt) (tb_Model_byteAt (ok_Model_isNode hG) (by decide)) 400 _ _ _ _ ?_
          change am_run _ _ _ _ _ _ [some (.ref 19), some (.int x), some (.int k), none] [] _
          simp only [r_Model_byteAt_0, r_Model_byteAt_1, r_Model_byteAt_2, r_Model_byteAt_5, r_Model_byteAt_8, r_Model_byteAt_9, r_Model_byteAt_12, r_Model_byteAt_13, r_Model_byteAt_14, r_Model_byteAt_15, r_Model_byteAt_18, r_Model_byteAt_19, r_Model_byteAt_22, r_Model_byteAt_23, r_Model_byteAt_24, r_Model_byteAt_25, r_Model_byteAt_28, r_Model_byteAt_29, r_Model_byteAt_32, r_Model_byteAt_33, r_Model_byteAt_34, r_Model_byteAt_37, r_Model_byteAt_38, r_Model_byteAt_39, r_Model_byteAt_42, r_Model_byteAt_43, r_Model_byteAt_46, r_Model_byteAt_47, r_Model_byteAt_48, r_Model_byteAt_49, r_Model_byteAt_52, r_Model_byteAt_53, r_Model_byteAt_56, r_Model_byteAt_58, r_Model_byteAt_59, r_Model_byteAt_60, r_Model_byteAt_61, r_Model_byteAt_62, r_Model_byteAt_63, r_Model_byteAt_66, r_Model_byteAt_67, ai_aload, ai_iload, ai_callv2, am_push, am_few, ai_ifeq, ai_getf, ai_iald, ai_const, ai_cmpeq, ai_cmpne, ai_iflt, ai_cmpge, ai_goto, ai_istore, am_cut_0, am_cut_s, am_c1, ai_imul, ai_bin, ai_iadd, ai_iret, kd_0, fd_0_0, fd_0_1, fd_0_2, fd_0_3, fd_0_4, kd_1, fd_1_0, fd_1_1, ln_2, kd_3, fd_3_0, fd_3_1, fd_3_2, fd_3_3, fd_3_4, fd_3_5, fd_3_6, fd_3_7, fd_3_8, fd_3_9, ln_4, ln_5, ln_6, ln_7, ln_8, ln_9, ln_10, kd_11, fd_11_0, fd_11_1, fd_11_2, fd_11_3, fd_11_4, kd_12, fd_12_0, fd_12_1, fd_12_2, fd_12_3, ln_13, ln_14, ln_15, kd_16, fd_16_0, fd_16_1, fd_16_2, ln_17, kd_18, fd_18_0, fd_18_1, kd_19, fd_19_0, fd_19_1, fd_19_2, fd_19_3, fd_19_4, fd_19_5, fd_19_6, fd_19_7, fd_19_8, fd_19_9, fd_19_10, fd_19_11, fd_19_12, fd_19_13, fd_19_14, fd_19_15, fd_19_16, fd_19_17, fd_19_18, fd_19_19, fd_19_20, ln_20, ln_21, ln_22, ln_23, ln_24, ln_25, ln_26, ln_27, ln_28, ln_29, ln_30, ln_31, ln_32, List.getElem?_cons_zero, List.getElem?_cons_succ, List.set_cons_zero, List.set_cons_succ, true_and, and_true, ↓reduceIte, Int32.reduceLT, Int32.reduceLE, li_10, or_true, true_or, ↓sp_Model_isNode, b2_eq0, c, c3, c5, c6, c7, reduceCtorEq]
          exact h
        · refine am_entry hG (by decide +kernel) (Nat.le_of_ble_eq_true rfl) ?_
          refine am_go (cuts := k_Model_byteAt) (tb_Model_byteAt (ok_Model_isNode hG) (by decide)) 400 _ _ _ _ ?_
          change am_run _ _ _ _ _ _ [some (.ref 19), some (.int x), some (.int k), none] [] _
          simp only [r_Model_byteAt_0, r_Model_byteAt_1, r_Model_byteAt_2, r_Model_byteAt_5, r_Model_byteAt_8, r_Model_byteAt_9, r_Model_byteAt_12, r_Model_byteAt_13, r_Model_byteAt_14, r_Model_byteAt_15, r_Model_byteAt_18, r_Model_byteAt_19, r_Model_byteAt_22, r_Model_byteAt_23, r_Model_byteAt_24, r_Model_byteAt_25, r_Model_byteAt_28, r_Model_byteAt_29, r_Model_byteAt_32, r_Model_byteAt_33, r_Model_byteAt_34, r_Model_byteAt_37, r_Model_byteAt_38, r_Model_byteAt_39, r_Model_byteAt_42, r_Model_byteAt_43, r_Model_byteAt_46, r_Model_byteAt_47, r_Model_byteAt_48, r_Model_byteAt_49, r_Model_byteAt_52, r_Model_byteAt_53, r_Model_byteAt_56, r_Model_byteAt_58, r_Model_byteAt_59, r_Model_byteAt_60, r_Model_byteAt_61, r_Model_byteAt_62, r_Model_byteAt_63, r_Model_byteAt_66, r_Model_byteAt_67, ai_aload, ai_iload, ai_callv2, am_push, am_few, ai_ifeq, ai_getf, ai_iald, ai_const, ai_cmpeq, ai_cmpne, ai_iflt, ai_cmpge, ai_goto, ai_istore, am_cut_0, am_cut_s, am_c1, ai_imul, ai_bin, ai_iadd, ai_iret, kd_0, fd_0_0, fd_0_1, fd_0_2, fd_0_3, fd_0_4, kd_1, fd_1_0, fd_1_1, ln_2, kd_3, fd_3_0, fd_3_1, fd_3_2, fd_3_3, fd_3_4, fd_3_5, fd_3_6, fd_3_7, fd_3_8, fd_3_9, ln_4, ln_5, ln_6, ln_7, ln_8, ln_9, ln_10, kd_11, fd_11_0, fd_11_1, fd_11_2, fd_11_3, fd_11_4, kd_12, fd_12_0, fd_12_1, fd_12_2, fd_12_3, ln_13, ln_14, ln_15, kd_16, fd_16_0, fd_16_1, fd_16_2, ln_17, kd_18, fd_18_0, fd_18_1, kd_19, fd_19_0, fd_19_1, fd_19_2, fd_19_3, fd_19_4, fd_19_5, fd_19_6, fd_19_7, fd_19_8, fd_19_9, fd_19_10, fd_19_11, fd_19_12, fd_19_13, fd_19_14, fd_19_15, fd_19_16, fd_19_17, fd_19_18, fd_19_19, fd_19_20, ln_20, ln_21, ln_22, ln_23, ln_24, ln_25, ln_26, ln_27, ln_28, ln_29, ln_30, ln_31, ln_32, List.getElem?_cons_zero, List.getElem?_cons_succ, List.set_cons_zero, List.set_cons_succ, true_and, and_true, ↓reduceIte, Int32.reduceLT, Int32.reduceLE, li_10, or_true, true_or, ↓sp_Model_isNode, b2_eq0, c, c3, c5, c6, c7, reduceCtorEq, li_32]
          exact h
    · rw [if_neg c4] at h
      have c5 : ¬ M 21 (cl x) = 2 ∧ ¬ M 21 (cl x) = 3 := by
        refine ⟨fun q => c4 ?_, fun q => c4 ?_⟩ <;> (unfold m_isT; simp [c, q])
      have c5a := c5.1
      have c5b := c5.2
      refine am_entry hG (by decide +kernel) (Nat.le_of_ble_eq_true rfl) ?_
      refine am_go (cuts := k_Model_byteAt) (tb_Model_byteAt (ok_Model_isNode hG) (by decide)) 400 _ _ _ _ ?_
      change am_run _ _ _ _ _ _ [some (.ref 19), some (.int x), some (.int k), none] [] _
      simp only [r_Model_byteAt_0, r_Model_byteAt_1, r_Model_byteAt_2, r_Model_byteAt_5, r_Model_byteAt_8, r_Model_byteAt_9, r_Model_byteAt_12, r_Model_byteAt_13, r_Model_byteAt_14, r_Model_byteAt_15, r_Model_byteAt_18, r_Model_byteAt_19, r_Model_byteAt_22, r_Model_byteAt_23, r_Model_byteAt_24, r_Model_byteAt_25, r_Model_byteAt_28, r_Model_byteAt_29, r_Model_byteAt_32, r_Model_byteAt_33, r_Model_byteAt_34, r_Model_byteAt_37, r_Model_byteAt_38, r_Model_byteAt_39, r_Model_byteAt_42, r_Model_byteAt_43, r_Model_byteAt_46, r_Model_byteAt_47, r_Model_byteAt_48, r_Model_byteAt_49, r_Model_byteAt_52, r_Model_byteAt_53, r_Model_byteAt_56, r_Model_byteAt_58, r_Model_byteAt_59, r_Model_byteAt_60, r_Model_byteAt_61, r_Model_byteAt_62, r_Model_byteAt_63, r_Model_byteAt_66, r_Model_byteAt_67, ai_aload, ai_iload, ai_callv2, am_push, am_few, ai_ifeq, ai_getf, ai_iald, ai_const, ai_cmpeq, ai_cmpne, ai_iflt, ai_cmpge, ai_goto, ai_istore, am_cut_0, am_cut_s, am_c1, ai_imul, ai_bin, ai_iadd, ai_iret, kd_0, fd_0_0, fd_0_1, fd_0_2, fd_0_3, fd_0_4, kd_1, fd_1_0, fd_1_1, ln_2, kd_3, fd_3_0, fd_3_1, fd_3_2, fd_3_3, fd_3_4, fd_3_5, fd_3_6, fd_3_7, fd_3_8, fd_3_9, ln_4, ln_5, ln_6, ln_7, ln_8, ln_9, ln_10, kd_11, fd_11_0, fd_11_1, fd_11_2, fd_11_3, fd_11_4, kd_12, fd_12_0, fd_12_1, fd_12_2, fd_12_3, ln_13, ln_14, ln_15, kd_16, fd_16_0, fd_16_1, fd_16_2, ln_17, kd_18, fd_18_0, fd_18_1, kd_19, fd_19_0, fd_19_1, fd_19_2, fd_19_3, fd_19_4, fd_19_5, fd_19_6, fd_19_7, fd_19_8, fd_19_9, fd_19_10, fd_19_11, fd_19_12, fd_19_13, fd_19_14, fd_19_15, fd_19_16, fd_19_17, fd_19_18, fd_19_19, fd_19_20, ln_20, ln_21, ln_22, ln_23, ln_24, ln_25, ln_26, ln_27, ln_28, ln_29, ln_30, ln_31, ln_32, List.getElem?_cons_zero, List.getElem?_cons_succ, List.set_cons_zero, List.set_cons_succ, true_and, and_true, ↓reduceIte, Int32.reduceLT, Int32.reduceLE, li_10, or_true, true_or, ↓sp_Model_isNode, b2_eq0, c, c3, c5a, c5b, reduceCtorEq]
      exact h
  · cases h
def m_part (M : aM) (x k : Int32) : Int32 := if m_has M x = true then (if M 21 (cl x) = 4 then (if k = 0 then M 24 (cl x) else if k = 1 then M 25 (cl x) else -1) else -1) else -1
def sp_Model_part : aS := fun as M K => match as with
  | [.ref a, .int x, .int k] => a = 19 ∧ mc_ok M ∧ K (some (.int (m_part M x k))) M
  | _ => False
set_option maxRecDepth 100000 in
set_option maxHeartbeats 4000000 in
theorem ok_Model_part {G : aG} (hG : am_ok G) : am_Sp G Y_Model_part 1 sp_Model_part := by
  intro as M K h
  unfold sp_Model_part at h
  split at h
  · next a x k =>
    obtain ⟨rfl, hc, h⟩ := h
    unfold m_part at h
    cases c : m_has M x
    · rw [c] at h
      refine am_entry hG (by decide +kernel) (Nat.le_of_ble_eq_true rfl) ?_
      refine am_go (cuts := k_Model_part) (tb_Model_part (ok_Model_isNode hG) (by decide)) 400 _ _ _ _ ?_
      change am_run _ _ _ _ _ _ [some (.ref 19), some (.int x), some (.int k)] [] _
      simp only [r_Model_part_0, r_Model_part_1, r_Model_part_2, r_Model_part_5, r_Model_part_8, r_Model_part_9, r_Model_part_12, r_Model_part_13, r_Model_part_14, r_Model_part_15, r_Model_part_18, r_Model_part_19, r_Model_part_22, r_Model_part_23, r_Model_part_26, r_Model_part_27, r_Model_part_30, r_Model_part_31, r_Model_part_32, r_Model_part_35, r_Model_part_36, r_Model_part_37, r_Model_part_40, r_Model_part_41, r_Model_part_44, r_Model_part_45, r_Model_part_46, r_Model_part_49, r_Model_part_50, ai_aload, ai_iload, ai_callv2, am_push, am_few, ai_ifeq, ai_getf, ai_iald, ai_const, ai_cmpeq, ai_goto, ai_ifne, ai_cmpne, ai_iret, kd_0, fd_0_0, fd_0_1, fd_0_2, fd_0_3, fd_0_4, kd_1, fd_1_0, fd_1_1, ln_2, kd_3, fd_3_0, fd_3_1, fd_3_2, fd_3_3, fd_3_4, fd_3_5, fd_3_6, fd_3_7, fd_3_8, fd_3_9, ln_4, ln_5, ln_6, ln_7, ln_8, ln_9, ln_10, kd_11, fd_11_0, fd_11_1, fd_11_2, fd_11_3, fd_11_4, kd_12, fd_12_0, fd_12_1, fd_12_2, fd_12_3, ln_13, ln_14, ln_15, kd_16, fd_16_0, fd_16_1, fd_16_2, ln_17, kd_18, fd_18_0, fd_18_1, kd_19, fd_19_0, fd_19_1, fd_19_2, fd_19_3, fd_19_4, fd_19_5, fd_19_6, fd_19_7, fd_19_8, fd_19_9, fd_19_10, fd_19_11, fd_19_12, fd_19_13, fd_19_14, fd_19_15, fd_19_16, fd_19_17, fd_19_18, fd_19_19, fd_19_20, ln_20, ln_21, ln_22, ln_23, ln_24, ln_25, ln_26, ln_27, ln_28, ln_29, ln_30, ln_31, ln_32, List.getElem?_cons_zero, List.getElem?_cons_succ, List.set_cons_zero, List.set_cons_succ, true_and, and_true, ↓reduceIte, Int32.reduceLT, Int32.reduceLE, li_10, or_true, true_or, ↓sp_Model_isNode, b2_eq0, c]
      exact h
    · rw [c] at h
      have c3 := (m_hasD hc c).2.2
      refine am_entry hG (by decide +kernel) (Nat.le_of_ble_eq_true rfl) ?_
      refine am_go (cuts := k_Model_part) (tb_Model_part (ok_Model_isNode hG) (by decide)) 400 _ _ _ _ ?_
      change am_run _ _ _ _ _ _ [some (.ref 19), some (.int x), some (.int k)] [] _
      simp only [r_Model_part_0, r_Model_part_1, r_Model_part_2, r_Model_part_5, r_Model_part_8, r_Model_part_9, r_Model_part_12, r_Model_part_13, r_Model_part_14, r_Model_part_15, r_Model_part_18, r_Model_part_19, r_Model_part_22, r_Model_part_23, r_Model_part_26, r_Model_part_27, r_Model_part_30, r_Model_part_31, r_Model_part_32, r_Model_part_35, r_Model_part_36, r_Model_part_37, r_Model_part_40, r_Model_part_41, r_Model_part_44, r_Model_part_45, r_Model_part_46, r_Model_part_49, r_Model_part_50, ai_aload, ai_iload, ai_callv2, am_push, am_few, ai_ifeq, ai_getf, ai_iald, ai_const, ai_cmpeq, ai_goto, ai_ifne, ai_cmpne, ai_iret, kd_0, fd_0_0, fd_0_1, fd_0_2, fd_0_3, fd_0_4, kd_1, fd_1_0, fd_1_1, ln_2, kd_3, fd_3_0, fd_3_1, fd_3_2, fd_3_3, fd_3_4, fd_3_5, fd_3_6, fd_3_7, fd_3_8, fd_3_9, ln_4, ln_5, ln_6, ln_7, ln_8, ln_9, ln_10, kd_11, fd_11_0, fd_11_1, fd_11_2, fd_11_3, fd_11_4, kd_12, fd_12_0, fd_12_1, fd_12_2, fd_12_3, ln_13, ln_14, ln_15, kd_16, fd_16_0, fd_16_1, fd_16_2, ln_17, kd_18, fd_18_0, fd_18_1, kd_19, fd_19_0, fd_19_1, fd_19_2, fd_19_3, fd_19_4, fd_19_5, fd_19_6, fd_19_7, fd_19_8, fd_19_9, fd_19_10, fd_19_11, fd_19_12, fd_19_13, fd_19_14, fd_19_15, fd_19_16, fd_19_17, fd_19_18, fd_19_19, fd_19_20, ln_20, ln_21, ln_22, ln_23, ln_24, ln_25, ln_26, ln_27, ln_28, ln_29, ln_30, ln_31, ln_32, List.getElem?_cons_zero, List.getElem?_cons_succ, List.set_cons_zero, List.set_cons_succ, true_and, and_true, ↓reduceIte, Int32.reduceLT, Int32.reduceLE, li_10, or_true, true_or, ↓sp_Model_isNode, b2_eq0, c, c3, reduceCtorEq]
      simp only [↓reduceIte] at h
      by_cases c4 : M 21 (cl x) = 4
      · rw [if_pos c4] at h ⊢
        by_cases c5 : k = 0
        · rw [if_pos c5] at h ⊢; exact h
        · rw [if_neg c5] at h ⊢
          by_cases c6 : k = 1
          · rw [if_pos c6] at h ⊢; exact h
          · rw [if_neg c6] at h ⊢; exact h
      · rw [if_neg c4] at h ⊢; exact h
  · cases h
def m_cnt (M : aM) (w : Int32) : Int32 := if w = 0 then M 19 1 else if w = 1 then M 19 5 else if w = 2 then M 19 11 else if w = 3 then M 19 18 else -1
def sp_Model_count : aS := fun as M K => match as with
  | [.ref a, .int w] => a = 19 ∧ K (some (.int (m_cnt M w))) M
  | _ => False
set_option maxRecDepth 100000 in
set_option maxHeartbeats 4000000 in
theorem ok_Model_count {G : aG} (hG : am_ok G) : am_Sp G Y_Model_count 1 sp_Model_count := by
  intro as M K h
  unfold sp_Model_count at h
  split at h
  · next a w =>
    obtain ⟨rfl, h⟩ := h
    unfold m_cnt at h
    refine am_entry hG (by decide +kernel) (Nat.le_of_ble_eq_true rfl) ?_
    refine am_go (cuts := k_Model_count) tb_Model_count 400 _ _ _ _ ?_
    change am_run _ _ _ _ _ _ [some (.ref 19), some (.int w)] [] _
    simp only [r_Model_count_0, r_Model_count_1, r_Model_count_4, r_Model_count_5, r_Model_count_8, r_Model_count_11, r_Model_count_12, r_Model_count_13, r_Model_count_16, r_Model_count_17, r_Model_count_20, r_Model_count_23, r_Model_count_24, r_Model_count_25, r_Model_count_28, r_Model_count_29, r_Model_count_32, r_Model_count_35, r_Model_count_36, r_Model_count_37, r_Model_count_40, r_Model_count_41, r_Model_count_44, r_Model_count_47, r_Model_count_48, ai_iload, ai_ifne, ai_aload, ai_getf, ai_goto, ai_const, ai_cmpne, ai_iret, kd_0, fd_0_0, fd_0_1, fd_0_2, fd_0_3, fd_0_4, kd_1, fd_1_0, fd_1_1, ln_2, kd_3, fd_3_0, fd_3_1, fd_3_2, fd_3_3, fd_3_4, fd_3_5, fd_3_6, fd_3_7, fd_3_8, fd_3_9, ln_4, ln_5, ln_6, ln_7, ln_8, ln_9, ln_10, kd_11, fd_11_0, fd_11_1, fd_11_2, fd_11_3, fd_11_4, kd_12, fd_12_0, fd_12_1, fd_12_2, fd_12_3, ln_13, ln_14, ln_15, kd_16, fd_16_0, fd_16_1, fd_16_2, ln_17, kd_18, fd_18_0, fd_18_1, kd_19, fd_19_0, fd_19_1, fd_19_2, fd_19_3, fd_19_4, fd_19_5, fd_19_6, fd_19_7, fd_19_8, fd_19_9, fd_19_10, fd_19_11, fd_19_12, fd_19_13, fd_19_14, fd_19_15, fd_19_16, fd_19_17, fd_19_18, fd_19_19, fd_19_20, ln_20, ln_21, ln_22, ln_23, ln_24, ln_25, ln_26, ln_27, ln_28, ln_29, ln_30, ln_31, ln_32, List.getElem?_cons_zero, List.getElem?_cons_succ, List.set_cons_zero, List.set_cons_succ, true_and, and_true, ↓reduceIte, Int32.reduceLT, Int32.reduceLE, li_10, or_true, true_or]
    by_cases c : w = 0
    · rw [if_pos c] at h ⊢; exact h
    rw [if_neg c] at h ⊢
    by_cases c : w = 1
    · rw [if_pos c] at h ⊢; exact h
    rw [if_neg c] at h ⊢
    by_cases c : w = 2
    · rw [if_pos c] at h ⊢; exact h
    rw [if_neg c] at h ⊢
    by_cases c : w = 3
    · rw [if_pos c] at h ⊢; exact h
    rw [if_neg c] at h ⊢
    exact h
  · cases h
def m_at (M : aM) (k : Int32) : Int32 := if M 19 2 + k < 0 then -1 else if M 19 2 + k < M 19 1 then M 20 (cl (M 19 2 + k)) else -1
def sp_Model_peek : aS := fun as M K => match as with
  | [.ref a, .int k] => a = 19 ∧ mt_ok M ∧ K (some (.int (m_at M k))) M
  | _ => False
set_option maxRecDepth 100000 in
set_option maxHeartbeats 4000000 in
theorem ok_Model_peek {G : aG} (hG : am_ok G) : am_Sp G Y_Model_peek 0 sp_Model_peek := by
  intro as M K h
  unfold sp_Model_peek at h
  split at h
  · next a k =>
    obtain ⟨rfl, hd, h⟩ := h
    unfold m_at at h
    by_cases c1 : M 19 2 + k < 0
    · rw [if_pos c1] at h
      refine am_entry hG (by decide +kernel) (Nat.le_of_ble_eq_true rfl) ?_
      refine am_go (cuts := k_Model_peek) tb_Model_peek 400 _ _ _ _ ?_
      change am_run _ _ _ _ _ _ [some (.ref 19), some (.int k)] [] _
      simp only [r_Model_peek_0, r_Model_peek_1, r_Model_peek_4, r_Model_peek_5, r_Model_peek_6, r_Model_peek_9, r_Model_peek_10, r_Model_peek_13, r_Model_peek_14, r_Model_peek_15, r_Model_peek_16, r_Model_peek_19, r_Model_peek_22, r_Model_peek_23, r_Model_peek_26, r_Model_peek_27, r_Model_peek_30, r_Model_peek_31, r_Model_peek_32, r_Model_peek_33, r_Model_peek_36, r_Model_peek_37, ai_aload, ai_getf, ai_iload, ai_iadd, ai_bin, ai_iflt, ai_cmpge, ai_iald, ai_goto, ai_const, ai_iret, kd_0, fd_0_0, fd_0_1, fd_0_2, fd_0_3, fd_0_4, kd_1, fd_1_0, fd_1_1, ln_2, kd_3, fd_3_0, fd_3_1, fd_3_2, fd_3_3, fd_3_4, fd_3_5, fd_3_6, fd_3_7, fd_3_8, fd_3_9, ln_4, ln_5, ln_6, ln_7, ln_8, ln_9, ln_10, kd_11, fd_11_0, fd_11_1, fd_11_2, fd_11_3, fd_11_4, kd_12, fd_12_0, fd_12_1, fd_12_2, fd_12_3, ln_13, ln_14, ln_15, kd_16, fd_16_0, fd_16_1, fd_16_2, ln_17, kd_18, fd_18_0, fd_18_1, kd_19, fd_19_0, fd_19_1, fd_19_2, fd_19_3, fd_19_4, fd_19_5, fd_19_6, fd_19_7, fd_19_8, fd_19_9, fd_19_10, fd_19_11, fd_19_12, fd_19_13, fd_19_14, fd_19_15, fd_19_16, fd_19_17, fd_19_18, fd_19_19, fd_19_20, ln_20, ln_21, ln_22, ln_23, ln_24, ln_25, ln_26, ln_27, ln_28, ln_29, ln_30, ln_31, ln_32, List.getElem?_cons_zero, List.getElem?_cons_succ, List.set_cons_zero, List.set_cons_succ, true_and, and_true, ↓reduceIte, Int32.reduceLT, Int32.reduceLE, li_10, or_true, true_or, c1]
      exact h
    rw [if_neg c1] at h
    by_cases c2 : M 19 2 + k < M 19 1
    · rw [if_pos c2] at h
      have c3 : vp_in (M 19 2 + k) 400 := by
        obtain ⟨j, hj, e⟩ := nI_of c1
        rw [e, hd.1] at c2
        have := (nI_ltI hj (by have := hd.2; omega)).mp c2
        rw [e]
        exact vp_in_nI (by have := hd.2; omega) (by decide)
      refine am_entry hG (by decide +kernel) (Nat.le_of_ble_eq_true rfl) ?_
      refine am_go (cuts := k_Model_peek) tb_Model_peek 400 _ _ _ _ ?_
      change am_run _ _ _ _ _ _ [some (.ref 19), some (.int k)] [] _
      simp only [r_Model_peek_0, r_Model_peek_1, r_Model_peek_4, r_Model_peek_5, r_Model_peek_6, r_Model_peek_9, r_Model_peek_10, r_Model_peek_13, r_Model_peek_14, r_Model_peek_15, r_Model_peek_16, r_Model_peek_19, r_Model_peek_22, r_Model_peek_23, r_Model_peek_26, r_Model_peek_27, r_Model_peek_30, r_Model_peek_31, r_Model_peek_32, r_Model_peek_33, r_Model_peek_36, r_Model_peek_37, ai_aload, ai_getf, ai_iload, ai_iadd, ai_bin, ai_iflt, ai_cmpge, ai_iald, ai_goto, ai_const, ai_iret, kd_0, fd_0_0, fd_0_1, fd_0_2, fd_0_3, fd_0_4, kd_1, fd_1_0, fd_1_1, ln_2, kd_3, fd_3_0, fd_3_1, fd_3_2, fd_3_3, fd_3_4, fd_3_5, fd_3_6, fd_3_7, fd_3_8, fd_3_9, ln_4, ln_5, ln_6, ln_7, ln_8, ln_9, ln_10, kd_11, fd_11_0, fd_11_1, fd_11_2, fd_11_3, fd_11_4, kd_12, fd_12_0, fd_12_1, fd_12_2, fd_12_3, ln_13, ln_14, ln_15, kd_16, fd_16_0, fd_16_1, fd_16_2, ln_17, kd_18, fd_18_0, fd_18_1, kd_19, fd_19_0, fd_19_1, fd_19_2, fd_19_3, fd_19_4, fd_19_5, fd_19_6, fd_19_7, fd_19_8, fd_19_9, fd_19_10, fd_19_11, fd_19_12, fd_19_13, fd_19_14, fd_19_15, fd_19_16, fd_19_17, fd_19_18, fd_19_19, fd_19_20, ln_20, ln_21, ln_22, ln_23, ln_24, ln_25, ln_26, ln_27, ln_28, ln_29, ln_30, ln_31, ln_32, List.getElem?_cons_zero, List.getElem?_cons_succ, List.set_cons_zero, List.set_cons_succ, true_and, and_true, ↓reduceIte, Int32.reduceLT, Int32.reduceLE, li_10, or_true, true_or, c1, c2, c3]
      exact h
    · rw [if_neg c2] at h
      refine am_entry hG (by decide +kernel) (Nat.le_of_ble_eq_true rfl) ?_
      refine am_go (cuts := k_Model_peek) tb_Model_peek 400 _ _ _ _ ?_
      change am_run _ _ _ _ _ _ [some (.ref 19), some (.int k)] [] _
      simp only [r_Model_peek_0, r_Model_peek_1, r_Model_peek_4, r_Model_peek_5, r_Model_peek_6, r_Model_peek_9, r_Model_peek_10, r_Model_peek_13, r_Model_peek_14, r_Model_peek_15, r_Model_peek_16, r_Model_peek_19, r_Model_peek_22, r_Model_peek_23, r_Model_peek_26, r_Model_peek_27, r_Model_peek_30, r_Model_peek_31, r_Model_peek_32, r_Model_peek_33, r_Model_peek_36, r_Model_peek_37, ai_aload, ai_getf, ai_iload, ai_iadd, ai_bin, ai_iflt, ai_cmpge, ai_iald, ai_goto, ai_const, ai_iret, kd_0, fd_0_0, fd_0_1, fd_0_2, fd_0_3, fd_0_4, kd_1, fd_1_0, fd_1_1, ln_2, kd_3, fd_3_0, fd_3_1, fd_3_2, fd_3_3, fd_3_4, fd_3_5, fd_3_6, fd_3_7, fd_3_8, fd_3_9, ln_4, ln_5, ln_6, ln_7, ln_8, ln_9, ln_10, kd_11, fd_11_0, fd_11_1, fd_11_2, fd_11_3, fd_11_4, kd_12, fd_12_0, fd_12_1, fd_12_2, fd_12_3, ln_13, ln_14, ln_15, kd_16, fd_16_0, fd_16_1, fd_16_2, ln_17, kd_18, fd_18_0, fd_18_1, kd_19, fd_19_0, fd_19_1, fd_19_2, fd_19_3, fd_19_4, fd_19_5, fd_19_6, fd_19_7, fd_19_8, fd_19_9, fd_19_10, fd_19_11, fd_19_12, fd_19_13, fd_19_14, fd_19_15, fd_19_16, fd_19_17, fd_19_18, fd_19_19, fd_19_20, ln_20, ln_21, ln_22, ln_23, ln_24, ln_25, ln_26, ln_27, ln_28, ln_29, ln_30, ln_31, ln_32, List.getElem?_cons_zero, List.getElem?_cons_succ, List.set_cons_zero, List.set_cons_succ, true_and, and_true, ↓reduceIte, Int32.reduceLT, Int32.reduceLE, li_10, or_true, true_or, c1, c2]
      exact h
  · cases h
