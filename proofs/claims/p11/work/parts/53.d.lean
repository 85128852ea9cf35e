section
/-! THE REFERENCE: what is plain -/
theorem li_32 : ((3 : Int32) = 2) = False := eq_false (by decide)
def m_tl (M : aM) : Nat := cl (M 19 1)
def mt_ok (M : aM) : Prop := M 19 1 = nI (m_tl M) ∧ m_tl M ≤ 400
def mN (M : aM) : Nat := cl (M 19 5)
def mc_ok (M : aM) : Prop := M 19 5 = nI (mN M) ∧ mN M ≤ 200
def mD (M : aM) : Nat := cl (M 19 11)
def md_ok (M : aM) : Prop := M 19 11 = nI (mD M) ∧ mD M ≤ 200
def m_has (M : aM) (x : Int32) : Bool := !(decide (x < 0)) && decide (x < M 19 5)
theorem m_hasD {M : aM} {x : Int32} (hc : mc_ok M) (h : m_has M x = true) : x = nI (cl x) ∧ cl x < mN M ∧ vp_in x 200 := by
  unfold m_has at h
  simp only [Bool.and_eq_true, Bool.not_eq_true', decide_eq_false_iff_not, decide_eq_true_eq] at h
  obtain ⟨j, hj, rfl⟩ := nI_of h.1
  have h2 := h.2
  rw [hc.1] at h2
  have h3 := (nI_ltI hj (by have := hc.2; omega)).mp h2
  have e : cl (nI j) = j := nI_clamp hj
  rw [e]
  exact ⟨rfl, h3, vp_in_nI (by have := hc.2; omega) (by decide)⟩
def m_apd (M : aM) (b : Int32) : aM := am_up (am_up M 20 (m_tl M) b) 19 1 (nI (m_tl M + 1))
theorem m_apd_tl {M : aM} {b : Int32} (h : m_tl M < 400) : m_tl (m_apd M b) = m_tl M + 1 := by
  show cl (m_apd M b 19 1) = _
  unfold m_apd
  simp only [am_up_ap, Nat.reduceEqDiff, ↓reduceIte]
  exact nI_clamp (by omega)
theorem m_apd_ok {M : aM} {b : Int32} (h : m_tl M < 400) : mt_ok (m_apd M b) := by
  refine ⟨?_, by rw [m_apd_tl h]; omega⟩
  rw [m_apd_tl h]
  unfold m_apd
  simp only [am_up_ap, Nat.reduceEqDiff, ↓reduceIte]
def mpb (v : Int64) (k : Nat) : Int32 := (v >>> ((8 * nI k).toInt64 &&& 63)).toInt32 &&& 255
def m_putL (v : Int64) : Nat → aM → aM
  | 0, M => M
  | k + 1, M => m_putL v k (m_apd M (mpb v k))
def m_putOk (M : aM) (n : Int32) : Bool := !(decide (n < 1)) && !(decide (8 < n)) && !(decide (400 < M 19 1 + n))
def sp_Model_put : aS := fun as M K => match as with
  | [.ref a, .long v, .int n] => a = 19 ∧ mt_ok M ∧ K (some (.int (b2 (m_putOk M n)))) (if m_putOk M n = true then m_putL v (cl n) M else M)
  | _ => False
set_option maxRecDepth 100000 in
set_option maxHeartbeats 4000000 in
theorem lp_Model_put {G : aG} (hG : am_ok G) {K : aR} {v : Int64} {n : Int32} : ∀ (k : Nat) (M : aM), mt_ok M → m_tl M + k ≤ 400 → K (some (.int 1)) (m_putL v k M) → am_X G Y_Model_put 1 K 30 [some (.ref 19), some (.long v), none, some (.int n), some (.int (nI k - 1))] [] M := by
  intro k
  induction k with
  | zero =>
    intro M ht hk h
    have e1 : nI 0 - 1 < 0 := by decide
    refine am_from tb_Model_put k_Model_put 400 ?_
    simp only [q_Model_put_30, r_Model_put_0, r_Model_put_1, r_Model_put_2, r_Model_put_5, r_Model_put_6, r_Model_put_8, r_Model_put_11, r_Model_put_12, r_Model_put_15, r_Model_put_16, r_Model_put_17, r_Model_put_20, r_Model_put_23, r_Model_put_24, r_Model_put_25, r_Model_put_26, r_Model_put_27, r_Model_put_28, r_Model_put_30, r_Model_put_32, r_Model_put_35, r_Model_put_36, r_Model_put_39, r_Model_put_40, r_Model_put_43, r_Model_put_44, r_Model_put_46, r_Model_put_48, r_Model_put_49, r_Model_put_50, r_Model_put_51, r_Model_put_54, r_Model_put_55, r_Model_put_56, r_Model_put_57, r_Model_put_58, r_Model_put_61, r_Model_put_62, r_Model_put_63, r_Model_put_66, r_Model_put_69, r_Model_put_72, r_Model_put_73, ai_iload, ai_const, ai_cmplt, ai_cmpgt, ai_aload, ai_getf, ai_iadd, ai_bin, ai_cmple, ai_zret, ai_isub, ai_istore, am_cut_0, am_cut_s, am_c1, ai_iflt, ai_lload, ai_imul, ai_lshr, ai_l2i, ai_iand, ai_iast, ai_putf, ai_iinc, ai_goto, kd_0, fd_0_0, fd_0_1, fd_0_2, fd_0_3, fd_0_4, kd_1, fd_1_0, fd_1_1, ln_2, kd_3, fd_3_0, fd_3_1, fd_3_2, fd_3_3, fd_3_4, fd_3_5, fd_3_6, fd_3_7, fd_3_8, fd_3_9, ln_4, ln_5, ln_6, ln_7, ln_8, ln_9, ln_10, kd_11, fd_11_0, fd_11_1, fd_11_2, fd_11_3, fd_11_4, kd_12, fd_12_0, fd_12_1, fd_12_2, fd_12_3, ln_13, ln_14, ln_15, kd_16, fd_16_0, fd_16_1, fd_16_2, ln_17, kd_18, fd_18_0, fd_18_1, kd_19, fd_19_0, fd_19_1, fd_19_2, fd_19_3, fd_19_4, fd_19_5, fd_19_6, fd_19_7, fd_19_8, fd_19_9, fd_19_10, fd_19_11, fd_19_12, fd_19_13, fd_19_14, fd_19_15, fd_19_16, fd_19_17, fd_19_18, fd_19_19, fd_19_20, ln_20, ln_21, ln_22, ln_23, ln_24, ln_25, ln_26, ln_27, ln_28, ln_29, ln_30, ln_31, ln_32, List.getElem?_cons_zero, List.getElem?_cons_succ, List.set_cons_zero, List.set_cons_succ, true_and, and_true, ↓reduceIte, Int32.reduceLT, Int32.reduceLE, li_10, or_true, true_or, e1]
    exact h
  | succ k ih =>
    intro M ht hk h
    have e1 : ¬ nI k < 0 := nI_pos (by omega)
    have e2 : m_tl M < 400 := by omega
    have e3 : vp_in (M 19 1) 400 := by rw [ht.1]; exact vp_in_nI e2 (by decide)
    have en : nI k + (-1) = nI k - 1 := (Int32.sub_eq_add_neg _ _).symm
    rw [nI_pred]
    refine am_from tb_Model_put k_Model_put 400 ?_
    simp only [q_Model_put_30, r_Model_put_0, r_Model_put_1, r_Model_put_2, r_Model_put_5, r_Model_put_6, r_Model_put_8, r_Model_put_11, r_Model_put_12, r_Model_put_15, r_Model_put_16, r_Model_put_17, r_Model_put_20, r_Model_put_23, r_Model_put_24, r_Model_put_25, r_Model_put_26, r_Model_put_27, r_Model_put_28, r_Model_put_30, r_Model_put_32, r_Model_put_35, r_Model_put_36, r_Model_put_39, r_Model_put_40, r_Model_put_43, r_Model_put_44, r_Model_put_46, r_Model_put_48, r_Model_put_49, r_Model_put_50, r_Model_put_51, r_Model_put_54, r_Model_put_55, r_Model_put_56, r_Model_put_57, r_Model_put_58, r_Model_put_61, r_Model_put_62, r_Model_put_63, r_Model_put_66, r_Model_put_69, r_Model_put_72, r_Model_put_73, ai_iload, ai_const, ai_cmplt, ai_cmpgt, ai_aload, ai_getf, ai_iadd, ai_bin, ai_cmple, ai_zret, ai_isub, ai_istore, am_cut_0, am_cut_s, am_c1, ai_iflt, ai_lload, ai_imul, ai_lshr, ai_l2i, ai_iand, ai_iast, ai_putf, ai_iinc, ai_goto, kd_0, fd_0_0, fd_0_1, fd_0_2, fd_0_3, fd_0_4, kd_1, fd_1_0, fd_1_1, ln_2, kd_3, fd_3_0, fd_3_1, fd_3_2, fd_3_3, fd_3_4, fd_3_5, fd_3_6, fd_3_7, fd_3_8, fd_3_9, ln_4, ln_5, ln_6, ln_7, ln_8, ln_9, ln_10, kd_11, fd_11_0, fd_11_1, fd_11_2, fd_11_3, fd_11_4, kd_12, fd_12_0, fd_12_1, fd_12_2, fd_12_3, ln_13, ln_14, ln_15, kd_16, fd_16_0, fd_16_1, fd_16_2, ln_17, kd_18, fd_18_0, fd_18_1, kd_19, fd_19_0, fd_19_1, fd_19_2, fd_19_3, fd_19_4, fd_19_5, fd_19_6, fd_19_7, fd_19_8, fd_19_9, fd_19_10, fd_19_11, fd_19_12, fd_19_13, fd_19_14, fd_19_15, fd_19_16, fd_19_17, fd_19_18, fd_19_19, fd_19_20, ln_20, ln_21, ln_22, ln_23, ln_24, ln_25, ln_26, ln_27, ln_28, ln_29, ln_30, ln_31, ln_32, List.getElem?_cons_zero, List.getElem?_cons_succ, List.set_cons_zero, List.set_cons_succ, true_and, and_true, ↓reduceIte, Int32.reduceLT, Int32.reduceLE, li_10, or_true, true_or, e1, e3, en, am_up_ap, Nat.reduceEqDiff]
    have e4 : M 19 1 + 1 = nI (m_tl M + 1) := by rw [← nI_1, ← ht.1]
    rw [e4]
    exact ih (m_apd M (mpb v k)) (m_apd_ok e2) (by rw [m_apd_tl e2]; omega) h
set_option maxRecDepth 100000 in
set_option maxHeartbeats 4000000 in
theorem ok_Model_put {G : aG} (hG : am_ok G) : am_Sp G Y_Model_put 1 sp_Model_put := by
  intro as M K h
  unfold sp_Model_put at h
  split at h
  · next a v n =>
    obtain ⟨rfl, ht, h⟩ := h
    unfold m_putOk at h
    by_cases c1 : n < 1
    · refine am_entry hG (by decide +kernel) (Nat.le_of_ble_eq_true rfl) ?_
      refine am_go (cuts := k_Model_put) tb_Model_put 400 _ _ _ _ ?_
      change am_run _ _ _ _ _ _ [some (.ref 19), some (.long v), none, some (.int n), none] [] _
      simp only [q_Model_put_30, r_Model_put_0, r_Model_put_1, r_Model_put_2, r_Model_put_5, r_Model_put_6, r_Model_put_8, r_Model_put_11, r_Model_put_12, r_Model_put_15, r_Model_put_16, r_Model_put_17, r_Model_put_20, r_Model_put_23, r_Model_put_24, r_Model_put_25, r_Model_put_26, r_Model_put_27, r_Model_put_28, r_Model_put_30, r_Model_put_32, r_Model_put_35, r_Model_put_36, r_Model_put_39, r_Model_put_40, r_Model_put_43, r_Model_put_44, r_Model_put_46, r_Model_put_48, r_Model_put_49, r_Model_put_50, r_Model_put_51, r_Model_put_54, r_Model_put_55, r_Model_put_56, r_Model_put_57, r_Model_put_58, r_Model_put_61, r_Model_put_62, r_Model_put_63, r_Model_put_66, r_Model_put_69, r_Model_put_72, r_Model_put_73, ai_iload, ai_const, ai_cmplt, ai_cmpgt, ai_aload, ai_getf, ai_iadd, ai_bin, ai_cmple, ai_zret, ai_isub, ai_istore, am_cut_0, am_cut_s, am_c1, ai_iflt, ai_lload, ai_imul, ai_lshr, ai_l2i, ai_iand, ai_iast, ai_putf, ai_iinc, ai_goto, kd_0, fd_0_0, fd_0_1, fd_0_2, fd_0_3, fd_0_4, kd_1, fd_1_0, fd_1_1, ln_2, kd_3, fd_3_0, fd_3_1, fd_3_2, fd_3_3, fd_3_4, fd_3_5, fd_3_6, fd_3_7, fd_3_8, fd_3_9, ln_4, ln_5, ln_6, ln_7, ln_8, ln_9, ln_10, kd_11, fd_11_0, fd_11_1, fd_11_2, fd_11_3, fd_11_4, kd_12, fd_12_0, fd_12_1, fd_12_2, fd_12_3, ln_13, ln_14, ln_15, kd_16, fd_16_0, fd_16_1, fd_16_2, ln_17, kd_18, fd_18_0, fd_18_1, kd_19, fd_19_0, fd_19_1, fd_19_2, fd_19_3, fd_19_4, fd_19_5, fd_19_6, fd_19_7, fd_19_8, fd_19_9, fd_19_10, fd_19_11, fd_19_12, fd_19_13, fd_19_14, fd_19_15, fd_19_16, fd_19_17, fd_19_18, fd_19_19, fd_19_20, ln_20, ln_21, ln_22, ln_23, ln_24, ln_25, ln_26, ln_27, ln_28, ln_29, ln_30, ln_31, ln_32, List.getElem?_cons_zero, List.getElem?_cons_succ, List.set_cons_zero, List.set_cons_succ, true_and, and_true, ↓reduceIte, Int32.reduceLT, Int32.reduceLE, li_10, or_true, true_or, c1]
      simp [c1, b2] at h
      exact h
    by_cases c2 : 8 < n
    · refine am_entry hG (by decide +kernel) (Nat.le_of_ble_eq_true rfl) ?_
      refine am_go (cuts := k_Model_put) tb_Model_put 400 _ _ _ _ ?_
      change am_run _ _ _ _ _ _ [some (.ref 19), some (.long v), none, some (.int n), none] [] _
      simp only [q_Model_put_30, r_Model_put_0, r_Model_put_1, r_Model_put_2, r_Model_put_5, r_Model_put_6, r_Model_put_8, r_Model_put_11, r_Model_put_12, r_Model_put_15, r_Model_put_16, r_Model_put_17, r_Model_put_20, r_Model_put_23, r_Model_put_24, r_Model_put_25, r_Model_put_26, r_Model_put_27, r_Model_put_28, r_Model_put_30, r_Model_put_32, r_Model_put_35, r_Model_put_36, r_Model_put_39, r_Model_put_40, r_Model_put_43, r_Model_put_44, r_Model_put_46, r_Model_put_48, r_Model_put_49, r_Model_put_50, r_Model_put_51, r_Model_put_54, r_Model_put_55, r_Model_put_56, r_Model_put_57, r_Model_put_58, r_Model_put_61, r_Model_put_62, r_Model_put_63, r_Model_put_66, r_Model_put_69, r_Model_put_72, r_Model_put_73, ai_iload, ai_const, ai_cmplt, ai_cmpgt, ai_aload, ai_getf, ai_iadd, ai_bin, ai_cmple, ai_zret, ai_isub, ai_istore, am_cut_0, am_cut_s, am_c1, ai_iflt, ai_lload, ai_imul, ai_lshr, ai_l2i, ai_iand, ai_iast, ai_putf, ai_iinc, ai_goto, kd_0, fd_0_0, fd_0_1, fd_0_2, fd_0_3, fd_0_4, kd_1, fd_1_0, fd_1_1, ln_2, kd_3, fd_3_0, fd_3_1, fd_3_2, fd_3_3, fd_3_4, fd_3_5, fd_3_6, fd_3_7, fd_3_8, fd_3_9, ln_4, ln_5, ln_6, ln_7, ln_8, ln_9, ln_10, kd_11, fd_11_0, fd_11_1, fd_11_2, fd_11_3, fd_11_4, kd_12, fd_12_0, fd_12_1, fd_12_2, fd_12_3, ln_13, ln_14, ln_15, kd_16, fd_16_0, fd_16_1, fd_16_2, ln_17, kd_18, fd_18_0, fd_18_1, kd_19, fd_19_0, fd_19_1, fd_19_2, fd_19_3, fd_19_4, fd_19_5, fd_19_6, fd_19_7, fd_19_8, fd_19_9, fd_19_10, fd_19_11, fd_19_12, fd_19_13, fd_19_14, fd_19_15, fd_19_16, fd_19_17, fd_19_18, fd_19_19, fd_19_20, ln_20, ln_21, ln_22, ln_23, ln_24, ln_25, ln_26, ln_27, ln_28, ln_29, ln_30, ln_31, ln_32, List.getElem?_cons_zero, List.getElem?_cons_succ, List.set_cons_zero, List.set_cons_succ, true_and, and_true, ↓reduceIte, Int32.reduceLT, Int32.reduceLE, li_10, or_true, true_or, c1, c2]
      simp [c2, b2] at h
      exact h
    by_cases c3 : 400 < M 19 1 + n
    · refine am_entry hG (by decide +kernel) (Nat.le_of_ble_eq_true rfl) ?_
      refine am_go (cuts := k_Model_put) tb_Model_put 400 _ _ _ _ ?_
      change am_run _ _ _ _ _ _ [some (.ref 19), some (.long v), none, some (.int n), none] [] _
      simp only [q_Model_put_30, r_Model_put_0, r_Model_put_1, r_Model_put_2, r_Model_put_5, r_Model_put_6, r_Model_put_8, r_Model_put_11, r_Model_put_12, r_Model_put_15, r_Model_put_16, r_Model_put_17, r_Model_put_20, r_Model_put_23, r_Model_put_24, r_Model_put_25, r_Model_put_26, r_Model_put_27, r_Model_put_28, r_Model_put_30, r_Model_put_32, r_Model_put_35, r_Model_put_36, r_Model_put_39, r_Model_put_40, r_Model_put_43, r_Model_put_44, r_Model_put_46, r_Model_put_48, r_Model_put_49, r_Model_put_50, r_Model_put_51, r_Model_put_54, r_Model_put_55, r_Model_put_56, r_Model_put_57, r_Model_put_58, r_Model_put_61, r_Model_put_62, r_Model_put_63, r_Model_put_66, r_Model_put_69, r_Model_put_72, r_Model_put_73, ai_iload, ai_const, ai_cmplt, ai_cmpgt, ai_aload, ai_getf, ai_iadd, ai_bin, ai_cmple, ai_zret, ai_isub, ai_istore, am_cut_0, am_cut_s, am_c1, ai_iflt, ai_lload, ai_imul, ai_lshr, ai_l2i, ai_iand, ai_iast, ai_putf, ai_iinc, ai_goto, kd_0, fd_0_0, fd_0_1, fd_0_2, fd_0_3, fd_0_4, kd_1, fd_1_0, fd_1_1, ln_2, kd_3, fd_3_0, fd_3_1, fd_3_2, fd_3_3, fd_3_4, fd_3_5, fd_3_6, fd_3_7, fd_3_8, fd_3_9, ln_4, ln_5, ln_6, ln_7, ln_8, ln_9, ln_10, kd_11, fd_11_0, fd_11_1, fd_11_2, fd_11_3, fd_11_4, kd_12, fd_12_0, fd_12_1, fd_12_2, fd_12_3, ln_13, ln_14, ln_15, kd_16, fd_16_0, fd_16_1, fd_16_2, ln_17, kd_18, fd_18_0, fd_18_1, kd_19, fd_19_0, fd_19_1, fd_19_2, fd_19_3, fd_19_4, fd_19_5, fd_19_6, fd_19_7, fd_19_8, fd_19_9, fd_19_10, fd_19_11, fd_19_12, fd_19_13, fd_19_14, fd_19_15, fd_19_16, fd_19_17, fd_19_18, fd_19_19, fd_19_20, ln_20, ln_21, ln_22, ln_23, ln_24, ln_25, ln_26, ln_27, ln_28, ln_29, ln_30, ln_31, ln_32, List.getElem?_cons_zero, List.getElem?_cons_succ, List.set_cons_zero, List.set_cons_succ, true_and, and_true, ↓reduceIte, Int32.reduceLT, Int32.reduceLE, li_10, or_true, true_or, c1, c2, c3]
      simp [c3, b2] at h
      exact h
    refine am_entry hG (by decide +kernel) (Nat.le_of_ble_eq_true rfl) ?_
    refine am_go (cuts := k_Model_put) tb_Model_put 400 _ _ _ _ ?_
    change am_run _ _ _ _ _ _ [some (.ref 19), some (.long v), none, some (.int n), none] [] _
    simp only [q_Model_put_30, r_Model_put_0, r_Model_put_1, r_Model_put_2, r_Model_put_5, r_Model_put_6, r_Model_put_8, r_Model_put_11, r_Model_put_12, r_Model_put_15, r_Model_put_16, r_Model_put_17, r_Model_put_20, r_Model_put_23, r_Model_put_24, r_Model_put_25, r_Model_put_26, r_Model_put_27, r_Model_put_28, r_Model_put_30, r_Model_put_32, r_Model_put_35, r_Model_put_36, r_Model_put_39, r_Model_put_40, r_Model_put_43, r_Model_put_44, r_Model_put_46, r_Model_put_48, r_Model_put_49, r_Model_put_50, r_Model_put_51, r_Model_put_54, r_Model_put_55, r_Model_put_56, r_Model_put_57, r_Model_put_58, r_Model_put_61, r_Model_put_62, r_Model_put_63, r_Model_put_66, r_Model_put_69, r_Model_put_72, r_Model_put_73, ai_iload, ai_const, ai_cmplt, ai_cmpgt, ai_aload, ai_getf, ai_iadd, ai_bin, ai_cmple, ai_zret, ai_isub, ai_istore, am_cut_0, am_cut_s, am_c1, ai_iflt, ai_lload, ai_imul, ai_lshr, ai_l2i, ai_iand, ai_iast, ai_putf, ai_iinc, ai_goto, kd_0, fd_0_0, fd_0_1, fd_0_2, fd_0_3, fd_0_4, kd_1, fd_1_0, fd_1_1, ln_2, kd_3, fd_3_0, fd_3_1, fd_3_2, fd_3_3, fd_3_4, fd_3_5, fd_3_6, fd_3_7, fd_3_8, fd_3_9, ln_4, ln_5, ln_6, ln_7, ln_8, ln_9, ln_10, kd_11, fd_11_0, fd_11_1, fd_11_2, fd_11_3, fd_11_4, kd_12, fd_12_0, fd_12_1, fd_12_2, fd_12_3, ln_13, ln_14, ln_15, kd_16, fd_16_0, fd_16_1, fd_16_2, ln_17, kd_18, fd_18_0, fd_18_1, kd_19, fd_19_0, fd_19_1, fd_19_2, fd_19_3, fd_19_4, fd_19_5, fd_19_6, fd_19_7, fd_19_8, fd_19_9, fd_19_10, fd_19_11, fd_19_12, fd_19_13, fd_19_14, fd_19_15, fd_19_16, fd_19_17, fd_19_18, fd_19_19, fd_19_20, ln_20, ln_21, ln_22, ln_23, ln_24, ln_25, ln_26, ln_27, ln_28, ln_29, ln_30, ln_31, ln_32, List.getElem?_cons_zero, List.getElem?_cons_succ, List.set_cons_zero, List.set_cons_succ, true_and, and_true, ↓reduceIte, Int32.reduceLT, Int32.reduceLE, li_10, or_true, true_or, c1, c2, c3]
    simp only [c1, c2, c3, decide_false, Bool.not_false, Bool.and_self, ↓reduceIte] at h
    have h1 : ¬ n < 0 := fun q => c1 (Int32.lt_trans q (by decide))
    obtain ⟨j, hj, rfl⟩ := nI_of h1
    rw [show cl (nI j) = j from nI_clamp hj] at h
    have h8 : j ≤ 8 := by
      apply Nat.le_of_not_lt
      intro q
      exact c2 (nI_lt (a := 8) q hj)
    have h4 : m_tl M + j ≤ 400 := by
      apply Nat.le_of_not_lt
      intro q
      apply c3
      rw [ht.1, nI_add]
      exact nI_lt (a := 400) q (by have := ht.2; omega)
    exact lp_Model_put hG j M ht h4 h
  · cases h
def sp_Model_place : aS := fun as M K => match as with
  | [.ref a] => a = 19 ∧ K (some (.int (M 19 4))) M
  | _ => False
set_option maxRecDepth 100000 in
set_option maxHeartbeats 4000000 in
theorem ok_Model_place {G : aG} (hG : am_ok G) : am_Sp G Y_Model_place 1 sp_Model_place := by
  intro as M K h
  unfold sp_Model_place at h
  split at h
  · next a =>
    obtain ⟨rfl, h⟩ := h
    refine am_entry hG (by decide +kernel) (Nat.le_of_ble_eq_true rfl) ?_
    refine am_go (cuts := k_Model_place) tb_Model_place 400 _ _ _ _ ?_
    change am_run _ _ _ _ _ _ [some (.ref 19)] [] _
    simp only [r_Model_place_0, r_Model_place_1, r_Model_place_4, ai_aload, ai_getf, ai_iret, kd_0, fd_0_0, fd_0_1, fd_0_2, fd_0_3, fd_0_4, kd_1, fd_1_0, fd_1_1, ln_2, kd_3, fd_3_0, fd_3_1, fd_3_2, fd_3_3, fd_3_4, fd_3_5, fd_3_6, fd_3_7, fd_3_8, fd_3_9, ln_4, ln_5, ln_6, ln_7, ln_8, ln_9, ln_10, kd_11, fd_11_0, fd_11_1, fd_11_2, fd_11_3, fd_11_4, kd_12, fd_12_0, fd_12_1, fd_12_2, fd_12_3, ln_13, ln_14, ln_15, kd_16, fd_16_0, fd_16_1, fd_16_2, ln_17, kd_18, fd_18_0, fd_18_1, kd_19, fd_19_0, fd_19_1, fd_19_2, fd_19_3, fd_19_4, fd_19_5, fd_19_6, fd_19_7, fd_19_8, fd_19_9, fd_19_10, fd_19_11, fd_19_12, fd_19_13, fd_19_14, fd_19_15, fd_19_16, fd_19_17, fd_19_18, fd_19_19, fd_19_20, ln_20, ln_21, ln_22, ln_23, ln_24, ln_25, ln_26, ln_27, ln_28, ln_29, ln_30, ln_31, ln_32, List.getElem?_cons_zero, List.getElem?_cons_succ, List.set_cons_zero, List.set_cons_succ, true_and, and_true, ↓reduceIte, Int32.reduceLT, Int32.reduceLE, li_10, or_true, true_or]
    exact h
  · cases h
def sp_Model_isNode : aS := fun as M K => match as with
  | [.ref a, .int x] => a = 19 ∧ K (some (.int (b2 (m_has M x)))) M
  | _ => False
set_option maxRecDepth 100000 in
set_option maxHeartbeats 4000000 in
theorem ok_Model_isNode {G : aG} (hG : am_ok G) : am_Sp G Y_Model_isNode 0 sp_Model_isNode := by
  intro as M K h
  unfold sp_Model_isNode at h
  split at h
  · next a x =>
    obtain ⟨rfl, h⟩ := h
    unfold m_has at h
    refine am_entry hG (by decide +kernel) (Nat.le_of_ble_eq_true rfl) ?_
    refine am_go (cuts := k_Model_isNode) tb_Model_isNode 400 _ _ _ _ ?_
    change am_run _ _ _ _ _ _ [some (.ref 19), some (.int x)] [] _
    simp only [r_Model_isNode_0, r_Model_isNode_1, r_Model_isNode_4, r_Model_isNode_5, r_Model_isNode_6, r_Model_isNode_9, r_Model_isNode_12, r_Model_isNode_13, r_Model_isNode_16, r_Model_isNode_17, ai_iload, ai_iflt, ai_aload, ai_getf, ai_cmpge, ai_const, ai_goto, ai_zret, kd_0, fd_0_0, fd_0_1, fd_0_2, fd_0_3, fd_0_4, kd_1, fd_1_0, fd_1_1, ln_2, kd_3, fd_3_0, fd_3_1, fd_3_2, fd_3_3, fd_3_4, fd_3_5, fd_3_6, fd_3_7, fd_3_8, fd_3_9, ln_4, ln_5, ln_6, ln_7, ln_8, ln_9, ln_10, kd_11, fd_11_0, fd_11_1, fd_11_2, fd_11_3, fd_11_4, kd_12, fd_12_0, fd_12_1, fd_12_2, fd_12_3, ln_13, ln_14, ln_15, kd_16, fd_16_0, fd_16_1, fd_16_2, ln_17, kd_18, fd_18_0, fd_18_1, kd_19, fd_19_0, fd_19_1, fd_19_2, fd_19_3, fd_19_4, fd_19_5, fd_19_6, fd_19_7, fd_19_8, fd_19_9, fd_19_10, fd_19_11, fd_19_12, fd_19_13, fd_19_14, fd_19_15, fd_19_16, fd_19_17, fd_19_18, fd_19_19, fd_19_20, ln_20, ln_21, ln_22, ln_23, ln_24, ln_25, ln_26, ln_27, ln_28, ln_29, ln_30, ln_31, ln_32, List.getElem?_cons_zero, List.getElem?_cons_succ, List.set_cons_zero, List.set_cons_succ, true_and, and_true, ↓reduceIte, Int32.reduceLT, Int32.reduceLE, li_10, or_true, true_or]
    by_cases c1 : x < 0
    · rw [if_pos c1]; simp [c1, b2] at h; exact h
    · rw [if_neg c1]
      by_cases c2 : x < M 19 5
      · rw [if_pos c2]; simp [c1, c2, b2] at h; exact h
      · rw [if_neg c2]; simp [c2, b2] at h; exact h
  · cases h
def m_data (M : aM) (k : Int32) : Int32 := if k < 0 then -1 else if k < M 19 11 then M 26 (cl k) else -1
def sp_Model_datum : aS := fun as M K => match as with
  | [.ref a, .int k] => a = 19 ∧ md_ok M ∧ K (some (.int (m_data M k))) M
  | _ => False
set_option maxRecDepth 100000 in
set_option maxHeartbeats 4000000 in
theorem ok_Model_datum {G : aG} (hG : am_ok G) : am_Sp G Y_Model_datum 1 sp_Model_datum := by
  intro as M K h
  unfold sp_Model_datum at h
  split at h
  · next a k =>
    obtain ⟨rfl, hd, h⟩ := h
    unfold m_data at h
    by_cases c1 : k < 0
    · rw [if_pos c1] at h
      refine am_entry hG (by decide +kernel) (Nat.le_of_ble_eq_true rfl) ?_
      refine am_go (cuts := k_Model_datum) tb_Model_datum 400 _ _ _ _ ?_
      change am_run _ _ _ _ _ _ [some (.ref 19), some (.int k)] [] _
      simp only [r_Model_datum_0, r_Model_datum_1, r_Model_datum_4, r_Model_datum_5, r_Model_datum_6, r_Model_datum_9, r_Model_datum_12, r_Model_datum_13, r_Model_datum_16, r_Model_datum_17, r_Model_datum_18, r_Model_datum_21, r_Model_datum_22, ai_iload, ai_iflt, ai_aload, ai_getf, ai_cmpge, ai_iald, ai_goto, ai_const, ai_iret, kd_0, fd_0_0, fd_0_1, fd_0_2, fd_0_3, fd_0_4, kd_1, fd_1_0, fd_1_1, ln_2, kd_3, fd_3_0, fd_3_1, fd_3_2, fd_3_3, fd_3_4, fd_3_5, fd_3_6, fd_3_7, fd_3_8, fd_3_9, ln_4, ln_5, ln_6, ln_7, ln_8, ln_9, ln_10, kd_11, fd_11_0, fd_11_1, fd_11_2, fd_11_3, fd_11_4, kd_12, fd_12_0, fd_12_1, fd_12_2, fd_12_3, ln_13, ln_14, ln_15, kd_16, fd_16_0, fd_16_1, fd_16_2, ln_17, kd_18, fd_18_0, fd_18_1, kd_19, fd_19_0, fd_19_1, fd_19_2, fd_19_3, fd_19_4, fd_19_5, fd_19_6, fd_19_7, fd_19_8, fd_19_9, fd_19_10, fd_19_11, fd_19_12, fd_19_13, fd_19_14, fd_19_15, fd_19_16, fd_19_17, fd_19_18, fd_19_19, fd_19_20, ln_20, ln_21, ln_22, ln_23, ln_24, ln_25, ln_26, ln_27, ln_28, ln_29, ln_30, ln_31, ln_32, List.getElem?_cons_zero, List.getElem?_cons_succ, List.set_cons_zero, List.set_cons_succ, true_and, and_true, ↓reduceIte, Int32.reduceLT, Int32.reduceLE, li_10, or_true, true_or, c1]
      exact h
    rw [if_neg c1] at h
    by_cases c2 : k < M 19 11
    · rw [if_pos c2] at h
      have c3 : vp_in k 200 := by
        obtain ⟨j, hj, rfl⟩ := nI_of c1
        rw [hd.1] at c2
        have := (nI_ltI hj (by have := hd.2; omega)).mp c2
        exact vp_in_nI (by have := hd.2; omega) (by decide)
      refine am_entry hG (by decide +kernel) (Nat.le_of_ble_eq_true rfl) ?_
      refine am_go (cuts := k_Model_datum) tb_Model_datum 400 _ _ _ _ ?_
      change am_run _ _ _ _ _ _ [some (.ref 19), some (.int k)] [] _
      simp only [r_Model_datum_0, r_Model_datum_1, r_Model_datum_4, r_Model_datum_5, r_Model_datum_6, r_Model_datum_9, r_Model_datum_12, r_Model_datum_13, r_Model_datum_16, r_Model_datum_17, r_Model_datum_18, r_Model_datum_21, r_Model_datum_22, ai_iload, ai_iflt, ai_aload, ai_getf, ai_cmpge, ai_iald, ai_goto, ai_const, ai_iret, kd_0, fd_0_0, fd_0_1, fd_0_2, fd_0_3, fd_0_4, kd_1, fd_1_0, fd_1_1, ln_2, kd_3, fd_3_0, fd_3_1, fd_3_2, fd_3_3, fd_3_4, fd_3_5, fd_3_6, fd_3_7, fd_3_8, fd_3_9, ln_4, ln_5, ln_6, ln_7, ln_8, ln_9, ln_10, kd_11, fd_11_0, fd_11_1, fd_11_2, fd_11_3, fd_11_4, kd_12, fd_12_0, fd_12_1, fd_12_2, fd_12_3, ln_13, ln_14, ln_15, kd_16, fd_16_0, fd_16_1, fd_16_2, ln_17, kd_18, fd_18_0, fd_18_1, kd_19, fd_19_0, fd_19_1, fd_19_2, fd_19_3, fd_19_4, fd_19_5, fd_19_6, fd_19_7, fd_19_8, fd_19_9, fd_19_10, fd_19_11, fd_19_12, fd_19_13, fd_19_14, fd_19_15, fd_19_16, fd_19_17, fd_19_18, fd_19_19, fd_19_20, ln_20, ln_21, ln_22, ln_23, ln_24, ln_25, ln_26, ln_27, ln_28, ln_29, ln_30, ln_31, ln_32, List.getElem?_cons_zero, List.getElem?_cons_succ, List.set_cons_zero, List.set_cons_succ, true_and, and_true, ↓reduceIte, Int32.reduceLT, Int32.reduceLE, li_10, or_true, true_or, c1, c2, c3]
      exact h
    · rw [if_neg c2] at h
      refine am_entry hG (by decide +kernel) (Nat.le_of_ble_eq_true rfl) ?_
      refine am_go (cuts := k_Model_datum) tb_Model_datum 400 _ _ _ _ ?_
      change am_run _ _ _ _ _ _ [some (.ref 19), some (.int k)] [] _
      simp only [r_Model_datum_0, r_Model_datum_1, r_Model_datum_4, r_Model_datum_5, r_Model_datum_6, r_Model_datum_9, r_Model_datum_12, r_Model_datum_13, r_Model_datum_16, r_Model_datum_17, r_Model_datum_18, r_Model_datum_21, r_Model_datum_22, ai_iload, ai_iflt, ai_aload, ai_getf, ai_cmpge, ai_iald, ai_goto, ai_const, ai_iret, kd_0, fd_0_0, fd_0_1, fd_0_2, fd_0_3, fd_0_4, kd_1, fd_1_0, fd_1_1, ln_2, kd_3, fd_3_0, fd_3_1, fd_3_2, fd_3_3, fd_3_4, fd_3_5, fd_3_6, fd_3_7, fd_3_8, fd_3_9, ln_4, ln_5, ln_6, ln_7, ln_8, ln_9, ln_10, kd_11, fd_11_0, fd_11_1, fd_11_2, fd_11_3, fd_11_4, kd_12, fd_12_0, fd_12_1, fd_12_2, fd_12_3, ln_13, ln_14, ln_15, kd_16, fd_16_0, fd_16_1, fd_16_2, ln_17, kd_18, fd_18_0, fd_18_1, kd_19, fd_19_0, fd_19_1, fd_19_2, fd_19_3, fd_19_4, fd_19_5, fd_19_6, fd_19_7, fd_19_8, fd_19_9, fd_19_10, fd_19_11, fd_19_12, fd_19_13, fd_19_14, fd_19_15, fd_19_16, fd_19_17, fd_19_18, fd_19_19, fd_19_20, ln_20, ln_21, ln_22, ln_23, ln_24, ln_25, ln_26, ln_27, ln_28, ln_29, ln_30, ln_31, ln_32, List.getElem?_cons_zero, List.getElem?_cons_succ, List.set_cons_zero, List.set_cons_succ, true_and, and_true, ↓reduceIte, Int32.reduceLT, Int32.reduceLE, li_10, or_true, true_or, c1, c2]
      exact h
  · cases h
def m_kind (M : aM) (x : Int32) : Int32 := if m_has M x = true then M 21 (cl x) else 0
def sp_Model_kind : aS := fun as M K => match as with
  | [.ref a, .int x] => a = 19 ∧ mc_ok M ∧ K (some (.int (m_kind M x))) M
  | _ => False
set_option maxRecDepth 100000 in
set_option maxHeartbeats 4000000 in
theorem ok_Model_kind {G : aG} (hG : am_ok G) : am_Sp G Y_Model_kind 1 sp_Model_kind := by
  intro as M K h
  unfold sp_Model_kind at h
  split at h
  · next a x =>
    obtain ⟨rfl, hc, h⟩ := h
    unfold m_kind at h
    cases c : m_has M x
    · rw [c] at h
      refine am_entry hG (by decide +kernel) (Nat.le_of_ble_eq_true rfl) ?_
      refine am_go (cuts := k_Model_kind) (tb_Model_kind (ok_Model_isNode hG) (by decide)) 400 _ _ _ _ ?_
      change am_run _ _ _ _ _ _ [some (.ref 19), some (.int x)] [] _
      simp only [r_Model_kind_0, r_Model_kind_1, r_Model_kind_2, r_Model_kind_5, r_Model_kind_8, r_Model_kind_9, r_Model_kind_12, r_Model_kind_13, r_Model_kind_14, r_Model_kind_17, r_Model_kind_18, ai_aload, ai_iload, ai_callv2, am_push, am_few, ai_ifeq, ai_getf, ai_iald, ai_goto, ai_const, ai_iret, kd_0, fd_0_0, fd_0_1, fd_0_2, fd_0_3, fd_0_4, kd_1, fd_1_0, fd_1_1, ln_2, kd_3, fd_3_0, fd_3_1, fd_3_2, fd_3_3, fd_3_4, fd_3_5, fd_3_6, fd_3_7, fd_3_8, fd_3_9, ln_4, ln_5, ln_6, ln_7, ln_8, ln_9, ln_10, kd_11, fd_11_0, fd_11_1, fd_11_2, fd_11_3, fd_11_4, kd_12, fd_12_0, fd_12_1, fd_12_2, fd_12_3, ln_13, ln_14, ln_15, kd_16, fd_16_0, fd_16_1, fd_16_2, ln_17, kd_18, fd_18_0, fd_18_1, kd_19, fd_19_0, fd_19_1, fd_19_2, fd_19_3, fd_19_4, fd_19_5, fd_19_6, fd_19_7, fd_19_8, fd_19_9, fd_19_10, fd_19_11, fd_19_12, fd_19_13, fd_19_14, fd_19_15, fd_19_16, fd_19_17, fd_19_18, fd_19_19, fd_19_20, ln_20, ln_21, ln_22, ln_23, ln_24, ln_25, ln_26, ln_27, ln_28, ln_29, ln_30, ln_31, ln_32, List.getElem?_cons_zero, List.getElem?_cons_succ, List.set_cons_zero, List.set_cons_succ, true_and, and_true, ↓reduceIte, Int32.reduceLT, Int32.reduceLE, li_10, or_true, true_or, ↓sp_Model_isNode, b2_eq0, c]
      exact h
    · rw [c] at h
      have c3 := (m_hasD hc c).2.2
      refine am_entry hG (by decide +kernel) (Nat.le_of_ble_eq_true rfl) ?_
      refine am_go (cuts := k_Model_kind) (tb_Model_kind (ok_Model_isNode hG) (by decide)) 400 _ _ _ _ ?_
      change am_run _ _ _ _ _ _ [some (.ref 19), some (.int x)] [] _
      simp only [r_Model_kind_0, r_Model_kind_1, r_Model_kind_2, r_Model_kind_5, r_Model_kind_8, r_Model_kind_9, r_Model_kind_12, r_Model_kind_13, r_Model_kind_14, r_Model_kind_17, r_Model_kind_18, ai_aload, ai_iload, ai_callv2, am_push, am_few, ai_ifeq, ai_getf, ai_iald, ai_goto, ai_const, ai_iret, kd_0, fd_0_0, fd_0_1, fd_0_2, fd_0_3, fd_0_4, kd_1, fd_1_0, fd_1_1, ln_2, kd_3, fd_3_0, fd_3_1, fd_3_2, fd_3_3, fd_3_4, fd_3_5, fd_3_6, fd_3_7, fd_3_8, fd_3_9, ln_4, ln_5, ln_6, ln_7, ln_8, ln_9, ln_10, kd_11, fd_11_0, fd_11_1, fd_11_2, fd_11_3, fd_11_4, kd_12, fd_12_0, fd_12_1, fd_12_2, fd_12_3, ln_13, ln_14, ln_15, kd_16, fd_16_0, fd_16_1, fd_16_2, ln_17, kd_18, fd_18_0, fd_18_1, kd_19, fd_19_0, fd_19_1, fd_19_2, fd_19_3, fd_19_4, fd_19_5, fd_19_6, fd_19_7, fd_19_8, fd_19_9, fd_19_10, fd_19_11, fd_19_12, fd_19_13, fd_19_14, fd_19_15, fd_19_16, fd_19_17, fd_19_18, fd_19_19, fd_19_20, ln_20, ln_21, ln_22, ln_23, ln_24, ln_25, ln_26, ln_27, ln_28, ln_29, ln_30, ln_31, ln_32, List.getElem?_cons_zero, List.getElem?_cons_succ, List.set_cons_zero, List.set_cons_succ, true_and, and_true, ↓reduceIte, Int32.reduceLT, Int32.reduceLE, li_10, or_true, true_or, ↓sp_Model_isNode, b2_eq0, c, c3, reduceCtorEq]
      exact h
  · cases h
def m_amt (M : aM) (x : Int32) : Int32 := if m_has M x = true then M 22 (cl x) else 0
def sp_Model_value : aS := fun as M K => match as with
  | [.ref a, .int x] => a = 19 ∧ mc_ok M ∧ K (some (.int (m_amt M x))) M
  | _ => False
set_option maxRecDepth 100000 in
set_option maxHeartbeats 4000000 in
theorem ok_Model_value {G : aG} (hG : am_ok G) : am_Sp G Y_Model_value 1 sp_Model_value := by
  intro as M K h
  unfold sp_Model_value at h
  split at h
  · next a x =>
    obtain ⟨rfl, hc, h⟩ := h
    unfold m_amt at h
    cases c : m_has M x
    · rw [c] at h
      refine am_entry hG (by decide +kernel) (Nat.le_of_ble_eq_true rfl) ?_
      refine am_go (cuts := k_Model_value) (tb_Model_value (ok_Model_isNode hG) (by decide)) 400 _ _ _ _ ?_
      change am_run _ _ _ _ _ _ [some (.ref 19), some (.int x)] [] _
      simp only [r_Model_value_0, r_Model_value_1, r_Model_value_2, r_Model_value_5, r_Model_value_8, r_Model_value_9, r_Model_value_12, r_Model_value_13, r_Model_value_14, r_Model_value_17, r_Model_value_18, ai_aload, ai_iload, ai_callv2, am_push, am_few, ai_ifeq, ai_getf, ai_iald, ai_goto, ai_const, ai_iret, kd_0, fd_0_0, fd_0_1, fd_0_2, fd_0_3, fd_0_4, kd_1, fd_1_0, fd_1_1, ln_2, kd_3, fd_3_0, fd_3_1, fd_3_2, fd_3_3, fd_3_4, fd_3_5, fd_3_6, fd_3_7, fd_3_8, fd_3_9, ln_4, ln_5, ln_6, ln_7, ln_8, ln_9, ln_10, kd_11, fd_11_0, fd_11_1, fd_11_2, fd_11_3, fd_11_4, kd_12, fd_12_0, fd_12_1, fd_12_2, fd_12_3, ln_13, ln_14, ln_15, kd_16, fd_16_0, fd_16_1, fd_16_2, ln_17, kd_18, fd_18_0, fd_18_1, kd_19, fd_19_0, fd_19_1, fd_19_2, fd_19_3, fd_19_4, fd_19_5, fd_19_6, fd_19_7, fd_19_8, fd_19_9, fd_19_10, fd_19_11, fd_19_12, fd_19_13, fd_19_14, fd_19_15, fd_19_16, fd_19_17, fd_19_18, fd_19_19, fd_19_20, ln_20, ln_21, ln_22, ln_23, ln_24, ln_25, ln_26, ln_27, ln_28, ln_29, ln_30, ln_31, ln_32, List.getElem?_cons_zero, List.getElem?_cons_succ, List.set_cons_zero, List.set_cons_succ, true_and, and_true, ↓reduceIte, Int32.reduceLT, Int32.reduceLE, li_10, or_true, true_or, ↓sp_Model_isNode, b2_eq0, c]
      exact h
    · rw [c] at h
      have c3 := (m_hasD hc c).2.2
      refine am_entry hG (by decide +kernel) (Nat.le_of_ble_eq_true rfl) ?_
      refine am_go (cuts := k_Model_value) (tb_Model_value (ok_Model_isNode hG) (by decide)) 400 _ _ _ _ ?_
      change am_run _ _ _ _ _ _ [some (.ref 19), some (.int x)] [] _
      simp only [r_Model_value_0, r_Model_value_1, r_Model_value_2, r_Model_value_5, r_Model_value_8, r_Model_value_9, r_Model_value_12, r_Model_value_13, r_Model_value_14, r_Model_value_17, r_Model_value_18, ai_aload, ai_iload, ai_callv2, am_push, am_few, ai_ifeq, ai_getf, ai_iald, ai_goto, ai_const, ai_iret, kd_0, fd_0_0, fd_0_1, fd_0_2, fd_0_3, fd_0_4, kd_1, fd_1_0, fd_1_1, ln_2, kd_3, fd_3_0, fd_3_1, fd_3_2, fd_3_3, fd_3_4, fd_3_5, fd_3_6, fd_3_7, fd_3_8, fd_3_9, ln_4, ln_5, ln_6, ln_7, ln_8, ln_9, ln_10, kd_11, fd_11_0, fd_11_1, fd_11_2, fd_11_3, fd_11_4, kd_12, fd_12_0, fd_12_1, fd_12_2, fd_12_3, ln_13, ln_14, ln_15, kd_16, fd_16_0, fd_16_1, fd_16_2, ln_17, kd_18, fd_18_0, fd_18_1, kd_19, fd_19_0, fd_19_1, fd_19_2, fd_19_3, fd_19_4, fd_19_5, fd_19_6, fd_19_7, fd_19_8, fd_19_9, fd_19_10, fd_19_11, fd_19_12, fd_19_13, fd_19_14, fd_19_15, fd_19_16, fd_19_17, fd_19_18, fd_19_19, fd_19_20, ln_20, ln_21, ln_22, ln_23, ln_24, ln_25, ln_26, ln_27, ln_28, ln_29, ln_30, ln_31, ln_32, List.getElem?_cons_zero, List.getElem?_cons_succ, List.set_cons_zero, List.set_cons_succ, true_and, and_true, ↓reduceIte, Int32.reduceLT, Int32.reduceLE, li_10, or_true, true_or, ↓sp_Model_isNode, b2_eq0, c, c3, reduceCtorEq]
      exact h
  · cases h
def m_isT (M : aM) (x : Int32) : Bool := m_has M x && (decide (M 21 (cl x) = 2) || decide (M 21 (cl x) = 3))
def mb_ok (M : aM) : Prop := ∀ x, m_isT M x = true → M 22 (cl x) = nI (cl (M 22 (cl x))) ∧ cl (M 22 (cl x)) ≤ 20
def m_byte (M : aM) (x k : Int32) : Int32 := if m_isT M x = true then (if k < 0 then -1 else if k < M 22 (cl x) then M 23 (20 * cl x + cl k) else -1) else -1
def sp_Model_byteAt : aS := fun as M K => match as with
  | [.ref a, .int x, .int k] => a = 19 ∧ (mc_ok M ∧ mb_ok M) ∧ K (some (.int (m_byte M x k))) M
  | _ => False
set_option maxRecDepth 100000 in
set_option maxHeartbeats 4000000 in
theorem ok_Model_byteAt {G : aG} (hG : am_ok G) : am_Sp G Y_Model_byteAt 1 sp_Model_byteAt := by
  intro as M K h
  unfold sp_Model_byteAt at h
  split at h
  · next a x k =>
    obtain ⟨rfl, ⟨hc, hb⟩, h⟩ := h
    unfold m_byte at h
    cases c : m_has M x
    · have c2 : m_isT M x = false := by unfold m_isT; rw [c]; rfl
      rw [c2] at h
      refine am_entry hG (by decide +kernel) (Nat.le_of_ble_eq_true rfl) ?_
      refine am_go (cuts := k_Model_byteAt) (tb_Model_byteAt (ok_Model_isNode hG) (by decide)) 400 _ _ _ _ ?_
      change am_run _ _ _ _ _ _ [some (.ref 19), some (.int x), some (.int k), none] [] _
      simp only [r_Model_byteAt_0, r_Model_byteAt_1, r_Model_byteAt_2, r_Model_byteAt_5, r_Model_byteAt_8, r_Model_byteAt_9, r_Model_byteAt_12, r_Model_byteAt_13, r_Model_byteAt_14, r_Model_byteAt_15, r_Model_byteAt_18, r_Model_byteAt_19, r_Model_byteAt_22, r_Model_byteAt_23, r_Model_byteAt_24, r_Model_byteAt_25, r_Model_byteAt_28, r_Model_byteAt_29, r_Model_byteAt_32, r_Model_byteAt_33, r_Model_byteAt_34, r_Model_byteAt_37, r_Model_byteAt_38, r_Model_byteAt_39, r_Model_byteAt_42, r_Model_byteAt_43, r_Model_byteAt_46, r_Model_byteAt_47, r_Model_byteAt_48, r_Model_byteAt_49, r_Model_byteAt_52, r_Model_byteAt_53, r_Model_byteAt_56, r_Model_byteAt_58, r_Model_byteAt_59, r_Model_byteAt_60, r_Model_byteAt_61, r_Model_byteAt_62, r_Model_byteAt_63, r_Model_byteAt_66, r_Model_byteAt_67, ai_aload, ai_iload, ai_callv2, am_push, am_few, ai_ifeq, ai_getf, ai_iald, ai_const, ai_cmpeq, ai_cmpne, ai_iflt, ai_cmpge, ai_goto, ai_istore, am_cut_0, am_cut_s, am_c1, ai_imul, ai_bin, ai_iadd, ai_iret, kd_0, fd_0_0, fd_0_1, fd_0_2, fd_0_3, fd_0_4, kd_1, fd_1_0, fd_1_1, ln_2, kd_3, fd_3_0, fd_3_1, fd_3_2, fd_3_3, fd_3_4, fd_3_5, fd_3_6, fd_3_7, fd_3_8, fd_3_9, ln_4, ln_5, ln_6, ln_7, ln_8, ln_9, ln_10, kd_11, fd_11_0, fd_11_1, fd_11_2, fd_11_3, fd_11_4, kd_12, fd_12_0, fd_12_1, fd_12_2, fd_12_3, ln_13, ln_14, ln_15, kd_16, fd_16_0, fd_16_1, fd_16_2, ln_17, kd_18, fd_18_0, fd_18_1, kd_19, fd_19_0, fd_19_1, fd_19_2, fd_19_3, fd_19_4, fd_19_5, fd_19_6, fd_19_7, fd_19_8, fd_19_9, fd_19_10, fd_19_11, fd_19_12, fd_19_13, fd_19_14, fd_19_15, fd_19_16, fd_19_17, fd_19_18, fd_19_19, fd_19_20, ln_20, ln_21, ln_22, ln_23, ln_24, ln_25, ln_26, ln_27, ln_28, ln_29, ln_30, ln_31, ln_32, List.getElem?_cons_zero, List.getElem?_cons_succ, List.set_cons_zero, List.set_cons_succ, true_and, and_true, ↓reduceIte, Int32.reduceLT, Int32.reduceLE, li_10, or_true, true_or, ↓sp_Model_isNode, b2_eq0, c]
      exact h
    have hx := m_hasD hc c
    have c3 := hx.2.2
    by_cases c4 : m_isT M x = true
    · rw [if_pos c4] at h
      have c5 : M 21 (cl x) = 2 ∨ M 21 (cl x) = 3 := by
        have := c4
        unfold m_isT at this
        simpa [c] using this
      have hv := hb x c4
      by_cases c6 : k < 0
      · rw [if_pos c6] at h
        rcases c5 with c5 | c5
        · refine am_entry hG (by decide +kernel) (Nat.le_of_ble_eq_true rfl) ?_
          refine am_go (cuts := k_Model_byteAt) (tb_Model_byteAt (ok_Model_isNode hG) (by decide)) 400 _ _ _ _ ?_
          change am_run _ _ _ _ _ _ [some (.ref 19), some (.int x), some (.int k), none] [] _
          simp only [r_Model_byteAt_0, r_Model_byteAt_1, r_Model_byteAt_2, r_Model_byteAt_5, r_Model_byteAt_8, r_Model_byteAt_9, r_Model_byteAt_12, r_Model_byteAt_13, r_Model_byteAt_14, r_Model_byteAt_15, r_Model_byteAt_18, r_Model_byteAt_19, r_Model_byteAt_22, r_Model_byteAt_23, r_Model_byteAt_24, r_Model_byteAt_25, r_Model_byteAt_28, r_Model_byteAt_29, r_Model_byteAt_32, r_Model_byteAt_33, r_Model_byteAt_34, r_Model_byteAt_37, r_Model_byteAt_38, r_Model_byteAt_39, r_Model_byteAt_42, r_Model_byteAt_43, r_Model_byteAt_46, r_Model_byteAt_47, r_Model_byteAt_48, r_Model_byteAt_49, r_Model_byteAt_52, r_Model_byteAt_53, r_Model_byteAt_56, r_Model_byteAt_58, r_Model_byteAt_59, r_Model_byteAt_60, r_Model_byteAt_61, r_Model_byteAt_62, r_Model_byteAt_63, r_Model_byteAt_66, r_Model_byteAt_67, ai_aload, ai_iload, ai_callv2, am_push, am_few, ai_ifeq, ai_getf, ai_iald, ai_const, ai_cmpeq, ai_cmpne, ai_iflt, ai_cmpge, ai_goto, ai_istore, am_cut_0, am_cut_s, am_c1, ai_imul, ai_bin, ai_iadd, ai_iret, kd_0, fd_0_0, fd_0_1, fd_0_2, fd_0_3, fd_0_4, kd_1, fd_1_0, fd_1_1, ln_2, kd_3, fd_3_0, fd_3_1, fd_3_2, fd_3_3, fd_3_4, fd_3_5, fd_3_6, fd_3_7, fd_3_8, fd_3_9, ln_4, ln_5, ln_6, ln_7, ln_8, ln_9, ln_10, kd_11, fd_11_0, fd_11_1, fd_11_2, fd_11_3, fd_11_4, kd_12, fd_12_0, fd_12_1, fd_12_2, fd_12_3, ln_13, ln_14, ln_15, kd_16, fd_16_0, fd_16_1, fd_16_2, ln_17, kd_18, fd_18_0, fd_18_1, kd_19, fd_19_0, fd_19_1, fd_19_2, fd_19_3, fd_19_4, fd_19_5, fd_19_6, fd_19_7, fd_19_8, fd_19_9, fd_19_10, fd_19_11, fd_19_12, fd_19_13, fd_19_14, fd_19_15, fd_19_16, fd_19_17, fd_19_18, fd_19_19, fd_19_20, ln_20, ln_21, ln_22, ln_23, ln_24, ln_25, ln_26, ln_27, ln_28, ln_29, ln_30, ln_31, ln_32, List.getElem?_cons_zero, List.getElem?_cons_succ, List.set_cons_zero, List.set_cons_succ, true_and, and_true, ↓reduceIte, Int32.reduceLT, Int32.reduceLE, li_10, or_true, true_or, ↓sp_Model_isNode, b2_eq0, c, c3, c5, c6, reduceCtorEq]
          exact h
        · refine am_entry hG (by decide +kernel) (Nat.le_of_ble_eq_true rfl) ?_
          refine am_go (cuts := k_Model_byteAt) (tb_Model_byteAt (ok_Model_isNode hG) (by decide)) 400 _ _ _ _ ?_
          change am_run _ _ _ _ _ _ [some (.ref 19), some (.int x), some (.int k), none] [] _
          simp only [r_Model_byteAt_0, r_Model_byteAt_1, r_Model_byteAt_2, r_Model_byteAt_5, r_Model_byteAt_8, r_Model_byteAt_9, r_Model_byteAt_12, r_Model_byteAt_13, r_Model_byteAt_14, r_Model_byteAt_15, r_Model_byteAt_18, r_Model_byteAt_19, r_Model_byteAt_22, r_Model_byteAt_23, r_Model_byteAt_24, r_Model_byteAt_25, r_Model_byteAt_28, r_Model_byteAt_29, r_Model_byteAt_32, r_Model_byteAt_33, r_Model_byteAt_34, r_Model_byteAt_37, r_Model_byteAt_38, r_Model_byteAt_39, r_Model_byteAt_42, r_Model_byteAt_43, r_Model_byteAt_46, r_Model_byteAt_47, r_Model_byteAt_48, r_Model_byteAt_49, r_Model_byteAt_52, r_Model_byteAt_53, r_Model_byteAt_56, r_Model_byteAt_58, r_Model_byteAt_59, r_Model_byteAt_60, r_Model_byteAt_61, r_Model_byteAt_62, r_Model_byteAt_63, r_Model_byteAt_66, r_Model_byteAt_67, ai_aload, ai_iload, ai_callv2, am_push, am_few, ai_ifeq, ai_getf, ai_iald, ai_const, ai_cmpeq, ai_cmpne, ai_iflt, ai_cmpge, ai_goto, ai_istore, am_cut_0, am_cut_s, am_c1, ai_imul, ai_bin, ai_iadd, ai_iret, kd_0, fd_0_0, fd_0_1, fd_0_2, fd_0_3, fd_0_4, kd_1, fd_1_0, fd_1_1, ln_2, kd_3, fd_3_0, fd_3_1, fd_3_2, fd_3_3, fd_3_4, fd_3_5, fd_3_6, fd_3_7, fd_3_8, fd_3_9, ln_4, ln_5, ln_6, ln_7, ln_8, ln_9, ln_10, kd_11, fd_11_0, fd_11_1, fd_11_2, fd_11_3, fd_11_4, kd_12, fd_12_0, fd_12_1, fd_12_2, fd_12_3, ln_13, ln_14, ln_15, kd_16, fd_16_0, fd_16_1, fd_16_2, ln_17, kd_18, fd_18_0, fd_18_1, kd_19, fd_19_0, fd_19_1, fd_19_2, fd_19_3, fd_19_4, fd_19_5, fd_19_6, fd_19_7, fd_19_8, fd_19_9, fd_19_10, fd_19_11, fd_19_12, fd_19_13, fd_19_14, fd_19_15, fd_19_16, fd_19_17, fd_19_18, fd_19_19, fd_19_20, ln_20, ln_21, ln_22, ln_23, ln_24, ln_25, ln_26, ln_27, ln_28, ln_29, ln_30, ln_31, ln_32, List.getElem?_cons_zero, List.getElem?_cons_succ, List.set_cons_zero, List.set_cons_succ, true_and, and_true, ↓reduceIte, Int32.reduceLT, Int32.reduceLE, li_10, or_true, true_or, ↓sp_Model_isNode, b2_eq0, c, c3, c5, c6, reduceCtorEq, li_32]
          exact h
      rw [if_neg c6] at h
      by_cases c7 : k < M 22 (cl x)
      · rw [if_pos c7] at h
        obtain ⟨j, hj, rfl⟩ := nI_of c6
        have hj2 : j < 20 := by
          have h7 := c7
          rw [hv.1] at h7
          have := (nI_ltI hj (cl_lt _)).mp h7
          omega
        have hix : 20 * x + nI j = nI (20 * cl x + j) := by
          rw [hx.1, show cl (nI (cl x)) = cl x from nI_clamp (cl_lt x)]
          show nI 20 * nI (cl x) + nI j = _
          rw [show nI 20 * nI (cl x) = nI (20 * cl x) from (Int32.ofNat_mul 20 (cl x)).symm, nI_add]
        have hin : vp_in (20 * x + nI j) 4000 := by
          rw [hix]
          exact vp_in_nI (by have := hx.2.1; have := hc.2; omega) (by decide)
        rw [show cl (nI j) = j from nI_clamp hj] at h
        rcases c5 with c5 | c5
        · refine am_entry hG (by decide +kernel) (Nat.le_of_ble_eq_true rfl) ?_
          refine am_go (cuts := k_Model_byteAt) (tb_Model_byteAt (ok_Model_isNode hG) (by decide)) 400 _ _ _ _ ?_
          change am_run _ _ _ _ _ _ [some (.ref 19), some (.int x), some (.int (nI j)), none] [] _
          simp only [r_Model_byteAt_0, r_Model_byteAt_1, r_Model_byteAt_2, r_Model_byteAt_5, r_Model_byteAt_8, r_Model_byteAt_9, r_Model_byteAt_12, r_Model_byteAt_13, r_Model_byteAt_14, r_Model_byteAt_15, r_Model_byteAt_18, r_Model_byteAt_19, r_Model_byteAt_22, r_Model_byteAt_23, r_Model_byteAt_24, r_Model_byteAt_25, r_Model_byteAt_28, r_Model_byteAt_29, r_Model_byteAt_32, r_Model_byteAt_33, r_Model_byteAt_34, r_Model_byteAt_37, r_Model_byteAt_38, r_Model_byteAt_39, r_Model_byteAt_42, r_Model_byteAt_43, r_Model_byteAt_46, r_Model_byteAt_47, r_Model_byteAt_48, r_Model_byteAt_49, r_Model_byteAt_52, r_Model_byteAt_53, r_Model_byteAt_56, r_Model_byteAt_58, r_Model_byteAt_59, r_Model_byteAt_60, r_Model_byteAt_61, r_Model_byteAt_62, r_Model_byteAt_63, r_Model_byteAt_66, r_Model_byteAt_67, ai_aload, ai_iload, ai_callv2, am_push, am_few, ai_ifeq, ai_getf, ai_iald, ai_const, ai_cmpeq, ai_cmpne, ai_iflt, ai_cmpge, ai_goto, ai_istore, am_cut_0, am_cut_s, am_c1, ai_imul, ai_bin, ai_iadd, ai_iret, kd_0, fd_0_0, fd_0_1, fd_0_2, fd_0_3, fd_0_4, kd_1, fd_1_0, fd_1_1, ln_2, kd_3, fd_3_0, fd_3_1, fd_3_2, fd_3_3, fd_3_4, fd_3_5, fd_3_6, fd_3_7, fd_3_8, fd_3_9, ln_4, ln_5, ln_6, ln_7, ln_8, ln_9, ln_10, kd_11, fd_11_0, fd_11_1, fd_11_2, fd_11_3, fd_11_4, kd_12, fd_12_0, fd_12_1, fd_12_2, fd_12_3, ln_13, ln_14, ln_15, kd_16, fd_16_0, fd_16_1, fd_16_2, ln_17, kd_18, fd_18_0, fd_18_1, kd_19, fd_19_0, fd_19_1, fd_19_2, fd_19_3, fd_19_4, fd_19_5, fd_19_6, fd_19_7, fd_19_8, fd_19_9, fd_19_10, fd_19_11, fd_19_12, fd_19_13, fd_19_14, fd_19_15, fd_19_16, fd_19_17, fd_19_18, fd_19_19, fd_19_20, ln_20, ln_21, ln_22, ln_23, ln_24, ln_25, ln_26, ln_27, ln_28, ln_29, ln_30, ln_31, ln_32, List.getElem?_cons_zero, List.getElem?_cons_succ, List.set_cons_zero, List.set_cons_succ, true_and, and_true, ↓reduceIte, Int32.reduceLT, Int32.reduceLE, li_10, or_true, true_or, ↓sp_Model_isNode, b2_eq0, c, c3, c5, c6, c7, hin, reduceCtorEq]
          rw [hix, show (nI (20 * cl x + j)).toNatClampNeg = 20 * cl x + j from nI_clamp (by have := hx.2.1; have := hc.2; omega)]
          exact h
        · refine am_entry hG (by decide +kernel) (Nat.le_of_ble_eq_true rfl) ?_
          refine am_go (cuts := k_Model_byteAt) (tb_Model_byteAt (ok_Model_isNode hG) (by decide)) 400 _ _ _ _ ?_
          change am_run _ _ _ _ _ _ [some (.ref 19), some (.int x), some (.int (nI j)), none] [] _
          simp only [r_Model_byteAt_0, r_Model_byteAt_1, r_Model_byteAt_2, r_Model_byteAt_5, r_Model_byteAt_8, r_Model_byteAt_9, r_Model_byteAt_12, r_Model_byteAt_13, r_Model_byteAt_14, r_Model_byteAt_15, r_Model_byteAt_18, r_Model_byteAt_19, r_Model_byteAt_22, r_Model_byteAt_23, r_Model_byteAt_24, r_Model_byteAt_25, r_Model_byteAt_28, r_Model_byteAt_29, r_Model_byteAt_32, r_Model_byteAt_33, r_Model_byteAt_34, r_Model_byteAt_37, r_Model_byteAt_38, r_Model_byteAt_39, r_Model_byteAt_42, r_Model_byteAt_43, r_Model_byteAt_46, r_Model_byteAt_47, r_Model_byteAt_48, r_Model_byteAt_49, r_Model_byteAt_52, r_Model_byteAt_53, r_Model_byteAt_56, r_Model_byteAt_58, r_Model_byteAt_59, r_Model_byteAt_60, r_Model_byteAt_61, r_Model_byteAt_62, r_Model_byteAt_63, r_Model_byteAt_66, r_Model_byteAt_67, ai_aload, ai_iload, ai_callv2, am_push, am_few, ai_ifeq, ai_getf, ai_iald, ai_const, ai_cmpeq, ai_cmpne, ai_iflt, ai_cmpge, ai_goto, ai_istore, am_cut_0, am_cut_s, am_c1, ai_imul, ai_bin, ai_iadd, ai_iret, kd_0, fd_0_0, fd_0_1, fd_0_2, fd_0_3, fd_0_4, kd_1, fd_1_0, fd_1_1, ln_2, kd_3, fd_3_0, fd_3_1, fd_3_2, fd_3_3, fd_3_4, fd_3_5, fd_3_6, fd_3_7, fd_3_8, fd_3_9, ln_4, ln_5, ln_6, ln_7, ln_8, ln_9, ln_10, kd_11, fd_11_0, fd_11_1, fd_11_2, fd_11_3, fd_11_4, kd_12, fd_12_0, fd_12_1, fd_12_2, fd_12_3, ln_13, ln_14, ln_15, kd_16, fd_16_0, fd_16_1, fd_16_2, ln_17, kd_18, fd_18_0, fd_18_1, kd_19, fd_19_0, fd_19_1, fd_19_2, fd_19_3, fd_19_4, fd_19_5, fd_19_6, fd_19_7, fd_19_8, fd_19_9, fd_19_10, fd_19_11, fd_19_12, fd_19_13, fd_19_14, fd_19_15, fd_19_16, fd_19_17, fd_19_18, fd_19_19, fd_19_20, ln_20, ln_21, ln_22, ln_23, ln_24, ln_25, ln_26, ln_27, ln_28, ln_29, ln_30, ln_31, ln_32, List.getElem?_cons_zero, List.getElem?_cons_succ, List.set_cons_zero, List.set_cons_succ, true_and, and_true, ↓reduceIte, Int32.reduceLT, Int32.reduceLE, li_10, or_true, true_or, ↓sp_Model_isNode, b2_eq0, c, c3, c5, c6, c7, hin, reduceCtorEq, li_32]
          rw [hix, show (nI (20 * cl x + j)).toNatClampNeg = 20 * cl x + j from nI_clamp (by have := hx.2.1; have := hc.2; omega)]
          exact h
      · rw [if_neg c7] at h
        rcases c5 with c5 | c5
        · refine am_entry hG (by decide +kernel) (Nat.le_of_ble_eq_true rfl) ?_
          refine am_go (cuts := k_Model_byteAt) (tb_Model_byteAt (ok_Model_isNode hG) (by decide)) 400 _ _ _ _ ?_
          change am_run _ _ _ _ _ _ [some (.ref 19), some (.int x), some (.int k), none] [] _
          simp only [r_Model_byteAt_0, r_Model_byteAt_1, r_Model_byteAt_2, r_Model_byteAt_5, r_Model_byteAt_8, r_Model_byteAt_9, r_Model_byteAt_12, r_Model_byteAt_13, r_Model_byteAt_14, r_Model_byteAt_15, r_Model_byteAt_18, r_Model_byteAt_19, r_Model_byteAt_22, r_Model_byteAt_23, r_Model_byteAt_24, r_Model_byteAt_25, r_Model_byteAt_28, r_Model_byteAt_29, r_Model_byteAt_32, r_Model_byteAt_33, r_Model_byteAt_34, r_Model_byteAt_37, r_Model_byteAt_38, r_Model_byteAt_39, r_Model_byteAt_42, r_Model_byteAt_43, r_Model_byteAt_46, r_Model_byteAt_47, r_Model_byteAt_48, r_Model_byteAt_49, r_Model_byteAt_52, r_Model_byteAt_53, r_Model_byteAt_56, r_Model_byteAt_58, r_Model_byteAt_59, r_Model_byteAt_60, r_Model_byteAt_61, r_Model_byteAt_62, r_Model_byteAt_63, r_Model_byteAt_66, r_Model_byteAt_67, ai_aload, ai_iload, ai_callv2, am_push, am_few, ai_ifeq, ai_getf, ai_iald, ai_const, ai_cmpeq, ai_cmpne, ai_iflt, ai_cmpge, ai_goto, ai_istore, am_cut_0, am_cut_s, am_c1, ai_imul, ai_bin, ai_iadd, ai_iret, kd_0, fd_0_0, fd_0_1, fd_0_2, fd_0_3, fd_0_4, kd_1, fd_1_0, fd_1_1, ln_2, kd_3, fd_3_0, fd_3_1, fd_3_2, fd_3_3, fd_3_4, fd_3_5, fd_3_6, fd_3_7, fd_3_8, fd_3_9, ln_4, ln_5, ln_6, ln_7, ln_8, ln_9, ln_10, kd_11, fd_11_0, fd_11_1, fd_11_2, fd_11_3, fd_11_4, kd_12, fd_12_0, fd_12_1, fd_12_2, fd_12_3, ln_13, ln_14, ln_15, kd_16, fd_16_0, fd_16_1, fd_16_2, ln_17, kd_18, fd_18_0, fd_18_1, kd_19, fd_19_0, fd_19_1, fd_19_2, fd_19_3, fd_19_4, fd_19_5, fd_19_6, fd_19_7, fd_19_8, fd_19_9, fd_19_10, fd_19_11, fd_19_12, fd_19_13, fd_19_14, fd_19_15, fd_19_16, fd_19_17, fd_19_18, fd_19_19, fd_19_20, ln_20, ln_21, ln_22, ln_23, ln_24, ln_25, ln_26, ln_27, ln_28, ln_29, ln_30, ln_31, ln_32, List.getElem?_cons_zero, List.getElem?_cons_succ, List.set_cons_zero, List.set_cons_succ, true_and, and_true, ↓reduceIte, Int32.reduceLT, Int32.reduceLE, li_10, or_true, true_or, ↓sp_Model_isNode, b2_eq0, c, c3, c5, c6, c7, reduceCtorEq]
          exact h
        · refine am_entry hG (by decide +kernel) (Nat.le_of_ble_eq_true rfl) ?_
          refine am_go (cuts := k_Model_byteAt) (tb_Model_byteAt (ok_Model_isNode hG) (by decide)) 400 _ _ _ _ ?_
          change am_run _ _ _ _ _ _ [some (.ref 19), some (.int x), some (.int k), none] [] _
          simp only [r_Model_byteAt_0, r_Model_byteAt_1, r_Model_byteAt_2, r_Model_byteAt_5, r_Model_byteAt_8, r_Model_byteAt_9, r_Model_byteAt_12, r_Model_byteAt_13, r_Model_byteAt_14, r_Model_byteAt_15, r_Model_byteAt_18, r_Model_byteAt_19, r_Model_byteAt_22, r_Model_byteAt_23, r_Model_byteAt_24, r_Model_byteAt_25, r_Model_byteAt_28, r_Model_byteAt_29, r_Model_byteAt_32, r_Model_byteAt_33, r_Model_byteAt_34, r_Model_byteAt_37, r_Model_byteAt_38, r_Model_byteAt_39, r_Model_byteAt_42, r_Model_byteAt_43, r_Model_byteAt_46, r_Model_byteAt_47, r_Model_byteAt_48, r_Model_byteAt_49, r_Model_byteAt_52, r_Model_byteAt_53, r_Model_byteAt_56, r_Model_byteAt_58, r_Model_byteAt_59, r_Model_byteAt_60, r_Model_byteAt_61, r_Model_byteAt_62, r_Model_byteAt_63, r_Model_byteAt_66, r_Model_byteAt_67, ai_aload, ai_iload, ai_callv2, am_push, am_few, ai_ifeq, ai_getf, ai_iald, ai_const, ai_cmpeq, ai_cmpne, ai_iflt, ai_cmpge, ai_goto, ai_istore, am_cut_0, am_cut_s, am_c1, ai_imul, ai_bin, ai_iadd, ai_iret, kd_0, fd_0_0, fd_0_1, fd_0_2, fd_0_3, fd_0_4, kd_1, fd_1_0, fd_1_1, ln_2, kd_3, fd_3_0, fd_3_1, fd_3_2, fd_3_3, fd_3_4, fd_3_5, fd_3_6, fd_3_7, fd_3_8, fd_3_9, ln_4, ln_5, ln_6, ln_7, ln_8, ln_9, ln_10, kd_11, fd_11_0, fd_11_1, fd_11_2, fd_11_3, fd_11_4, kd_12, fd_12_0, fd_12_1, fd_12_2, fd_12_3, ln_13, ln_14, ln_15, kd_16, fd_16_0, fd_16_1, fd_16_2, ln_17, kd_18, fd_18_0, fd_18_1, kd_19, fd_19_0, fd_19_1, fd_19_2, fd_19_3, fd_19_4, fd_19_5, fd_19_6, fd_19_7, fd_19_8, fd_19_9, fd_19_10, fd_19_11, fd_19_12, fd_19_13, fd_19_14, fd_19_15, fd_19_16, fd_19_17, fd_19_18, fd_19_19, fd_19_20, ln_20, ln_21, ln_22, ln_23, ln_24, ln_25, ln_26, ln_27, ln_28, ln_29, ln_30, ln_31, ln_32, List.getElem?_cons_zero, List.getElem?_cons_succ, List.set_cons_zero, List.set_cons_succ, true_and, and_true, ↓reduceIte, Int32.reduceLT, Int32.reduceLE, li_10, or_true, true_or, ↓sp_Model_isNode, b2_eq0, c, c3, c5, c6, c7, reduceCtorEq, li_32]
          exact h
    · rw [if_neg c4] at h
      have c5 : ¬ M 21 (cl x) = 2 ∧ ¬ M 21 (cl x) = 3 := by
        refine ⟨fun q => c4 ?_, fun q => c4 ?_⟩ <;> (unfold m_isT; simp [c, q])
      have c5a := c5.1
      have c5b := c5.2
      refine am_entry hG (by decide +kernel) (Nat.le_of_ble_eq_true rfl) ?_
      refine am_go (cuts := k_Model_byteAt) (tb_Model_byteAt (ok_Model_isNode hG) (by decide)) 400 _ _ _ _ ?_
      change am_run _ _ _ _ _ _ [some (.ref 19), some (.int x), some (.int k), none] [] _
      simp only [r_Model_byteAt_0, r_Model_byteAt_1, r_Model_byteAt_2, r_Model_byteAt_5, r_Model_byteAt_8, r_Model_byteAt_9, r_Model_byteAt_12, r_Model_byteAt_13, r_Model_byteAt_14, r_Model_byteAt_15, r_Model_byteAt_18, r_Model_byteAt_19, r_Model_byteAt_22, r_Model_byteAt_23, r_Model_byteAt_24, r_Model_byteAt_25, r_Model_byteAt_28, r_Model_byteAt_29, r_Model_byteAt_32, r_Model_byteAt_33, r_Model_byteAt_34, r_Model_byteAt_37, r_Model_byteAt_38, r_Model_byteAt_39, r_Model_byteAt_42, r_Model_byteAt_43, r_Model_byteAt_46, r_Model_byteAt_47, r_Model_byteAt_48, r_Model_byteAt_49, r_Model_byteAt_52, r_Model_byteAt_53, r_Model_byteAt_56, r_Model_byteAt_58, r_Model_byteAt_59, r_Model_byteAt_60, r_Model_byteAt_61, r_Model_byteAt_62, r_Model_byteAt_63, r_Model_byteAt_66, r_Model_byteAt_67, ai_aload, ai_iload, ai_callv2, am_push, am_few, ai_ifeq, ai_getf, ai_iald, ai_const, ai_cmpeq, ai_cmpne, ai_iflt, ai_cmpge, ai_goto, ai_istore, am_cut_0, am_cut_s, am_c1, ai_imul, ai_bin, ai_iadd, ai_iret, kd_0, fd_0_0, fd_0_1, fd_0_2, fd_0_3, fd_0_4, kd_1, fd_1_0, fd_1_1, ln_2, kd_3, fd_3_0, fd_3_1, fd_3_2, fd_3_3, fd_3_4, fd_3_5, fd_3_6, fd_3_7, fd_3_8, fd_3_9, ln_4, ln_5, ln_6, ln_7, ln_8, ln_9, ln_10, kd_11, fd_11_0, fd_11_1, fd_11_2, fd_11_3, fd_11_4, kd_12, fd_12_0, fd_12_1, fd_12_2, fd_12_3, ln_13, ln_14, ln_15, kd_16, fd_16_0, fd_16_1, fd_16_2, ln_17, kd_18, fd_18_0, fd_18_1, kd_19, fd_19_0, fd_19_1, fd_19_2, fd_19_3, fd_19_4, fd_19_5, fd_19_6, fd_19_7, fd_19_8, fd_19_9, fd_19_10, fd_19_11, fd_19_12, fd_19_13, fd_19_14, fd_19_15, fd_19_16, fd_19_17, fd_19_18, fd_19_19, fd_19_20, ln_20, ln_21, ln_22, ln_23, ln_24, ln_25, ln_26, ln_27, ln_28, ln_29, ln_30, ln_31, ln_32, List.getElem?_cons_zero, List.getElem?_cons_succ, List.set_cons_zero, List.set_cons_succ, true_and, and_true, ↓reduceIte, Int32.reduceLT, Int32.reduceLE, li_10, or_true, true_or, ↓sp_Model_isNode, b2_eq0, c, c3, c5a, c5b, reduceCtorEq]
      exact h
  · cases h
def m_part (M : aM) (x k : Int32) : Int32 := if m_has M x = true then (if M 21 (cl x) = 4 then (if k = 0 then M 24 (cl x) else if k = 1 then M 25 (cl x) else -1) else -1) else -1
def sp_Model_part : aS := fun as M K => match as with
  | [.ref a, .int x, .int k] => a = 19 ∧ mc_ok M ∧ K (some (.int (m_part M x k))) M
  | _ => False
set_option maxRecDepth 100000 in
set_option maxHeartbeats 4000000 in
theorem ok_Model_part {G : aG} (hG : am_ok G) : am_Sp G Y_Model_part 1 sp_Model_part := by
  intro as M K h
  unfold sp_Model_part at h
  split at h
  · next a x k =>
    obtain ⟨rfl, hc, h⟩ := h
    unfold m_part at h
    cases c : m_has M x
    · rw [c] at h
      refine am_entry hG (by decide +kernel) (Nat.le_of_ble_eq_true rfl) ?_
      refine am_go (cuts := k_Model_part) (tb_Model_part (ok_Model_isNode hG) (by decide)) 400 _ _ _ _ ?_
      change am_run _ _ _ _ _ _ [some (.ref 19), some (.int x), some (.int k)] [] _
      simp only [r_Model_part_0, r_Model_part_1, r_Model_part_2, r_Model_part_5, r_Model_part_8, r_Model_part_9, r_Model_part_12, r_Model_part_13, r_Model_part_14, r_Model_part_15, r_Model_part_18, r_Model_part_19, r_Model_part_22, r_Model_part_23, r_Model_part_26, r_Model_part_27, r_Model_part_30, r_Model_part_31, r_Model_part_32, r_Model_part_35, r_Model_part_36, r_Model_part_37, r_Model_part_40, r_Model_part_41, r_Model_part_44, r_Model_part_45, r_Model_part_46, r_Model_part_49, r_Model_part_50, ai_aload, ai_iload, ai_callv2, am_push, am_few, ai_ifeq, ai_getf, ai_iald, ai_const, ai_cmpeq, ai_goto, ai_ifne, ai_cmpne, ai_iret, kd_0, fd_0_0, fd_0_1, fd_0_2, fd_0_3, fd_0_4, kd_1, fd_1_0, fd_1_1, ln_2, kd_3, fd_3_0, fd_3_1, fd_3_2, fd_3_3, fd_3_4, fd_3_5, fd_3_6, fd_3_7, fd_3_8, fd_3_9, ln_4, ln_5, ln_6, ln_7, ln_8, ln_9, ln_10, kd_11, fd_11_0, fd_11_1, fd_11_2, fd_11_3, fd_11_4, kd_12, fd_12_0, fd_12_1, fd_12_2, fd_12_3, ln_13, ln_14, ln_15, kd_16, fd_16_0, fd_16_1, fd_16_2, ln_17, kd_18, fd_18_0, fd_18_1, kd_19, fd_19_0, fd_19_1, fd_19_2, fd_19_3, fd_19_4, fd_19_5, fd_19_6, fd_19_7, fd_19_8, fd_19_9, fd_19_10, fd_19_11, fd_19_12, fd_19_13, fd_19_14, fd_19_15, fd_19_16, fd_19_17, fd_19_18, fd_19_19, fd_19_20, ln_20, ln_21, ln_22, ln_23, ln_24, ln_25, ln_26, ln_27, ln_28, ln_29, ln_30, ln_31, ln_32, List.getElem?_cons_zero, List.getElem?_cons_succ, List.set_cons_zero, List.set_cons_succ, true_and, and_true, ↓reduceIte, Int32.reduceLT, Int32.reduceLE, li_10, or_true, true_or, ↓sp_Model_isNode, b2_eq0, c]
      exact h
    · rw [c] at h
      have c3 := (m_hasD hc c).2.2
      refine am_entry hG (by decide +kernel) (Nat.le_of_ble_eq_true rfl) ?_
      refine am_go (cuts := k_Model_part) (tb_Model_part (ok_Model_isNode hG) (by decide)) 400 _ _ _ _ ?_
      change am_run _ _ _ _ _ _ [some (.ref 19), some (.int x), some (.int k)] [] _
      simp only [r_Model_part_0, r_Model_part_1, r_Model_part_2, r_Model_part_5, r_Model_part_8, r_Model_part_9, r_Model_part_12, r_Model_part_13, r_Model_part_14, r_Model_part_15, r_Model_part_18, r_Model_part_19, r_Model_part_22, r_Model_part_23, r_Model_part_26, r_Model_part_27, r_Model_part_30, r_Model_part_31, r_Model_part_32, r_Model_part_35, r_Model_part_36, r_Model_part_37, r_Model_part_40, r_Model_part_41, r_Model_part_44, r_Model_part_45, r_Model_part_46, r_Model_part_49, r_Model_part_50, ai_aload, ai_iload, ai_callv2, am_push, am_few, ai_ifeq, ai_getf, ai_iald, ai_const, ai_cmpeq, ai_goto, ai_ifne, ai_cmpne, ai_iret, kd_0, fd_0_0, fd_0_1, fd_0_2, fd_0_3, fd_0_4, kd_1, fd_1_0, fd_1_1, ln_2, kd_3, fd_3_0, fd_3_1, fd_3_2, fd_3_3, fd_3_4, fd_3_5, fd_3_6, fd_3_7, fd_3_8, fd_3_9, ln_4, ln_5, ln_6, ln_7, ln_8, ln_9, ln_10, kd_11, fd_11_0, fd_11_1, fd_11_2, fd_11_3, fd_11_4, kd_12, fd_12_0, fd_12_1, fd_12_2, fd_12_3, ln_13, ln_14, ln_15, kd_16, fd_16_0, fd_16_1, fd_16_2, ln_17, kd_18, fd_18_0, fd_18_1, kd_19, fd_19_0, fd_19_1, fd_19_2, fd_19_3, fd_19_4, fd_19_5, fd_19_6, fd_19_7, fd_19_8, fd_19_9, fd_19_10, fd_19_11, fd_19_12, fd_19_13, fd_19_14, fd_19_15, fd_19_16, fd_19_17, fd_19_18, fd_19_19, fd_19_20, ln_20, ln_21, ln_22, ln_23, ln_24, ln_25, ln_26, ln_27, ln_28, ln_29, ln_30, ln_31, ln_32, List.getElem?_cons_zero, List.getElem?_cons_succ, List.set_cons_zero, List.set_cons_succ, true_and, and_true, ↓reduceIte, Int32.reduceLT, Int32.reduceLE, li_10, or_true, true_or, ↓sp_Model_isNode, b2_eq0, c, c3, reduceCtorEq]
      simp only [↓reduceIte] at h
      by_cases c4 : M 21 (cl x) = 4
      · rw [if_pos c4] at h ⊢
        by_cases c5 : k = 0
        · rw [if_pos c5] at h ⊢; exact h
        · rw [if_neg c5] at h ⊢
          by_cases c6 : k = 1
          · rw [if_pos c6] at h ⊢; exact h
          · rw [if_neg c6] at h ⊢; exact h
      · rw [if_neg c4] at h ⊢; exact h
  · cases h
def m_cnt (M : aM) (w : Int32) : Int32 := if w = 0 then M 19 1 else if w = 1 then M 19 5 else if w = 2 then M 19 11 else if w = 3 then M 19 18 else -1
def sp_Model_count : aS := fun as M K => match as with
  | [.ref a, .int w] => a = 19 ∧ K (some (.int (m_cnt M w))) M
  | _ => False
set_option maxRecDepth 100000 in
set_option maxHeartbeats 4000000 in
theorem ok_Model_count {G : aG} (hG : am_ok G) : am_Sp G Y_Model_count 1 sp_Model_count := by
  intro as M K h
  unfold sp_Model_count at h
  split at h
  · next a w =>
    obtain ⟨rfl, h⟩ := h
    unfold m_cnt at h
    refine am_entry hG (by decide +kernel) (Nat.le_of_ble_eq_true rfl) ?_
    refine am_go (cuts := k_Model_count) tb_Model_count 400 _ _ _ _ ?_
    change am_run _ _ _ _ _ _ [some (.ref 19), some (.int w)] [] _
    simp only [r_Model_count_0, r_Model_count_1, r_Model_count_4, r_Model_count_5, r_Model_count_8, r_Model_count_11, r_Model_count_12, r_Model_count_13, r_Model_count_16, r_Model_count_17, r_Model_count_20, r_Model_count_23, r_Model_count_24, r_Model_count_25, r_Model_count_28, r_Model_count_29, r_Model_count_32, r_Model_count_35, r_Model_count_36, r_Model_count_37, r_Model_count_40, r_Model_count_41, r_Model_count_44, r_Model_count_47, r_Model_count_48, ai_iload, ai_ifne, ai_aload, ai_getf, ai_goto, ai_const, ai_cmpne, ai_iret, kd_0, fd_0_0, fd_0_1, fd_0_2, fd_0_3, fd_0_4, kd_1, fd_1_0, fd_1_1, ln_2, kd_3, fd_3_0, fd_3_1, fd_3_2, fd_3_3, fd_3_4, fd_3_5, fd_3_6, fd_3_7, fd_3_8, fd_3_9, ln_4, ln_5, ln_6, ln_7, ln_8, ln_9, ln_10, kd_11, fd_11_0, fd_11_1, fd_11_2, fd_11_3, fd_11_4, kd_12, fd_12_0, fd_12_1, fd_12_2, fd_12_3, ln_13, ln_14, ln_15, kd_16, fd_16_0, fd_16_1, fd_16_2, ln_17, kd_18, fd_18_0, fd_18_1, kd_19, fd_19_0, fd_19_1, fd_19_2, fd_19_3, fd_19_4, fd_19_5, fd_19_6, fd_19_7, fd_19_8, fd_19_9, fd_19_10, fd_19_11, fd_19_12, fd_19_13, fd_19_14, fd_19_15, fd_19_16, fd_19_17, fd_19_18, fd_19_19, fd_19_20, ln_20, ln_21, ln_22, ln_23, ln_24, ln_25, ln_26, ln_27, ln_28, ln_29, ln_30, ln_31, ln_32, List.getElem?_cons_zero, List.getElem?_cons_succ, List.set_cons_zero, List.set_cons_succ, true_and, and_true, ↓reduceIte, Int32.reduceLT, Int32.reduceLE, li_10, or_true, true_or]
    by_cases c : w = 0
    · rw [if_pos c] at h ⊢; exact h
    rw [if_neg c] at h ⊢
    by_cases c : w = 1
    · rw [if_pos c] at h ⊢; exact h
    rw [if_neg c] at h ⊢
    by_cases c : w = 2
    · rw [if_pos c] at h ⊢; exact h
    rw [if_neg c] at h ⊢
    by_cases c : w = 3
    · rw [if_pos c] at h ⊢; exact h
    rw [if_neg c] at h ⊢
    exact h
  · cases h
def m_at (M : aM) (k : Int32) : Int32 := if M 19 2 + k < 0 then -1 else if M 19 2 + k < M 19 1 then M 20 (cl (M 19 2 + k)) else -1
def sp_Model_peek : aS := fun as M K => match as with
  | [.ref a, .int k] => a = 19 ∧ mt_ok M ∧ K (some (.int (m_at M k))) M
  | _ => False
set_option maxRecDepth 100000 in
set_option maxHeartbeats 4000000 in
theorem ok_Model_peek {G : aG} (hG : am_ok G) : am_Sp G Y_Model_peek 0 sp_Model_peek := by
  intro as M K h
  unfold sp_Model_peek at h
  split at h
  · next a k =>
    obtain ⟨rfl, hd, h⟩ := h
    unfold m_at at h
    by_cases c1 : M 19 2 + k < 0
    · rw [if_pos c1] at h
      refine am_entry hG (by decide +kernel) (Nat.le_of_ble_eq_true rfl) ?_
      refine am_go (cuts := k_Model_peek) tb_Model_peek 400 _ _ _ _ ?_
      change am_run _ _ _ _ _ _ [some (.ref 19), some (.int k)] [] _
      simp only [r_Model_peek_0, r_Model_peek_1, r_Model_peek_4, r_Model_peek_5, r_Model_peek_6, r_Model_peek_9, r_Model_peek_10, r_Model_peek_13, r_Model_peek_14, r_Model_peek_15, r_Model_peek_16, r_Model_peek_19, r_Model_peek_22, r_Model_peek_23, r_Model_peek_26, r_Model_peek_27, r_Model_peek_30, r_Model_peek_31, r_Model_peek_32, r_Model_peek_33, r_Model_peek_36, r_Model_peek_37, ai_aload, ai_getf, ai_iload, ai_iadd, ai_bin, ai_iflt, ai_cmpge, ai_iald, ai_goto, ai_const, ai_iret, kd_0, fd_0_0, fd_0_1, fd_0_2, fd_0_3, fd_0_4, kd_1, fd_1_0, fd_1_1, ln_2, kd_3, fd_3_0, fd_3_1, fd_3_2, fd_3_3, fd_3_4, fd_3_5, fd_3_6, fd_3_7, fd_3_8, fd_3_9, ln_4, ln_5, ln_6, ln_7, ln_8, ln_9, ln_10, kd_11, fd_11_0, fd_11_1, fd_11_2, fd_11_3, fd_11_4, kd_12, fd_12_0, fd_12_1, fd_12_2, fd_12_3, ln_13, ln_14, ln_15, kd_16, fd_16_0, fd_16_1, fd_16_2, ln_17, kd_18, fd_18_0, fd_18_1, kd_19, fd_19_0, fd_19_1, fd_19_2, fd_19_3, fd_19_4, fd_19_5, fd_19_6, fd_19_7, fd_19_8, fd_19_9, fd_19_10, fd_19_11, fd_19_12, fd_19_13, fd_19_14, fd_19_15, fd_19_16, fd_19_17, fd_19_18, fd_19_19, fd_19_20, ln_20, ln_21, ln_22, ln_23, ln_24, ln_25, ln_26, ln_27, ln_28, ln_29, ln_30, ln_31, ln_32, List.getElem?_cons_zero, List.getElem?_cons_succ, List.set_cons_zero, List.set_cons_succ, true_and, and_true, ↓reduceIte, Int32.reduceLT, Int32.reduceLE, li_10, or_true, true_or, c1]
      exact h
    rw [if_neg c1] at h
    by_cases c2 : M 19 2 + k < M 19 1
    · rw [if_pos c2] at h
      have c3 : vp_in (M 19 2 + k) 400 := by
        obtain ⟨j, hj, e⟩ := nI_of c1
        rw [e, hd.1] at c2
        have := (nI_ltI hj (by have := hd.2; omega)).mp c2
        rw [e]
        exact vp_in_nI (by have := hd.2; omega) (by decide)
      refine am_entry hG (by decide +kernel) (Nat.le_of_ble_eq_true rfl) ?_
      refine am_go (cuts := k_Model_peek) tb_Model_peek 400 _ _ _ _ ?_
      change am_run _ _ _ _ _ _ [some (.ref 19), some (.int k)] [] _
      simp only [r_Model_peek_0, r_Model_peek_1, r_Model_peek_4, r_Model_peek_5, r_Model_peek_6, r_Model_peek_9, r_Model_peek_10, r_Model_peek_13, r_Model_peek_14, r_Model_peek_15, r_Model_peek_16, r_Model_peek_19, r_Model_peek_22, r_Model_peek_23, r_Model_peek_26, r_Model_peek_27, r_Model_peek_30, r_Model_peek_31, r_Model_peek_32, r_Model_peek_33, r_Model_peek_36, r_Model_peek_37, ai_aload, ai_getf, ai_iload, ai_iadd, ai_bin, ai_iflt, ai_cmpge, ai_iald, ai_goto, ai_const, ai_iret, kd_0, fd_0_0, fd_0_1, fd_0_2, fd_0_3, fd_0_4, kd_1, fd_1_0, fd_1_1, ln_2, kd_3, fd_3_0, fd_3_1, fd_3_2, fd_3_3, fd_3_4, fd_3_5, fd_3_6, fd_3_7, fd_3_8, fd_3_9, ln_4, ln_5, ln_6, ln_7, ln_8, ln_9, ln_10, kd_11, fd_11_0, fd_11_1, fd_11_2, fd_11_3, fd_11_4, kd_12, fd_12_0, fd_12_1, fd_12_2, fd_12_3, ln_13, ln_14, ln_15, kd_16, fd_16_0, fd_16_1, fd_16_2, ln_17, kd_18, fd_18_0, fd_18_1, kd_19, fd_19_0, fd_19_1, fd_19_2, fd_19_3, fd_19_4, fd_19_5, fd_19_6, fd_19_7, fd_19_8, fd_19_9, fd_19_10, fd_19_11, fd_19_12, fd_19_13, fd_19_14, fd_19_15, fd_19_16, fd_19_17, fd_19_18, fd_19_19, fd_19_20, ln_20, ln_21, ln_22, ln_23, ln_24, ln_25, ln_26, ln_27, ln_28, ln_29, ln_30, ln_31, ln_32, List.getElem?_cons_zero, List.getElem?_cons_succ, List.set_cons_zero, List.set_cons_succ, true_and, and_true, ↓reduceIte, Int32.reduceLT, Int32.reduceLE, li_10, or_true, true_or, c1, c2, c3]
      exact h
    · rw [if_neg c2] at h
      refine am_entry hG (by decide +kernel) (Nat.le_of_ble_eq_true rfl) ?_
      refine am_go (cuts := k_Model_peek) tb_Model_peek 400 _ _ _ _ ?_
      change am_run _ _ _ _ _ _ [some (.ref 19), some (.int k)] [] _
      simp only [r_Model_peek_0, r_Model_peek_1, r_Model_peek_4, r_Model_peek_5, r_Model_peek_6, r_Model_peek_9, r_Model_peek_10, r_Model_peek_13, r_Model_peek_14, r_Model_peek_15, r_Model_peek_16, r_Model_peek_19, r_Model_peek_22, r_Model_peek_23, r_Model_peek_26, r_Model_peek_27, r_Model_peek_30, r_Model_peek_31, r_Model_peek_32, r_Model_peek_33, r_Model_peek_36, r_Model_peek_37, ai_aload, ai_getf, ai_iload, ai_iadd, ai_bin, ai_iflt, ai_cmpge, ai_iald, ai_goto, ai_const, ai_iret, kd_0, fd_0_0, fd_0_1, fd_0_2, fd_0_3, fd_0_4, kd_1, fd_1_0, fd_1_1, ln_2, kd_3, fd_3_0, fd_3_1, fd_3_2, fd_3_3, fd_3_4, fd_3_5, fd_3_6, fd_3_7, fd_3_8, fd_3_9, ln_4, ln_5, ln_6, ln_7, ln_8, ln_9, ln_10, kd_11, fd_11_0, fd_11_1, fd_11_2, fd_11_3, fd_11_4, kd_12, fd_12_0, fd_12_1, fd_12_2, fd_12_3, ln_13, ln_14, ln_15, kd_16, fd_16_0, fd_16_1, fd_16_2, ln_17, kd_18, fd_18_0, fd_18_1, kd_19, fd_19_0, fd_19_1, fd_19_2, fd_19_3, fd_19_4, fd_19_5, fd_19_6, fd_19_7, fd_19_8, fd_19_9, fd_19_10, fd_19_11, fd_19_12, fd_19_13, fd_19_14, fd_19_15, fd_19_16, fd_19_17, fd_19_18, fd_19_19, fd_19_20, ln_20, ln_21, ln_22, ln_23, ln_24, ln_25, ln_26, ln_27, ln_28, ln_29, ln_30, ln_31, ln_32, List.getElem?_cons_zero, List.getElem?_cons_succ, List.set_cons_zero, List.set_cons_succ, true_and, and_true, ↓reduceIte, Int32.reduceLT, Int32.reduceLE, li_10, or_true, true_or, c1, c2]
      exact h
  · cases h
end
section
/-! THE REFERENCE: bytes and tokens, in the words of the desk's own -/
theorem am_up_up (M : aM) (i j : Nat) (x y : Int32) : am_up (am_up M i j x) i j y = am_up M i j y := by
  funext a b
  unfold am_up upd
  by_cases h : a = i
  · subst h
    simp only [↓reduceIte]
    split <;> rfl
  · simp only [h, ↓reduceIte]
theorem am_up_id (M : aM) (i j : Nat) : am_up M i j (M i j) = M := by
  funext a b
  unfold am_up upd
  by_cases h : a = i
  · subst h
    simp only [↓reduceIte]
    split
    · next q => rw [q]
    · rfl
  · simp only [h, ↓reduceIte]
def bgB (b : Int32) : Bool := (!(decide (b < 97)) && !(decide (122 < b))) || decide (b = 43) || decide (b = 42) || decide (b = 47) || decide (b = 61) || decide (b = 60) || decide (b = 62) || decide (b = 33) || decide (b = 63)
theorem wB_eq (b : Int32) : wB b = (bgB b || dgB b || decide (b = 45)) := by
  unfold wB bgB dgB
  ac_rfl
def sp_Model_isDigit : aS := fun as M K => match as with
  | [.int b] => K (some (.int (b2 (dgB b)))) M
  | _ => False
set_option maxRecDepth 100000 in
set_option maxHeartbeats 4000000 in
theorem ok_Model_isDigit {G : aG} (hG : am_ok G) : am_Sp G Y_Model_isDigit 0 sp_Model_isDigit := by
  intro as M K h
  unfold sp_Model_isDigit at h
  split at h
  · next b =>
    refine am_entry hG (by decide +kernel) (Nat.le_of_ble_eq_true rfl) ?_
    refine am_go (cuts := k_Model_isDigit) tb_Model_isDigit 400 _ _ _ _ ?_
    change am_run _ _ _ _ _ _ [some (.int b)] [] _
    simp only [r_Model_isDigit_0, r_Model_isDigit_1, r_Model_isDigit_3, r_Model_isDigit_6, r_Model_isDigit_7, r_Model_isDigit_9, r_Model_isDigit_12, r_Model_isDigit_13, r_Model_isDigit_16, r_Model_isDigit_17, ai_iload, ai_const, ai_cmplt, ai_cmpgt, ai_goto, ai_zret, List.getElem?_cons_zero, List.getElem?_cons_succ, List.set_cons_zero, List.set_cons_succ, true_and, and_true, ↓reduceIte, Int32.reduceLT, Int32.reduceLE, li_10, or_true, true_or]
    unfold dgB at h
    (repeat' split) <;> simp_all [b2]
  · cases h
def sp_Model_isBegin : aS := fun as M K => match as with
  | [.int b] => K (some (.int (b2 (bgB b)))) M
  | _ => False
set_option maxRecDepth 100000 in
set_option maxHeartbeats 4000000 in
theorem ok_Model_isBegin {G : aG} (hG : am_ok G) : am_Sp G Y_Model_isBegin 0 sp_Model_isBegin := by
  intro as M K h
  unfold sp_Model_isBegin at h
  split at h
  · next b =>
    refine am_entry hG (by decide +kernel) (Nat.le_of_ble_eq_true rfl) ?_
    refine am_go (cuts := k_Model_isBegin) tb_Model_isBegin 400 _ _ _ _ ?_
    change am_run _ _ _ _ _ _ [some (.int b)] [] _
    simp only [r_Model_isBegin_0, r_Model_isBegin_1, r_Model_isBegin_3, r_Model_isBegin_6, r_Model_isBegin_7, r_Model_isBegin_9, r_Model_isBegin_12, r_Model_isBegin_13, r_Model_isBegin_15, r_Model_isBegin_18, r_Model_isBegin_19, r_Model_isBegin_21, r_Model_isBegin_24, r_Model_isBegin_25, r_Model_isBegin_27, r_Model_isBegin_30, r_Model_isBegin_31, r_Model_isBegin_33, r_Model_isBegin_36, r_Model_isBegin_37, r_Model_isBegin_39, r_Model_isBegin_42, r_Model_isBegin_43, r_Model_isBegin_45, r_Model_isBegin_48, r_Model_isBegin_49, r_Model_isBegin_51, r_Model_isBegin_54, r_Model_isBegin_55, r_Model_isBegin_57, r_Model_isBegin_60, r_Model_isBegin_61, r_Model_isBegin_64, r_Model_isBegin_65, ai_iload, ai_const, ai_cmplt, ai_cmple, ai_cmpeq, ai_cmpne, ai_goto, ai_zret, List.getElem?_cons_zero, List.getElem?_cons_succ, List.set_cons_zero, List.set_cons_succ, true_and, and_true, ↓reduceIte, Int32.reduceLT, Int32.reduceLE, li_10, or_true, true_or]
    unfold bgB at h
    (repeat' split) <;> simp_all [b2]
  · cases h
def sp_Model_isByte : aS := fun as M K => match as with
  | [.int b] => K (some (.int (b2 (wB b)))) M
  | _ => False
set_option maxRecDepth 100000 in
set_option maxHeartbeats 4000000 in
theorem ok_Model_isByte {G : aG} (hG : am_ok G) : am_Sp G Y_Model_isByte 1 sp_Model_isByte := by
  intro as M K h
  unfold sp_Model_isByte at h
  split at h
  · next b =>
    rw [wB_eq] at h
    refine am_entry hG (by decide +kernel) (Nat.le_of_ble_eq_true rfl) ?_
    refine am_go (cuts := k_Model_isByte) (tb_Model_isByte (ok_Model_isBegin hG) (by decide) (ok_Model_isDigit hG) (by decide)) 400 _ _ _ _ ?_
    change am_run _ _ _ _ _ _ [some (.int b)] [] _
    simp only [r_Model_isByte_0, r_Model_isByte_1, r_Model_isByte_4, r_Model_isByte_7, r_Model_isByte_8, r_Model_isByte_11, r_Model_isByte_14, r_Model_isByte_15, r_Model_isByte_17, r_Model_isByte_20, r_Model_isByte_21, r_Model_isByte_24, r_Model_isByte_25, ai_iload, ai_calls1, am_push, am_few, ai_ifne, ai_const, ai_cmpne, ai_goto, ai_zret, kd_0, fd_0_0, fd_0_1, fd_0_2, fd_0_3, fd_0_4, kd_1, fd_1_0, fd_1_1, ln_2, kd_3, fd_3_0, fd_3_1, fd_3_2, fd_3_3, fd_3_4, fd_3_5, fd_3_6, fd_3_7, fd_3_8, fd_3_9, ln_4, ln_5, ln_6, ln_7, ln_8, ln_9, ln_10, kd_11, fd_11_0, fd_11_1, fd_11_2, fd_11_3, fd_11_4, kd_12, fd_12_0, fd_12_1, fd_12_2, fd_12_3, ln_13, ln_14, ln_15, kd_16, fd_16_0, fd_16_1, fd_16_2, ln_17, kd_18, fd_18_0, fd_18_1, kd_19, fd_19_0, fd_19_1, fd_19_2, fd_19_3, fd_19_4, fd_19_5, fd_19_6, fd_19_7, fd_19_8, fd_19_9, fd_19_10, fd_19_11, fd_19_12, fd_19_13, fd_19_14, fd_19_15, fd_19_16, fd_19_17, fd_19_18, fd_19_19, fd_19_20, ln_20, ln_21, ln_22, ln_23, ln_24, ln_25, ln_26, ln_27, ln_28, ln_29, ln_30, ln_31, ln_32, List.getElem?_cons_zero, List.getElem?_cons_succ, List.set_cons_zero, List.set_cons_succ, true_and, and_true, ↓reduceIte, Int32.reduceLT, Int32.reduceLE, li_10, or_true, true_or, ↓sp_Model_isBegin, ↓sp_Model_isDigit, b2_eq0]
    cases c1 : bgB b
    · cases c2 : dgB b
      · by_cases c3 : b = 45
        · simp [c1, c2, c3, b2] at h ⊢; exact h
        · simp [c1, c2, c3, b2] at h ⊢; exact h
      · simp [c1, c2, b2] at h ⊢; exact h
    · simp [c1, b2] at h ⊢; exact h
  · cases h
def tb_ok (M : aM) : Prop := ∀ i, i < m_tl M → ¬ M 20 i < 0
def at_ok (M : aM) : Prop := M 19 2 = nI (cl (M 19 2)) ∧ cl (M 19 2) ≤ m_tl M
theorem m_at_bt {M : aM} {p j : Nat} (ht : mt_ok M) (hp : M 19 2 = nI p) (hj : p + j < 2 ^ 31) : m_at M (nI j) = bt (M 20) (m_tl M) (p + j) := by
  unfold m_at bt
  rw [hp, nI_add, if_neg (nI_pos hj), ht.1]
  have e := nI_ltI (a := p + j) (b := m_tl M) hj (by have := ht.2; omega)
  have e2 : m_tl M = cl (M 19 1) := rfl
  by_cases q : p + j < m_tl M
  · rw [if_pos (e.mpr q), if_pos q, show cl (nI (p + j)) = p + j from nI_clamp hj]
  · rw [if_neg (fun z => q (e.mp z)), if_neg q]
theorem m_at_0 {M : aM} {p : Nat} (ht : mt_ok M) (hp : p ≤ 400) : m_at (am_up M 19 2 (nI p)) 0 = bt (M 20) (m_tl M) p := m_at_bt (M := am_up M 19 2 (nI p)) (j := 0) ht rfl (by omega)
def sp_Model_skip : aS := fun as M K => match as with
  | [.ref a] => a = 19 ∧ (mt_ok M ∧ tb_ok M ∧ at_ok M) ∧ K none (am_up M 19 2 (nI (skB (M 20) (m_tl M - cl (M 19 2)) false (cl (M 19 2)))))
  | _ => False
set_option maxRecDepth 100000 in
set_option maxHeartbeats 4000000 in
theorem lp_Model_skip {G : aG} (hG : am_ok G) {K : aR} {M0 : aM} (ht : mt_ok M0) (hb : tb_ok M0) : ∀ k p, p + k = m_tl M0 →
    (∀ o2, K none (am_up M0 19 2 (nI (skB (M0 20) k false p))) → am_X G Y_Model_skip 1 K 2 [some (.ref 19), some (.int 1), o2] [] (am_up M0 19 2 (nI p))) ∧
    (K none (am_up M0 19 2 (nI (skB (M0 20) k true p))) → am_X G Y_Model_skip 1 K 36 [some (.ref 19), some (.int 1), some (.int 59)] [] (am_up M0 19 2 (nI p))) := by
  intro k
  have li59 : ((59 : Int32) = 32) = False := eq_false (by decide)
  have lj59 : ((59 : Int32) = 10) = False := eq_false (by decide)
  have n1 : ((-1 : Int32) = 32) = False := eq_false (by decide)
  have n2 : ((-1 : Int32) = 10) = False := eq_false (by decide)
  have n3 : ((-1 : Int32) = 59) = False := eq_false (by decide)
  have Z : ∀ (M : aM) (o2 : Option Value), K none M → am_X G Y_Model_skip 1 K 2 [some (.ref 19), some (.int 0), o2] [] M := by
    intro M o2 h
    refine am_from (tb_Model_skip (ok_Model_peek hG) (by decide)) k_Model_skip 400 ?_
    simp only [q_Model_skip_2, q_Model_skip_36, r_Model_skip_0, r_Model_skip_1, r_Model_skip_2, r_Model_skip_3, r_Model_skip_6, r_Model_skip_7, r_Model_skip_8, r_Model_skip_11, r_Model_skip_12, r_Model_skip_13, r_Model_skip_15, r_Model_skip_18, r_Model_skip_19, r_Model_skip_21, r_Model_skip_24, r_Model_skip_25, r_Model_skip_27, r_Model_skip_30, r_Model_skip_31, r_Model_skip_34, r_Model_skip_35, r_Model_skip_36, r_Model_skip_37, r_Model_skip_39, r_Model_skip_42, r_Model_skip_43, r_Model_skip_44, r_Model_skip_47, r_Model_skip_50, r_Model_skip_51, r_Model_skip_52, r_Model_skip_55, r_Model_skip_57, r_Model_skip_60, r_Model_skip_61, r_Model_skip_62, r_Model_skip_65, r_Model_skip_66, r_Model_skip_67, r_Model_skip_70, r_Model_skip_73, r_Model_skip_74, r_Model_skip_76, r_Model_skip_79, r_Model_skip_80, r_Model_skip_82, r_Model_skip_85, r_Model_skip_86, r_Model_skip_87, r_Model_skip_90, r_Model_skip_91, r_Model_skip_92, r_Model_skip_95, r_Model_skip_98, ai_const, ai_istore, am_cut_0, am_cut_s, am_c1, ai_iload, ai_ifeq, ai_aload, ai_callv2, am_push, am_few, ai_cmpeq, ai_cmpne, ai_goto, ai_iflt, ai_getf, ai_iadd, ai_bin, ai_putf, ai_vret, kd_0, fd_0_0, fd_0_1, fd_0_2, fd_0_3, fd_0_4, kd_1, fd_1_0, fd_1_1, ln_2, kd_3, fd_3_0, fd_3_1, fd_3_2, fd_3_3, fd_3_4, fd_3_5, fd_3_6, fd_3_7, fd_3_8, fd_3_9, ln_4, ln_5, ln_6, ln_7, ln_8, ln_9, ln_10, kd_11, fd_11_0, fd_11_1, fd_11_2, fd_11_3, fd_11_4, kd_12, fd_12_0, fd_12_1, fd_12_2, fd_12_3, ln_13, ln_14, ln_15, kd_16, fd_16_0, fd_16_1, fd_16_2, ln_17, kd_18, fd_18_0, fd_18_1, kd_19, fd_19_0, fd_19_1, fd_19_2, fd_19_3, fd_19_4, fd_19_5, fd_19_6, fd_19_7, fd_19_8, fd_19_9, fd_19_10, fd_19_11, fd_19_12, fd_19_13, fd_19_14, fd_19_15, fd_19_16, fd_19_17, fd_19_18, fd_19_19, fd_19_20, ln_20, ln_21, ln_22, ln_23, ln_24, ln_25, ln_26, ln_27, ln_28, ln_29, ln_30, ln_31, ln_32, List.getElem?_cons_zero, List.getElem?_cons_succ, List.set_cons_zero, List.set_cons_succ, true_and, and_true, ↓reduceIte, Int32.reduceLT, Int32.reduceLE, li_10, or_true, true_or, ↓sp_Model_peek]
    exact h
  have htl : ∀ p, mt_ok (am_up M0 19 2 (nI p)) := fun p => ht
  induction k with
  | zero =>
    intro p hp
    have hp4 : p ≤ 400 := by have := ht.2; omega
    have h0 : m_at (am_up M0 19 2 (nI p)) 0 = -1 := by
      rw [m_at_0 ht hp4]
      unfold bt
      rw [if_neg (by omega)]
    have htp := htl p
    have A : ∀ o2, K none (am_up M0 19 2 (nI (skB (M0 20) 0 false p))) → am_X G Y_Model_skip 1 K 2 [some (.ref 19), some (.int 1), o2] [] (am_up M0 19 2 (nI p)) := by
      intro o2 h
      have z2 : am_X G Y_Model_skip 1 K 36 [some (.ref 19), some (.int 0), some (.int (-1))] [] (am_up M0 19 2 (nI p)) := by
        refine am_from (tb_Model_skip (ok_Model_peek hG) (by decide)) k_Model_skip 400 ?_
        simp only [q_Model_skip_2, q_Model_skip_36, r_Model_skip_0, r_Model_skip_1, r_Model_skip_2, r_Model_skip_3, r_Model_skip_6, r_Model_skip_7, r_Model_skip_8, r_Model_skip_11, r_Model_skip_12, r_Model_skip_13, r_Model_skip_15, r_Model_skip_18, r_Model_skip_19, r_Model_skip_21, r_Model_skip_24, r_Model_skip_25, r_Model_skip_27, r_Model_skip_30, r_Model_skip_31, r_Model_skip_34, r_Model_skip_35, r_Model_skip_36, r_Model_skip_37, r_Model_skip_39, r_Model_skip_42, r_Model_skip_43, r_Model_skip_44, r_Model_skip_47, r_Model_skip_50, r_Model_skip_51, r_Model_skip_52, r_Model_skip_55, r_Model_skip_57, r_Model_skip_60, r_Model_skip_61, r_Model_skip_62, r_Model_skip_65, r_Model_skip_66, r_Model_skip_67, r_Model_skip_70, r_Model_skip_73, r_Model_skip_74, r_Model_skip_76, r_Model_skip_79, r_Model_skip_80, r_Model_skip_82, r_Model_skip_85, r_Model_skip_86, r_Model_skip_87, r_Model_skip_90, r_Model_skip_91, r_Model_skip_92, r_Model_skip_95, r_Model_skip_98, ai_const, ai_istore, am_cut_0, am_cut_s, am_c1, ai_iload, ai_ifeq, ai_aload, ai_callv2, am_push, am_few, ai_cmpeq, ai_cmpne, ai_goto, ai_iflt, ai_getf, ai_iadd, ai_bin, ai_putf, ai_vret, kd_0, fd_0_0, fd_0_1, fd_0_2, fd_0_3, fd_0_4, kd_1, fd_1_0, fd_1_1, ln_2, kd_3, fd_3_0, fd_3_1, fd_3_2, fd_3_3, fd_3_4, fd_3_5, fd_3_6, fd_3_7, fd_3_8, fd_3_9, ln_4, ln_5, ln_6, ln_7, ln_8, ln_9, ln_10, kd_11, fd_11_0, fd_11_1, fd_11_2, fd_11_3, fd_11_4, kd_12, fd_12_0, fd_12_1, fd_12_2, fd_12_3, ln_13, ln_14, ln_15, kd_16, fd_16_0, fd_16_1, fd_16_2, ln_17, kd_18, fd_18_0, fd_18_1, kd_19, fd_19_0, fd_19_1, fd_19_2, fd_19_3, fd_19_4, fd_19_5, fd_19_6, fd_19_7, fd_19_8, fd_19_9, fd_19_10, fd_19_11, fd_19_12, fd_19_13, fd_19_14, fd_19_15, fd_19_16, fd_19_17, fd_19_18, fd_19_19, fd_19_20, ln_20, ln_21, ln_22, ln_23, ln_24, ln_25, ln_26, ln_27, ln_28, ln_29, ln_30, ln_31, ln_32, List.getElem?_cons_zero, List.getElem?_cons_succ, List.set_cons_zero, List.set_cons_succ, true_and, and_true, ↓reduceIte, Int32.reduceLT, Int32.reduceLE, li_10, or_true, true_or, ↓sp_Model_peek, n1, n2, n3]
        exact Z _ _ h
      refine am_from (tb_Model_skip (ok_Model_peek hG) (by decide)) k_Model_skip 400 ?_
      simp only [q_Model_skip_2, q_Model_skip_36, r_Model_skip_0, r_Model_skip_1, r_Model_skip_2, r_Model_skip_3, r_Model_skip_6, r_Model_skip_7, r_Model_skip_8, r_Model_skip_11, r_Model_skip_12, r_Model_skip_13, r_Model_skip_15, r_Model_skip_18, r_Model_skip_19, r_Model_skip_21, r_Model_skip_24, r_Model_skip_25, r_Model_skip_27, r_Model_skip_30, r_Model_skip_31, r_Model_skip_34, r_Model_skip_35, r_Model_skip_36, r_Model_skip_37, r_Model_skip_39, r_Model_skip_42, r_Model_skip_43, r_Model_skip_44, r_Model_skip_47, r_Model_skip_50, r_Model_skip_51, r_Model_skip_52, r_Model_skip_55, r_Model_skip_57, r_Model_skip_60, r_Model_skip_61, r_Model_skip_62, r_Model_skip_65, r_Model_skip_66, r_Model_skip_67, r_Model_skip_70, r_Model_skip_73, r_Model_skip_74, r_Model_skip_76, r_Model_skip_79, r_Model_skip_80, r_Model_skip_82, r_Model_skip_85, r_Model_skip_86, r_Model_skip_87, r_Model_skip_90, r_Model_skip_91, r_Model_skip_92, r_Model_skip_95, r_Model_skip_98, ai_const, ai_istore, am_cut_0, am_cut_s, am_c1, ai_iload, ai_ifeq, ai_aload, ai_callv2, am_push, am_few, ai_cmpeq, ai_cmpne, ai_goto, ai_iflt, ai_getf, ai_iadd, ai_bin, ai_putf, ai_vret, kd_0, fd_0_0, fd_0_1, fd_0_2, fd_0_3, fd_0_4, kd_1, fd_1_0, fd_1_1, ln_2, kd_3, fd_3_0, fd_3_1, fd_3_2, fd_3_3, fd_3_4, fd_3_5, fd_3_6, fd_3_7, fd_3_8, fd_3_9, ln_4, ln_5, ln_6, ln_7, ln_8, ln_9, ln_10, kd_11, fd_11_0, fd_11_1, fd_11_2, fd_11_3, fd_11_4, kd_12, fd_12_0, fd_12_1, fd_12_2, fd_12_3, ln_13, ln_14, ln_15, kd_16, fd_16_0, fd_16_1, fd_16_2, ln_17, kd_18, fd_18_0, fd_18_1, kd_19, fd_19_0, fd_19_1, fd_19_2, fd_19_3, fd_19_4, fd_19_5, fd_19_6, fd_19_7, fd_19_8, fd_19_9, fd_19_10, fd_19_11, fd_19_12, fd_19_13, fd_19_14, fd_19_15, fd_19_16, fd_19_17, fd_19_18, fd_19_19, fd_19_20, ln_20, ln_21, ln_22, ln_23, ln_24, ln_25, ln_26, ln_27, ln_28, ln_29, ln_30, ln_31, ln_32, List.getElem?_cons_zero, List.getElem?_cons_succ, List.set_cons_zero, List.set_cons_succ, true_and, and_true, ↓reduceIte, Int32.reduceLT, Int32.reduceLE, li_10, or_true, true_or, ↓sp_Model_peek, htp, h0, n1, n2, n3]
      exact z2
    refine ⟨A, fun h => ?_⟩
    refine am_from (tb_Model_skip (ok_Model_peek hG) (by decide)) k_Model_skip 400 ?_
    simp only [q_Model_skip_2, q_Model_skip_36, r_Model_skip_0, r_Model_skip_1, r_Model_skip_2, r_Model_skip_3, r_Model_skip_6, r_Model_skip_7, r_Model_skip_8, r_Model_skip_11, r_Model_skip_12, r_Model_skip_13, r_Model_skip_15, r_Model_skip_18, r_Model_skip_19, r_Model_skip_21, r_Model_skip_24, r_Model_skip_25, r_Model_skip_27, r_Model_skip_30, r_Model_skip_31, r_Model_skip_34, r_Model_skip_35, r_Model_skip_36, r_Model_skip_37, r_Model_skip_39, r_Model_skip_42, r_Model_skip_43, r_Model_skip_44, r_Model_skip_47, r_Model_skip_50, r_Model_skip_51, r_Model_skip_52, r_Model_skip_55, r_Model_skip_57, r_Model_skip_60, r_Model_skip_61, r_Model_skip_62, r_Model_skip_65, r_Model_skip_66, r_Model_skip_67, r_Model_skip_70, r_Model_skip_73, r_Model_skip_74, r_Model_skip_76, r_Model_skip_79, r_Model_skip_80, r_Model_skip_82, r_Model_skip_85, r_Model_skip_86, r_Model_skip_87, r_Model_skip_90, r_Model_skip_91, r_Model_skip_92, r_Model_skip_95, r_Model_skip_98, ai_const, ai_istore, am_cut_0, am_cut_s, am_c1, ai_iload, ai_ifeq, ai_aload, ai_callv2, am_push, am_few, ai_cmpeq, ai_cmpne, ai_goto, ai_iflt, ai_getf, ai_iadd, ai_bin, ai_putf, ai_vret, kd_0, fd_0_0, fd_0_1, fd_0_2, fd_0_3, fd_0_4, kd_1, fd_1_0, fd_1_1, ln_2, kd_3, fd_3_0, fd_3_1, fd_3_2, fd_3_3, fd_3_4, fd_3_5, fd_3_6, fd_3_7, fd_3_8, fd_3_9, ln_4, ln_5, ln_6, ln_7, ln_8, ln_9, ln_10, kd_11, fd_11_0, fd_11_1, fd_11_2, fd_11_3, fd_11_4, kd_12, fd_12_0, fd_12_1, fd_12_2, fd_12_3, ln_13, ln_14, ln_15, kd_16, fd_16_0, fd_16_1, fd_16_2, ln_17, kd_18, fd_18_0, fd_18_1, kd_19, fd_19_0, fd_19_1, fd_19_2, fd_19_3, fd_19_4, fd_19_5, fd_19_6, fd_19_7, fd_19_8, fd_19_9, fd_19_10, fd_19_11, fd_19_12, fd_19_13, fd_19_14, fd_19_15, fd_19_16, fd_19_17, fd_19_18, fd_19_19, fd_19_20, ln_20, ln_21, ln_22, ln_23, ln_24, ln_25, ln_26, ln_27, ln_28, ln_29, ln_30, ln_31, ln_32, List.getElem?_cons_zero, List.getElem?_cons_succ, List.set_cons_zero, List.set_cons_succ, true_and, and_true, ↓reduceIte, Int32.reduceLT, Int32.reduceLE, li_10, or_true, true_or, ↓sp_Model_peek, htp, h0, li59, lj59]
    exact A _ h
  | succ k ih =>
    intro p hp
    have hp4 : p ≤ 400 := by have := ht.2; omega
    have hpl : p < m_tl M0 := by omega
    have h0 : m_at (am_up M0 19 2 (nI p)) 0 = M0 20 p := by
      rw [m_at_0 ht hp4]
      unfold bt
      rw [if_pos hpl]
    have hpos := hb p hpl
    have htp := htl p
    have ihs := ih (p + 1) (by omega)
    have A : ¬ M0 20 p = 59 → ∀ o2, K none (am_up M0 19 2 (nI (skB (M0 20) (k + 1) false p))) → am_X G Y_Model_skip 1 K 2 [some (.ref 19), some (.int 1), o2] [] (am_up M0 19 2 (nI p)) := by
      intro c0 o2 h
      simp only [skB, c0, decide_false, Bool.false_or, Bool.false_and, Bool.false_eq_true, ↓reduceIte] at h
      by_cases c1 : M0 20 p = 32
      · rw [if_pos (Or.inr c1)] at h
        have c1' : (M0 20 p = 32) = True := eq_true c1
        have z2 : am_X G Y_Model_skip 1 K 36 [some (.ref 19), some (.int 1), some (.int (M0 20 p))] [] (am_up M0 19 2 (nI p)) := by
          refine am_from (tb_Model_skip (ok_Model_peek hG) (by decide)) k_Model_skip 400 ?_
          simp only [q_Model_skip_2, q_Model_skip_36, r_Model_skip_0, r_Model_skip_1, r_Model_skip_2, r_Model_skip_3, r_Model_skip_6, r_Model_skip_7, r_Model_skip_8, r_Model_skip_11, r_Model_skip_12, r_Model_skip_13, r_Model_skip_15, r_Model_skip_18, r_Model_skip_19, r_Model_skip_21, r_Model_skip_24, r_Model_skip_25, r_Model_skip_27, r_Model_skip_30, r_Model_skip_31, r_Model_skip_34, r_Model_skip_35, r_Model_skip_36, r_Model_skip_37, r_Model_skip_39, r_Model_skip_42, r_Model_skip_43, r_Model_skip_44, r_Model_skip_47, r_Model_skip_50, r_Model_skip_51, r_Model_skip_52, r_Model_skip_55, r_Model_skip_57, r_Model_skip_60, r_Model_skip_61, r_Model_skip_62, r_Model_skip_65, r_Model_skip_66, r_Model_skip_67, r_Model_skip_70, r_Model_skip_73, r_Model_skip_74, r_Model_skip_76, r_Model_skip_79, r_Model_skip_80, r_Model_skip_82, r_Model_skip_85, r_Model_skip_86, r_Model_skip_87, r_Model_skip_90, r_Model_skip_91, r_Model_skip_92, r_Model_skip_95, r_Model_skip_98, ai_const, ai_istore, am_cut_0, am_cut_s, am_c1, ai_iload, ai_ifeq, ai_aload, ai_callv2, am_push, am_few, ai_cmpeq, ai_cmpne, ai_goto, ai_iflt, ai_getf, ai_iadd, ai_bin, ai_putf, ai_vret, kd_0, fd_0_0, fd_0_1, fd_0_2, fd_0_3, fd_0_4, kd_1, fd_1_0, fd_1_1, ln_2, kd_3, fd_3_0, fd_3_1, fd_3_2, fd_3_3, fd_3_4, fd_3_5, fd_3_6, fd_3_7, fd_3_8, fd_3_9, ln_4, ln_5, ln_6, ln_7, ln_8, ln_9, ln_10, kd_11, fd_11_0, fd_11_1, fd_11_2, fd_11_3, fd_11_4, kd_12, fd_12_0, fd_12_1, fd_12_2, fd_12_3, ln_13, ln_14, ln_15, kd_16, fd_16_0, fd_16_1, fd_16_2, ln_17, kd_18, fd_18_0, fd_18_1, kd_19, fd_19_0, fd_19_1, fd_19_2, fd_19_3, fd_19_4, fd_19_5, fd_19_6, fd_19_7, fd_19_8, fd_19_9, fd_19_10, fd_19_11, fd_19_12, fd_19_13, fd_19_14, fd_19_15, fd_19_16, fd_19_17, fd_19_18, fd_19_19, fd_19_20, ln_20, ln_21, ln_22, ln_23, ln_24, ln_25, ln_26, ln_27, ln_28, ln_29, ln_30, ln_31, ln_32, List.getElem?_cons_zero, List.getElem?_cons_succ, List.set_cons_zero, List.set_cons_succ, true_and, and_true, ↓reduceIte, Int32.reduceLT, Int32.reduceLE, li_10, or_true, true_or, ↓sp_Model_peek, c0, c1', am_up_ap, Nat.reduceEqDiff, nI_1, am_up_up]
          exact ihs.1 _ h
        refine am_from (tb_Model_skip (ok_Model_peek hG) (by decide)) k_Model_skip 400 ?_
        simp only [q_Model_skip_2, q_Model_skip_36, r_Model_skip_0, r_Model_skip_1, r_Model_skip_2, r_Model_skip_3, r_Model_skip_6, r_Model_skip_7, r_Model_skip_8, r_Model_skip_11, r_Model_skip_12, r_Model_skip_13, r_Model_skip_15, r_Model_skip_18, r_Model_skip_19, r_Model_skip_21, r_Model_skip_24, r_Model_skip_25, r_Model_skip_27, r_Model_skip_30, r_Model_skip_31, r_Model_skip_34, r_Model_skip_35, r_Model_skip_36, r_Model_skip_37, r_Model_skip_39, r_Model_skip_42, r_Model_skip_43, r_Model_skip_44, r_Model_skip_47, r_Model_skip_50, r_Model_skip_51, r_Model_skip_52, r_Model_skip_55, r_Model_skip_57, r_Model_skip_60, r_Model_skip_61, r_Model_skip_62, r_Model_skip_65, r_Model_skip_66, r_Model_skip_67, r_Model_skip_70, r_Model_skip_73, r_Model_skip_74, r_Model_skip_76, r_Model_skip_79, r_Model_skip_80, r_Model_skip_82, r_Model_skip_85, r_Model_skip_86, r_Model_skip_87, r_Model_skip_90, r_Model_skip_91, r_Model_skip_92, r_Model_skip_95, r_Model_skip_98, ai_const, ai_istore, am_cut_0, am_cut_s, am_c1, ai_iload, ai_ifeq, ai_aload, ai_callv2, am_push, am_few, ai_cmpeq, ai_cmpne, ai_goto, ai_iflt, ai_getf, ai_iadd, ai_bin, ai_putf, ai_vret, kd_0, fd_0_0, fd_0_1, fd_0_2, fd_0_3, fd_0_4, kd_1, fd_1_0, fd_1_1, ln_2, kd_3, fd_3_0, fd_3_1, fd_3_2, fd_3_3, fd_3_4, fd_3_5, fd_3_6, fd_3_7, fd_3_8, fd_3_9, ln_4, ln_5, ln_6, ln_7, ln_8, ln_9, ln_10, kd_11, fd_11_0, fd_11_1, fd_11_2, fd_11_3, fd_11_4, kd_12, fd_12_0, fd_12_1, fd_12_2, fd_12_3, ln_13, ln_14, ln_15, kd_16, fd_16_0, fd_16_1, fd_16_2, ln_17, kd_18, fd_18_0, fd_18_1, kd_19, fd_19_0, fd_19_1, fd_19_2, fd_19_3, fd_19_4, fd_19_5, fd_19_6, fd_19_7, fd_19_8, fd_19_9, fd_19_10, fd_19_11, fd_19_12, fd_19_13, fd_19_14, fd_19_15, fd_19_16, fd_19_17, fd_19_18, fd_19_19, fd_19_20, ln_20, ln_21, ln_22, ln_23, ln_24, ln_25, ln_26, ln_27, ln_28, ln_29, ln_30, ln_31, ln_32, List.getElem?_cons_zero, List.getElem?_cons_succ, List.set_cons_zero, List.set_cons_succ, true_and, and_true, ↓reduceIte, Int32.reduceLT, Int32.reduceLE, li_10, or_true, true_or, ↓sp_Model_peek, htp, h0, c0, c1']
        exact z2
      by_cases c2 : M0 20 p = 10
      · rw [if_pos (Or.inl c2)] at h
        have c2' : (M0 20 p = 10) = True := eq_true c2
        have z2 : am_X G Y_Model_skip 1 K 36 [some (.ref 19), some (.int 1), some (.int (M0 20 p))] [] (am_up M0 19 2 (nI p)) := by
          refine am_from (tb_Model_skip (ok_Model_peek hG) (by decide)) k_Model_skip 400 ?_
          simp only [q_Model_skip_2, q_Model_skip_36, r_Model_skip_0, r_Model_skip_1, r_Model_skip_2, r_Model_skip_3, r_Model_skip_6, r_Model_skip_7, r_Model_skip_8, r_Model_skip_11, r_Model_skip_12, r_Model_skip_13, r_Model_skip_15, r_Model_skip_18, r_Model_skip_19, r_Model_skip_21, r_Model_skip_24, r_Model_skip_25, r_Model_skip_27, r_Model_skip_30, r_Model_skip_31, r_Model_skip_34, r_Model_skip_35, r_Model_skip_36, r_Model_skip_37, r_Model_skip_39, r_Model_skip_42, r_Model_skip_43, r_Model_skip_44, r_Model_skip_47, r_Model_skip_50, r_Model_skip_51, r_Model_skip_52, r_Model_skip_55, r_Model_skip_57, r_Model_skip_60, r_Model_skip_61, r_Model_skip_62, r_Model_skip_65, r_Model_skip_66, r_Model_skip_67, r_Model_skip_70, r_Model_skip_73, r_Model_skip_74, r_Model_skip_76, r_Model_skip_79, r_Model_skip_80, r_Model_skip_82, r_Model_skip_85, r_Model_skip_86, r_Model_skip_87, r_Model_skip_90, r_Model_skip_91, r_Model_skip_92, r_Model_skip_95, r_Model_skip_98, ai_const, ai_istore, am_cut_0, am_cut_s, am_c1, ai_iload, ai_ifeq, ai_aload, ai_callv2, am_push, am_few, ai_cmpeq, ai_cmpne, ai_goto, ai_iflt, ai_getf, ai_iadd, ai_bin, ai_putf, ai_vret, kd_0, fd_0_0, fd_0_1, fd_0_2, fd_0_3, fd_0_4, kd_1, fd_1_0, fd_1_1, ln_2, kd_3, fd_3_0, fd_3_1, fd_3_2, fd_3_3, fd_3_4, fd_3_5, fd_3_6, fd_3_7, fd_3_8, fd_3_9, ln_4, ln_5, ln_6, ln_7, ln_8, ln_9, ln_10, kd_11, fd_11_0, fd_11_1, fd_11_2, fd_11_3, fd_11_4, kd_12, fd_12_0, fd_12_1, fd_12_2, fd_12_3, ln_13, ln_14, ln_15, kd_16, fd_16_0, fd_16_1, fd_16_2, ln_17, kd_18, fd_18_0, fd_18_1, kd_19, fd_19_0, fd_19_1, fd_19_2, fd_19_3, fd_19_4, fd_19_5, fd_19_6, fd_19_7, fd_19_8, fd_19_9, fd_19_10, fd_19_11, fd_19_12, fd_19_13, fd_19_14, fd_19_15, fd_19_16, fd_19_17, fd_19_18, fd_19_19, fd_19_20, ln_20, ln_21, ln_22, ln_23, ln_24, ln_25, ln_26, ln_27, ln_28, ln_29, ln_30, ln_31, ln_32, List.getElem?_cons_zero, List.getElem?_cons_succ, List.set_cons_zero, List.set_cons_succ, true_and, and_true, ↓reduceIte, Int32.reduceLT, Int32.reduceLE, li_10, or_true, true_or, ↓sp_Model_peek, c0, c1, c2', am_up_ap, Nat.reduceEqDiff, nI_1, am_up_up]
          exact ihs.1 _ h
        refine am_from (tb_Model_skip (ok_Model_peek hG) (by decide)) k_Model_skip 400 ?_
        simp only [q_Model_skip_2, q_Model_skip_36, r_Model_skip_0, r_Model_skip_1, r_Model_skip_2, r_Model_skip_3, r_Model_skip_6, r_Model_skip_7, r_Model_skip_8, r_Model_skip_11, r_Model_skip_12, r_Model_skip_13, r_Model_skip_15, r_Model_skip_18, r_Model_skip_19, r_Model_skip_21, r_Model_skip_24, r_Model_skip_25, r_Model_skip_27, r_Model_skip_30, r_Model_skip_31, r_Model_skip_34, r_Model_skip_35, r_Model_skip_36, r_Model_skip_37, r_Model_skip_39, r_Model_skip_42, r_Model_skip_43, r_Model_skip_44, r_Model_skip_47, r_Model_skip_50, r_Model_skip_51, r_Model_skip_52, r_Model_skip_55, r_Model_skip_57, r_Model_skip_60, r_Model_skip_61, r_Model_skip_62, r_Model_skip_65, r_Model_skip_66, r_Model_skip_67, r_Model_skip_70, r_Model_skip_73, r_Model_skip_74, r_Model_skip_76, r_Model_skip_79, r_Model_skip_80, r_Model_skip_82, r_Model_skip_85, r_Model_skip_86, r_Model_skip_87, r_Model_skip_90, r_Model_skip_91, r_Model_skip_92, r_Model_skip_95, r_Model_skip_98, ai_const, ai_istore, am_cut_0, am_cut_s, am_c1, ai_iload, ai_ifeq, ai_aload, ai_callv2, am_push, am_few, ai_cmpeq, ai_cmpne, ai_goto, ai_iflt, ai_getf, ai_iadd, ai_bin, ai_putf, ai_vret, kd_0, fd_0_0, fd_0_1, fd_0_2, fd_0_3, fd_0_4, kd_1, fd_1_0, fd_1_1, ln_2, kd_3, fd_3_0, fd_3_1, fd_3_2, fd_3_3, fd_3_4, fd_3_5, fd_3_6, fd_3_7, fd_3_8, fd_3_9, ln_4, ln_5, ln_6, ln_7, ln_8, ln_9, ln_10, kd_11, fd_11_0, fd_11_1, fd_11_2, fd_11_3, fd_11_4, kd_12, fd_12_0, fd_12_1, fd_12_2, fd_12_3, ln_13, ln_14, ln_15, kd_16, fd_16_0, fd_16_1, fd_16_2, ln_17, kd_18, fd_18_0, fd_18_1, kd_19, fd_19_0, fd_19_1, fd_19_2, fd_19_3, fd_19_4, fd_19_5, fd_19_6, fd_19_7, fd_19_8, fd_19_9, fd_19_10, fd_19_11, fd_19_12, fd_19_13, fd_19_14, fd_19_15, fd_19_16, fd_19_17, fd_19_18, fd_19_19, fd_19_20, ln_20, ln_21, ln_22, ln_23, ln_24, ln_25, ln_26, ln_27, ln_28, ln_29, ln_30, ln_31, ln_32, List.getElem?_cons_zero, List.getElem?_cons_succ, List.set_cons_zero, List.set_cons_succ, true_and, and_true, ↓reduceIte, Int32.reduceLT, Int32.reduceLE, li_10, or_true, true_or, ↓sp_Model_peek, htp, h0, c0, c1, c2']
        exact z2
      · rw [if_neg (fun q => q.elim c2 c1)] at h
        have z2 : am_X G Y_Model_skip 1 K 36 [some (.ref 19), some (.int 0), some (.int (M0 20 p))] [] (am_up M0 19 2 (nI p)) := by
          refine am_from (tb_Model_skip (ok_Model_peek hG) (by decide)) k_Model_skip 400 ?_
          simp only [q_Model_skip_2, q_Model_skip_36, r_Model_skip_0, r_Model_skip_1, r_Model_skip_2, r_Model_skip_3, r_Model_skip_6, r_Model_skip_7, r_Model_skip_8, r_Model_skip_11, r_Model_skip_12, r_Model_skip_13, r_Model_skip_15, r_Model_skip_18, r_Model_skip_19, r_Model_skip_21, r_Model_skip_24, r_Model_skip_25, r_Model_skip_27, r_Model_skip_30, r_Model_skip_31, r_Model_skip_34, r_Model_skip_35, r_Model_skip_36, r_Model_skip_37, r_Model_skip_39, r_Model_skip_42, r_Model_skip_43, r_Model_skip_44, r_Model_skip_47, r_Model_skip_50, r_Model_skip_51, r_Model_skip_52, r_Model_skip_55, r_Model_skip_57, r_Model_skip_60, r_Model_skip_61, r_Model_skip_62, r_Model_skip_65, r_Model_skip_66, r_Model_skip_67, r_Model_skip_70, r_Model_skip_73, r_Model_skip_74, r_Model_skip_76, r_Model_skip_79, r_Model_skip_80, r_Model_skip_82, r_Model_skip_85, r_Model_skip_86, r_Model_skip_87, r_Model_skip_90, r_Model_skip_91, r_Model_skip_92, r_Model_skip_95, r_Model_skip_98, ai_const, ai_istore, am_cut_0, am_cut_s, am_c1, ai_iload, ai_ifeq, ai_aload, ai_callv2, am_push, am_few, ai_cmpeq, ai_cmpne, ai_goto, ai_iflt, ai_getf, ai_iadd, ai_bin, ai_putf, ai_vret, kd_0, fd_0_0, fd_0_1, fd_0_2, fd_0_3, fd_0_4, kd_1, fd_1_0, fd_1_1, ln_2, kd_3, fd_3_0, fd_3_1, fd_3_2, fd_3_3, fd_3_4, fd_3_5, fd_3_6, fd_3_7, fd_3_8, fd_3_9, ln_4, ln_5, ln_6, ln_7, ln_8, ln_9, ln_10, kd_11, fd_11_0, fd_11_1, fd_11_2, fd_11_3, fd_11_4, kd_12, fd_12_0, fd_12_1, fd_12_2, fd_12_3, ln_13, ln_14, ln_15, kd_16, fd_16_0, fd_16_1, fd_16_2, ln_17, kd_18, fd_18_0, fd_18_1, kd_19, fd_19_0, fd_19_1, fd_19_2, fd_19_3, fd_19_4, fd_19_5, fd_19_6, fd_19_7, fd_19_8, fd_19_9, fd_19_10, fd_19_11, fd_19_12, fd_19_13, fd_19_14, fd_19_15, fd_19_16, fd_19_17, fd_19_18, fd_19_19, fd_19_20, ln_20, ln_21, ln_22, ln_23, ln_24, ln_25, ln_26, ln_27, ln_28, ln_29, ln_30, ln_31, ln_32, List.getElem?_cons_zero, List.getElem?_cons_succ, List.set_cons_zero, List.set_cons_succ, true_and, and_true, ↓reduceIte, Int32.reduceLT, Int32.reduceLE, li_10, or_true, true_or, ↓sp_Model_peek, c0, c1, c2]
          exact Z _ _ h
        refine am_from (tb_Model_skip (ok_Model_peek hG) (by decide)) k_Model_skip 400 ?_
        simp only [q_Model_skip_2, q_Model_skip_36, r_Model_skip_0, r_Model_skip_1, r_Model_skip_2, r_Model_skip_3, r_Model_skip_6, r_Model_skip_7, r_Model_skip_8, r_Model_skip_11, r_Model_skip_12, r_Model_skip_13, r_Model_skip_15, r_Model_skip_18, r_Model_skip_19, r_Model_skip_21, r_Model_skip_24, r_Model_skip_25, r_Model_skip_27, r_Model_skip_30, r_Model_skip_31, r_Model_skip_34, r_Model_skip_35, r_Model_skip_36, r_Model_skip_37, r_Model_skip_39, r_Model_skip_42, r_Model_skip_43, r_Model_skip_44, r_Model_skip_47, r_Model_skip_50, r_Model_skip_51, r_Model_skip_52, r_Model_skip_55, r_Model_skip_57, r_Model_skip_60, r_Model_skip_61, r_Model_skip_62, r_Model_skip_65, r_Model_skip_66, r_Model_skip_67, r_Model_skip_70, r_Model_skip_73, r_Model_skip_74, r_Model_skip_76, r_Model_skip_79, r_Model_skip_80, r_Model_skip_82, r_Model_skip_85, r_Model_skip_86, r_Model_skip_87, r_Model_skip_90, r_Model_skip_91, r_Model_skip_92, r_Model_skip_95, r_Model_skip_98, ai_const, ai_istore, am_cut_0, am_cut_s, am_c1, ai_iload, ai_ifeq, ai_aload, ai_callv2, am_push, am_few, ai_cmpeq, ai_cmpne, ai_goto, ai_iflt, ai_getf, ai_iadd, ai_bin, ai_putf, ai_vret, kd_0, fd_0_0, fd_0_1, fd_0_2, fd_0_3, fd_0_4, kd_1, fd_1_0, fd_1_1, ln_2, kd_3, fd_3_0, fd_3_1, fd_3_2, fd_3_3, fd_3_4, fd_3_5, fd_3_6, fd_3_7, fd_3_8, fd_3_9, ln_4, ln_5, ln_6, ln_7, ln_8, ln_9, ln_10, kd_11, fd_11_0, fd_11_1, fd_11_2, fd_11_3, fd_11_4, kd_12, fd_12_0, fd_12_1, fd_12_2, fd_12_3, ln_13, ln_14, ln_15, kd_16, fd_16_0, fd_16_1, fd_16_2, ln_17, kd_18, fd_18_0, fd_18_1, kd_19, fd_19_0, fd_19_1, fd_19_2, fd_19_3, fd_19_4, fd_19_5, fd_19_6, fd_19_7, fd_19_8, fd_19_9, fd_19_10, fd_19_11, fd_19_12, fd_19_13, fd_19_14, fd_19_15, fd_19_16, fd_19_17, fd_19_18, fd_19_19, fd_19_20, ln_20, ln_21, ln_22, ln_23, ln_24, ln_25, ln_26, ln_27, ln_28, ln_29, ln_30, ln_31, ln_32, List.getElem?_cons_zero, List.getElem?_cons_succ, List.set_cons_zero, List.set_cons_succ, true_and, and_true, ↓reduceIte, Int32.reduceLT, Int32.reduceLE, li_10, or_true, true_or, ↓sp_Model_peek, htp, h0, c0, c1, c2]
        exact z2
    have B : K none (am_up M0 19 2 (nI (skB (M0 20) (k + 1) true p))) → am_X G Y_Model_skip 1 K 36 [some (.ref 19), some (.int 1), some (.int 59)] [] (am_up M0 19 2 (nI p)) := by
      intro h
      by_cases c2 : M0 20 p = 10
      · have c2' : (M0 20 p = 10) = True := eq_true c2
        have c0 : ¬ M0 20 p = 59 := by rw [c2]; decide
        have e : skB (M0 20) (k + 1) true p = skB (M0 20) (k + 1) false p := by
          simp only [skB, c0, c2, decide_false, decide_true, Bool.not_true, Bool.and_false, Bool.or_false, Bool.false_or, Bool.false_and]
        rw [e] at h
        refine am_from (tb_Model_skip (ok_Model_peek hG) (by decide)) k_Model_skip 400 ?_
        simp only [q_Model_skip_2, q_Model_skip_36, r_Model_skip_0, r_Model_skip_1, r_Model_skip_2, r_Model_skip_3, r_Model_skip_6, r_Model_skip_7, r_Model_skip_8, r_Model_skip_11, r_Model_skip_12, r_Model_skip_13, r_Model_skip_15, r_Model_skip_18, r_Model_skip_19, r_Model_skip_21, r_Model_skip_24, r_Model_skip_25, r_Model_skip_27, r_Model_skip_30, r_Model_skip_31, r_Model_skip_34, r_Model_skip_35, r_Model_skip_36, r_Model_skip_37, r_Model_skip_39, r_Model_skip_42, r_Model_skip_43, r_Model_skip_44, r_Model_skip_47, r_Model_skip_50, r_Model_skip_51, r_Model_skip_52, r_Model_skip_55, r_Model_skip_57, r_Model_skip_60, r_Model_skip_61, r_Model_skip_62, r_Model_skip_65, r_Model_skip_66, r_Model_skip_67, r_Model_skip_70, r_Model_skip_73, r_Model_skip_74, r_Model_skip_76, r_Model_skip_79, r_Model_skip_80, r_Model_skip_82, r_Model_skip_85, r_Model_skip_86, r_Model_skip_87, r_Model_skip_90, r_Model_skip_91, r_Model_skip_92, r_Model_skip_95, r_Model_skip_98, ai_const, ai_istore, am_cut_0, am_cut_s, am_c1, ai_iload, ai_ifeq, ai_aload, ai_callv2, am_push, am_few, ai_cmpeq, ai_cmpne, ai_goto, ai_iflt, ai_getf, ai_iadd, ai_bin, ai_putf, ai_vret, kd_0, fd_0_0, fd_0_1, fd_0_2, fd_0_3, fd_0_4, kd_1, fd_1_0, fd_1_1, ln_2, kd_3, fd_3_0, fd_3_1, fd_3_2, fd_3_3, fd_3_4, fd_3_5, fd_3_6, fd_3_7, fd_3_8, fd_3_9, ln_4, ln_5, ln_6, ln_7, ln_8, ln_9, ln_10, kd_11, fd_11_0, fd_11_1, fd_11_2, fd_11_3, fd_11_4, kd_12, fd_12_0, fd_12_1, fd_12_2, fd_12_3, ln_13, ln_14, ln_15, kd_16, fd_16_0, fd_16_1, fd_16_2, ln_17, kd_18, fd_18_0, fd_18_1, kd_19, fd_19_0, fd_19_1, fd_19_2, fd_19_3, fd_19_4, fd_19_5, fd_19_6, fd_19_7, fd_19_8, fd_19_9, fd_19_10, fd_19_11, fd_19_12, fd_19_13, fd_19_14, fd_19_15, fd_19_16, fd_19_17, fd_19_18, fd_19_19, fd_19_20, ln_20, ln_21, ln_22, ln_23, ln_24, ln_25, ln_26, ln_27, ln_28, ln_29, ln_30, ln_31, ln_32, List.getElem?_cons_zero, List.getElem?_cons_succ, List.set_cons_zero, List.set_cons_succ, true_and, and_true, ↓reduceIte, Int32.reduceLT, Int32.reduceLE, li_10, or_true, true_or, ↓sp_Model_peek, htp, h0, hpos, c2', li59, lj59]
        exact A c0 _ h
      · have e : skB (M0 20) (k + 1) true p = skB (M0 20) k true (p + 1) := by
          simp only [skB, c2, decide_false, Bool.not_false, Bool.and_true, Bool.or_true, ↓reduceIte]
        rw [e] at h
        refine am_from (tb_Model_skip (ok_Model_peek hG) (by decide)) k_Model_skip 400 ?_
        simp only [q_Model_skip_2, q_Model_skip_36, r_Model_skip_0, r_Model_skip_1, r_Model_skip_2, r_Model_skip_3, r_Model_skip_6, r_Model_skip_7, r_Model_skip_8, r_Model_skip_11, r_Model_skip_12, r_Model_skip_13, r_Model_skip_15, r_Model_skip_18, r_Model_skip_19, r_Model_skip_21, r_Model_skip_24, r_Model_skip_25, r_Model_skip_27, r_Model_skip_30, r_Model_skip_31, r_Model_skip_34, r_Model_skip_35, r_Model_skip_36, r_Model_skip_37, r_Model_skip_39, r_Model_skip_42, r_Model_skip_43, r_Model_skip_44, r_Model_skip_47, r_Model_skip_50, r_Model_skip_51, r_Model_skip_52, r_Model_skip_55, r_Model_skip_57, r_Model_skip_60, r_Model_skip_61, r_Model_skip_62, r_Model_skip_65, r_Model_skip_66, r_Model_skip_67, r_Model_skip_70, r_Model_skip_73, r_Model_skip_74, r_Model_skip_76, r_Model_skip_79, r_Model_skip_80, r_Model_skip_82, r_Model_skip_85, r_Model_skip_86, r_Model_skip_87, r_Model_skip_90, r_Model_skip_91, r_Model_skip_92, r_Model_skip_95, r_Model_skip_98, ai_const, ai_istore, am_cut_0, am_cut_s, am_c1, ai_iload, ai_ifeq, ai_aload, ai_callv2, am_push, am_few, ai_cmpeq, ai_cmpne, ai_goto, ai_iflt, ai_getf, ai_iadd, ai_bin, ai_putf, ai_vret, kd_0, fd_0_0, fd_0_1, fd_0_2, fd_0_3, fd_0_4, kd_1, fd_1_0, fd_1_1, ln_2, kd_3, fd_3_0, fd_3_1, fd_3_2, fd_3_3, fd_3_4, fd_3_5, fd_3_6, fd_3_7, fd_3_8, fd_3_9, ln_4, ln_5, ln_6, ln_7, ln_8, ln_9, ln_10, kd_11, fd_11_0, fd_11_1, fd_11_2, fd_11_3, fd_11_4, kd_12, fd_12_0, fd_12_1, fd_12_2, fd_12_3, ln_13, ln_14, ln_15, kd_16, fd_16_0, fd_16_1, fd_16_2, ln_17, kd_18, fd_18_0, fd_18_1, kd_19, fd_19_0, fd_19_1, fd_19_2, fd_19_3, fd_19_4, fd_19_5, fd_19_6, fd_19_7, fd_19_8, fd_19_9, fd_19_10, fd_19_11, fd_19_12, fd_19_13, fd_19_14, fd_19_15, fd_19_16, fd_19_17, fd_19_18, fd_19_19, fd_19_20, ln_20, ln_21, ln_22, ln_23, ln_24, ln_25, ln_26, ln_27, ln_28, ln_29, ln_30, ln_31, ln_32, List.getElem?_cons_zero, List.getElem?_cons_succ, List.set_cons_zero, List.set_cons_succ, true_and, and_true, ↓reduceIte, Int32.reduceLT, Int32.reduceLE, li_10, or_true, true_or, ↓sp_Model_peek, htp, h0, hpos, c2, am_up_ap, Nat.reduceEqDiff, nI_1, am_up_up]
        exact ihs.2 h
    refine ⟨fun o2 h => ?_, B⟩
    by_cases c0 : M0 20 p = 59
    · have e : skB (M0 20) (k + 1) false p = skB (M0 20) (k + 1) true p := by
        simp only [skB, c0, decide_true, Bool.true_or, ↓reduceIte]
      rw [e] at h
      refine am_from (tb_Model_skip (ok_Model_peek hG) (by decide)) k_Model_skip 400 ?_
      simp only [q_Model_skip_2, q_Model_skip_36, r_Model_skip_0, r_Model_skip_1, r_Model_skip_2, r_Model_skip_3, r_Model_skip_6, r_Model_skip_7, r_Model_skip_8, r_Model_skip_11, r_Model_skip_12, r_Model_skip_13, r_Model_skip_15, r_Model_skip_18, r_Model_skip_19, r_Model_skip_21, r_Model_skip_24, r_Model_skip_25, r_Model_skip_27, r_Model_skip_30, r_Model_skip_31, r_Model_skip_34, r_Model_skip_35, r_Model_skip_36, r_Model_skip_37, r_Model_skip_39, r_Model_skip_42, r_Model_skip_43, r_Model_skip_44, r_Model_skip_47, r_Model_skip_50, r_Model_skip_51, r_Model_skip_52, r_Model_skip_55, r_Model_skip_57, r_Model_skip_60, r_Model_skip_61, r_Model_skip_62, r_Model_skip_65, r_Model_skip_66, r_Model_skip_67, r_Model_skip_70, r_Model_skip_73, r_Model_skip_74, r_Model_skip_76, r_Model_skip_79, r_Model_skip_80, r_Model_skip_82, r_Model_skip_85, r_Model_skip_86, r_Model_skip_87, r_Model_skip_90, r_Model_skip_91, r_Model_skip_92, r_Model_skip_95, r_Model_skip_98, ai_const, ai_istore, am_cut_0, am_cut_s, am_c1, ai_iload, ai_ifeq, ai_aload, ai_callv2, am_push, am_few, ai_cmpeq, ai_cmpne, ai_goto, ai_iflt, ai_getf, ai_iadd, ai_bin, ai_putf, ai_vret, kd_0, fd_0_0, fd_0_1, fd_0_2, fd_0_3, fd_0_4, kd_1, fd_1_0, fd_1_1, ln_2, kd_3, fd_3_0, fd_3_1, fd_3_2, fd_3_3, fd_3_4, fd_3_5, fd_3_6, fd_3_7, fd_3_8, fd_3_9, ln_4, ln_5, ln_6, ln_7, ln_8, ln_9, ln_10, kd_11, fd_11_0, fd_11_1, fd_11_2, fd_11_3, fd_11_4, kd_12, fd_12_0, fd_12_1, fd_12_2, fd_12_3, ln_13, ln_14, ln_15, kd_16, fd_16_0, fd_16_1, fd_16_2, ln_17, kd_18, fd_18_0, fd_18_1, kd_19, fd_19_0, fd_19_1, fd_19_2, fd_19_3, fd_19_4, fd_19_5, fd_19_6, fd_19_7, fd_19_8, fd_19_9, fd_19_10, fd_19_11, fd_19_12, fd_19_13, fd_19_14, fd_19_15, fd_19_16, fd_19_17, fd_19_18, fd_19_19, fd_19_20, ln_20, ln_21, ln_22, ln_23, ln_24, ln_25, ln_26, ln_27, ln_28, ln_29, ln_30, ln_31, ln_32, List.getElem?_cons_zero, List.getElem?_cons_succ, List.set_cons_zero, List.set_cons_succ, true_and, and_true, ↓reduceIte, Int32.reduceLT, Int32.reduceLE, li_10, or_true, true_or, ↓sp_Model_peek, htp, h0, c0, li59, lj59]
      exact B h
    · exact A c0 o2 h
set_option maxRecDepth 100000 in
set_option maxHeartbeats 4000000 in
theorem ok_Model_skip {G : aG} (hG : am_ok G) : am_Sp G Y_Model_skip 1 sp_Model_skip := by
  intro as M K h
  unfold sp_Model_skip at h
  split at h
  · next a =>
    obtain ⟨rfl, ⟨ht, hb, h1, h2⟩, h⟩ := h
    have e : M = am_up M 19 2 (nI (cl (M 19 2))) := by rw [← h1]; exact (am_up_id M 19 2).symm
    have L := (lp_Model_skip (K := K) hG ht hb (m_tl M - cl (M 19 2)) (cl (M 19 2)) (by omega)).1 none h
    rw [← e] at L
    refine am_entry hG (by decide +kernel) (Nat.le_of_ble_eq_true rfl) ?_
    refine am_go (cuts := k_Model_skip) (tb_Model_skip (ok_Model_peek hG) (by decide)) 400 _ _ _ _ ?_
    change am_run _ _ _ _ _ _ [some (.ref 19), none, none] [] _
    simp only [q_Model_skip_2, q_Model_skip_36, r_Model_skip_0, r_Model_skip_1, r_Model_skip_2, r_Model_skip_3, r_Model_skip_6, r_Model_skip_7, r_Model_skip_8, r_Model_skip_11, r_Model_skip_12, r_Model_skip_13, r_Model_skip_15, r_Model_skip_18, r_Model_skip_19, r_Model_skip_21, r_Model_skip_24, r_Model_skip_25, r_Model_skip_27, r_Model_skip_30, r_Model_skip_31, r_Model_skip_34, r_Model_skip_35, r_Model_skip_36, r_Model_skip_37, r_Model_skip_39, r_Model_skip_42, r_Model_skip_43, r_Model_skip_44, r_Model_skip_47, r_Model_skip_50, r_Model_skip_51, r_Model_skip_52, r_Model_skip_55, r_Model_skip_57, r_Model_skip_60, r_Model_skip_61, r_Model_skip_62, r_Model_skip_65, r_Model_skip_66, r_Model_skip_67, r_Model_skip_70, r_Model_skip_73, r_Model_skip_74, r_Model_skip_76, r_Model_skip_79, r_Model_skip_80, r_Model_skip_82, r_Model_skip_85, r_Model_skip_86, r_Model_skip_87, r_Model_skip_90, r_Model_skip_91, r_Model_skip_92, r_Model_skip_95, r_Model_skip_98, ai_const, ai_istore, am_cut_0, am_cut_s, am_c1, ai_iload, ai_ifeq, ai_aload, ai_callv2, am_push, am_few, ai_cmpeq, ai_cmpne, ai_goto, ai_iflt, ai_getf, ai_iadd, ai_bin, ai_putf, ai_vret, kd_0, fd_0_0, fd_0_1, fd_0_2, fd_0_3, fd_0_4, kd_1, fd_1_0, fd_1_1, ln_2, kd_3, fd_3_0, fd_3_1, fd_3_2, fd_3_3, fd_3_4, fd_3_5, fd_3_6, fd_3_7, fd_3_8, fd_3_9, ln_4, ln_5, ln_6, ln_7, ln_8, ln_9, ln_10, kd_11, fd_11_0, fd_11_1, fd_11_2, fd_11_3, fd_11_4, kd_12, fd_12_0, fd_12_1, fd_12_2, fd_12_3, ln_13, ln_14, ln_15, kd_16, fd_16_0, fd_16_1, fd_16_2, ln_17, kd_18, fd_18_0, fd_18_1, kd_19, fd_19_0, fd_19_1, fd_19_2, fd_19_3, fd_19_4, fd_19_5, fd_19_6, fd_19_7, fd_19_8, fd_19_9, fd_19_10, fd_19_11, fd_19_12, fd_19_13, fd_19_14, fd_19_15, fd_19_16, fd_19_17, fd_19_18, fd_19_19, fd_19_20, ln_20, ln_21, ln_22, ln_23, ln_24, ln_25, ln_26, ln_27, ln_28, ln_29, ln_30, ln_31, ln_32, List.getElem?_cons_zero, List.getElem?_cons_succ, List.set_cons_zero, List.set_cons_succ, true_and, and_true, ↓reduceIte, Int32.reduceLT, Int32.reduceLE, li_10, or_true, true_or, ↓sp_Model_peek]
    exact L
  · cases h
end
section
/-! THE REFERENCE: strings and tokens -/
def strK (K : aR) (M : aM) (e : Int32) : Prop := if e = -1 then K (some (.int 11)) M else K (some (.int 3)) (am_up M 19 2 e)
def sp_Model_string : aS := fun as M K => match as with
  | [.ref a] => a = 19 ∧ (mt_ok M ∧ at_ok M) ∧ strK K M (stE (M 20) (m_tl M) 21 (cl (M 19 2) + 1))
  | _ => False
theorem nI_ne {j : Nat} (h : j < 2 ^ 31) : ¬ nI j = -1 := by
  intro q
  have h1 := nI_pos h
  rw [q] at h1
  exact h1 (by decide)
set_option maxRecDepth 100000 in
set_option maxHeartbeats 4000000 in
theorem lp_Model_string {G : aG} (hG : am_ok G) {K : aR} {M : aM} {p : Nat} (ht : mt_ok M) (hp : M 19 2 = nI p) (hp4 : p ≤ 400) : ∀ (c k n : Nat) (o3 : Option Value), n + c = 20 → k ≤ 1 + 2 * n → strK K M (stE (M 20) (m_tl M) (c + 1) (p + k)) → am_X G Y_Model_string 1 K 4 [some (.ref 19), some (.int (nI k)), some (.int (nI n)), o3] [] M := by
  intro c
  have Hend : ∀ (k n : Nat) (o3 : Option Value), n ≤ 20 → k ≤ 1 + 2 * n → bt (M 20) (m_tl M) (p + k) = 34 → strK K M (nI (p + k + 1)) → am_X G Y_Model_string 1 K 4 [some (.ref 19), some (.int (nI k)), some (.int (nI n)), o3] [] M := by
    intro k n o3 hn hk h34 h
    have hpk : m_at M (nI k) = 34 := by rw [m_at_bt ht hp (by omega), h34]
    have c1 : (m_at M (nI k) = 34) = True := eq_true hpk
    unfold strK at h
    rw [if_neg (nI_ne (by omega))] at h
    have e : M 19 2 + nI k + 1 = nI (p + k + 1) := by rw [hp, nI_add, nI_1]
    refine am_from (tb_Model_string (ok_Model_peek hG) (by decide)) k_Model_string 400 ?_
    simp only [q_Model_string_4, r_Model_string_0, r_Model_string_1, r_Model_string_2, r_Model_string_3, r_Model_string_4, r_Model_string_5, r_Model_string_6, r_Model_string_9, r_Model_string_11, r_Model_string_14, r_Model_string_15, r_Model_string_16, r_Model_string_19, r_Model_string_20, r_Model_string_21, r_Model_string_23, r_Model_string_26, r_Model_string_27, r_Model_string_29, r_Model_string_32, r_Model_string_33, r_Model_string_35, r_Model_string_38, r_Model_string_40, r_Model_string_41, r_Model_string_42, r_Model_string_44, r_Model_string_47, r_Model_string_48, r_Model_string_49, r_Model_string_50, r_Model_string_51, r_Model_string_52, r_Model_string_53, r_Model_string_56, r_Model_string_58, r_Model_string_61, r_Model_string_62, r_Model_string_63, r_Model_string_66, r_Model_string_68, r_Model_string_71, r_Model_string_73, r_Model_string_74, r_Model_string_75, r_Model_string_76, r_Model_string_77, r_Model_string_78, r_Model_string_79, r_Model_string_80, r_Model_string_81, r_Model_string_82, r_Model_string_85, r_Model_string_86, r_Model_string_87, r_Model_string_90, r_Model_string_91, r_Model_string_92, r_Model_string_93, r_Model_string_94, r_Model_string_97, r_Model_string_98, ai_const, ai_istore, am_cut_0, am_cut_s, am_c1, ai_aload, ai_iload, ai_callv2, am_push, am_few, ai_cmpeq, ai_cmplt, ai_cmpgt, ai_cmpne, ai_iret, ai_iadd, ai_bin, ai_goto, ai_getf, ai_putf, kd_0, fd_0_0, fd_0_1, fd_0_2, fd_0_3, fd_0_4, kd_1, fd_1_0, fd_1_1, ln_2, kd_3, fd_3_0, fd_3_1, fd_3_2, fd_3_3, fd_3_4, fd_3_5, fd_3_6, fd_3_7, fd_3_8, fd_3_9, ln_4, ln_5, ln_6, ln_7, ln_8, ln_9, ln_10, kd_11, fd_11_0, fd_11_1, fd_11_2, fd_11_3, fd_11_4, kd_12, fd_12_0, fd_12_1, fd_12_2, fd_12_3, ln_13, ln_14, ln_15, kd_16, fd_16_0, fd_16_1, fd_16_2, ln_17, kd_18, fd_18_0, fd_18_1, kd_19, fd_19_0, fd_19_1, fd_19_2, fd_19_3, fd_19_4, fd_19_5, fd_19_6, fd_19_7, fd_19_8, fd_19_9, fd_19_10, fd_19_11, fd_19_12, fd_19_13, fd_19_14, fd_19_15, fd_19_16, fd_19_17, fd_19_18, fd_19_19, fd_19_20, ln_20, ln_21, ln_22, ln_23, ln_24, ln_25, ln_26, ln_27, ln_28, ln_29, ln_30, ln_31, ln_32, List.getElem?_cons_zero, List.getElem?_cons_succ, List.set_cons_zero, List.set_cons_succ, true_and, and_true, ↓reduceIte, Int32.reduceLT, Int32.reduceLE, li_10, or_true, true_or, ↓sp_Model_peek, ht, c1, e]
    exact h
  have Hbad : ∀ (k n : Nat) (o3 : Option Value), n ≤ 20 → k ≤ 1 + 2 * n → ¬ bt (M 20) (m_tl M) (p + k) = 34 → (bt (M 20) (m_tl M) (p + k) < 32 ∨ 126 < bt (M 20) (m_tl M) (p + k) ∨ n = 20) → K (some (.int 11)) M → am_X G Y_Model_string 1 K 4 [some (.ref 19), some (.int (nI k)), some (.int (nI n)), o3] [] M := by
    intro k n o3 hn hk h34 hc h
    have hpk : m_at M (nI k) = bt (M 20) (m_tl M) (p + k) := m_at_bt ht hp (by omega)
    rw [← hpk] at h34 hc
    by_cases d1 : m_at M (nI k) < 32
    · refine am_from (tb_Model_string (ok_Model_peek hG) (by decide)) k_Model_string 400 ?_
      simp only [q_Model_string_4, r_Model_string_0, r_Model_string_1, r_Model_string_2, r_Model_string_3, r_Model_string_4, r_Model_string_5, r_Model_string_6, r_Model_string_9, r_Model_string_11, r_Model_string_14, r_Model_string_15, r_Model_string_16, r_Model_string_19, r_Model_string_20, r_Model_string_21, r_Model_string_23, r_Model_string_26, r_Model_string_27, r_Model_string_29, r_Model_string_32, r_Model_string_33, r_Model_string_35, r_Model_string_38, r_Model_string_40, r_Model_string_41, r_Model_string_42, r_Model_string_44, r_Model_string_47, r_Model_string_48, r_Model_string_49, r_Model_string_50, r_Model_string_51, r_Model_string_52, r_Model_string_53, r_Model_string_56, r_Model_string_58, r_Model_string_61, r_Model_string_62, r_Model_string_63, r_Model_string_66, r_Model_string_68, r_Model_string_71, r_Model_string_73, r_Model_string_74, r_Model_string_75, r_Model_string_76, r_Model_string_77, r_Model_string_78, r_Model_string_79, r_Model_string_80, r_Model_string_81, r_Model_string_82, r_Model_string_85, r_Model_string_86, r_Model_string_87, r_Model_string_90, r_Model_string_91, r_Model_string_92, r_Model_string_93, r_Model_string_94, r_Model_string_97, r_Model_string_98, ai_const, ai_istore, am_cut_0, am_cut_s, am_c1, ai_aload, ai_iload, ai_callv2, am_push, am_few, ai_cmpeq, ai_cmplt, ai_cmpgt, ai_cmpne, ai_iret, ai_iadd, ai_bin, ai_goto, ai_getf, ai_putf, kd_0, fd_0_0, fd_0_1, fd_0_2, fd_0_3, fd_0_4, kd_1, fd_1_0, fd_1_1, ln_2, kd_3, fd_3_0, fd_3_1, fd_3_2, fd_3_3, fd_3_4, fd_3_5, fd_3_6, fd_3_7, fd_3_8, fd_3_9, ln_4, ln_5, ln_6, ln_7, ln_8, ln_9, ln_10, kd_11, fd_11_0, fd_11_1, fd_11_2, fd_11_3, fd_11_4, kd_12, fd_12_0, fd_12_1, fd_12_2, fd_12_3, ln_13, ln_14, ln_15, kd_16, fd_16_0, fd_16_1, fd_16_2, ln_17, kd_18, fd_18_0, fd_18_1, kd_19, fd_19_0, fd_19_1, fd_19_2, fd_19_3, fd_19_4, fd_19_5, fd_19_6, fd_19_7, fd_19_8, fd_19_9, fd_19_10, fd_19_11, fd_19_12, fd_19_13, fd_19_14, fd_19_15, fd_19_16, fd_19_17, fd_19_18, fd_19_19, fd_19_20, ln_20, ln_21, ln_22, ln_23, ln_24, ln_25, ln_26, ln_27, ln_28, ln_29, ln_30, ln_31, ln_32, List.getElem?_cons_zero, List.getElem?_cons_succ, List.set_cons_zero, List.set_cons_succ, true_and, and_true, ↓reduceIte, Int32.reduceLT, Int32.reduceLE, li_10, or_true, true_or, ↓sp_Model_peek, ht, h34, d1]
      exact h
    by_cases d2 : 126 < m_at M (nI k)
    · refine am_from (tb_Model_string (ok_Model_peek hG) (by decide)) k_Model_string 400 ?_
      simp only [q_Model_string_4, r_Model_string_0, r_Model_string_1, r_Model_string_2, r_Model_string_3, r_Model_string_4, r_Model_string_5, r_Model_string_6, r_Model_string_9, r_Model_string_11, r_Model_string_14, r_Model_string_15, r_Model_string_16, r_Model_string_19, r_Model_string_20, r_Model_string_21, r_Model_string_23, r_Model_string_26, r_Model_string_27, r_Model_string_29, r_Model_string_32, r_Model_string_33, r_Model_string_35, r_Model_string_38, r_Model_string_40, r_Model_string_41, r_Model_string_42, r_Model_string_44, r_Model_string_47, r_Model_string_48, r_Model_string_49, r_Model_string_50, r_Model_string_51, r_Model_string_52, r_Model_string_53, r_Model_string_56, r_Model_string_58, r_Model_string_61, r_Model_string_62, r_Model_string_63, r_Model_string_66, r_Model_string_68, r_Model_string_71, r_Model_string_73, r_Model_string_74, r_Model_string_75, r_Model_string_76, r_Model_string_77, r_Model_string_78, r_Model_string_79, r_Model_string_80, r_Model_string_81, r_Model_string_82, r_Model_string_85, r_Model_string_86, r_Model_string_87, r_Model_string_90, r_Model_string_91, r_Model_string_92, r_Model_string_93, r_Model_string_94, r_Model_string_97, r_Model_string_98, ai_const, ai_istore, am_cut_0, am_cut_s, am_c1, ai_aload, ai_iload, ai_callv2, am_push, am_few, ai_cmpeq, ai_cmplt, ai_cmpgt, ai_cmpne, ai_iret, ai_iadd, ai_bin, ai_goto, ai_getf, ai_putf, kd_0, fd_0_0, fd_0_1, fd_0_2, fd_0_3, fd_0_4, kd_1, fd_1_0, fd_1_1, ln_2, kd_3, fd_3_0, fd_3_1, fd_3_2, fd_3_3, fd_3_4, fd_3_5, fd_3_6, fd_3_7, fd_3_8, fd_3_9, ln_4, ln_5, ln_6, ln_7, ln_8, ln_9, ln_10, kd_11, fd_11_0, fd_11_1, fd_11_2, fd_11_3, fd_11_4, kd_12, fd_12_0, fd_12_1, fd_12_2, fd_12_3, ln_13, ln_14, ln_15, kd_16, fd_16_0, fd_16_1, fd_16_2, ln_17, kd_18, fd_18_0, fd_18_1, kd_19, fd_19_0, fd_19_1, fd_19_2, fd_19_3, fd_19_4, fd_19_5, fd_19_6, fd_19_7, fd_19_8, fd_19_9, fd_19_10, fd_19_11, fd_19_12, fd_19_13, fd_19_14, fd_19_15, fd_19_16, fd_19_17, fd_19_18, fd_19_19, fd_19_20, ln_20, ln_21, ln_22, ln_23, ln_24, ln_25, ln_26, ln_27, ln_28, ln_29, ln_30, ln_31, ln_32, List.getElem?_cons_zero, List.getElem?_cons_succ, List.set_cons_zero, List.set_cons_succ, true_and, and_true, ↓reduceIte, Int32.reduceLT, Int32.reduceLE, li_10, or_true, true_or, ↓sp_Model_peek, ht, h34, d1, d2]
      exact h
    have hn20 : n = 20 := by
      rcases hc with q | q | q
      · exact absurd q d1
      · exact absurd q d2
      · exact q
    have d3 : (nI n = 20) = True := eq_true (by rw [hn20]; rfl)
    refine am_from (tb_Model_string (ok_Model_peek hG) (by decide)) k_Model_string 400 ?_
    simp only [q_Model_string_4, r_Model_string_0, r_Model_string_1, r_Model_string_2, r_Model_string_3, r_Model_string_4, r_Model_string_5, r_Model_string_6, r_Model_string_9, r_Model_string_11, r_Model_string_14, r_Model_string_15, r_Model_string_16, r_Model_string_19, r_Model_string_20, r_Model_string_21, r_Model_string_23, r_Model_string_26, r_Model_string_27, r_Model_string_29, r_Model_string_32, r_Model_string_33, r_Model_string_35, r_Model_string_38, r_Model_string_40, r_Model_string_41, r_Model_string_42, r_Model_string_44, r_Model_string_47, r_Model_string_48, r_Model_string_49, r_Model_string_50, r_Model_string_51, r_Model_string_52, r_Model_string_53, r_Model_string_56, r_Model_string_58, r_Model_string_61, r_Model_string_62, r_Model_string_63, r_Model_string_66, r_Model_string_68, r_Model_string_71, r_Model_string_73, r_Model_string_74, r_Model_string_75, r_Model_string_76, r_Model_string_77, r_Model_string_78, r_Model_string_79, r_Model_string_80, r_Model_string_81, r_Model_string_82, r_Model_string_85, r_Model_string_86, r_Model_string_87, r_Model_string_90, r_Model_string_91, r_Model_string_92, r_Model_string_93, r_Model_string_94, r_Model_string_97, r_Model_string_98, ai_const, ai_istore, am_cut_0, am_cut_s, am_c1, ai_aload, ai_iload, ai_callv2, am_push, am_few, ai_cmpeq, ai_cmplt, ai_cmpgt, ai_cmpne, ai_iret, ai_iadd, ai_bin, ai_goto, ai_getf, ai_putf, kd_0, fd_0_0, fd_0_1, fd_0_2, fd_0_3, fd_0_4, kd_1, fd_1_0, fd_1_1, ln_2, kd_3, fd_3_0, fd_3_1, fd_3_2, fd_3_3, fd_3_4, fd_3_5, fd_3_6, fd_3_7, fd_3_8, fd_3_9, ln_4, ln_5, ln_6, ln_7, ln_8, ln_9, ln_10, kd_11, fd_11_0, fd_11_1, fd_11_2, fd_11_3, fd_11_4, kd_12, fd_12_0, fd_12_1, fd_12_2, fd_12_3, ln_13, ln_14, ln_15, kd_16, fd_16_0, fd_16_1, fd_16_2, ln_17, kd_18, fd_18_0, fd_18_1, kd_19, fd_19_0, fd_19_1, fd_19_2, fd_19_3, fd_19_4, fd_19_5, fd_19_6, fd_19_7, fd_19_8, fd_19_9, fd_19_10, fd_19_11, fd_19_12, fd_19_13, fd_19_14, fd_19_15, fd_19_16, fd_19_17, fd_19_18, fd_19_19, fd_19_20, ln_20, ln_21, ln_22, ln_23, ln_24, ln_25, ln_26, ln_27, ln_28, ln_29, ln_30, ln_31, ln_32, List.getElem?_cons_zero, List.getElem?_cons_succ, List.set_cons_zero, List.set_cons_succ, true_and, and_true, ↓reduceIte, Int32.reduceLT, Int32.reduceLE, li_10, or_true, true_or, ↓sp_Model_peek, ht, h34, d1, d2, d3]
    exact h
  induction c with
  | zero =>
    intro k n o3 hn hk h
    by_cases c1 : bt (M 20) (m_tl M) (p + k) = 34
    · simp only [stE, c1, ↓reduceIte] at h
      exact Hend k n o3 (by omega) hk c1 h
    · refine Hbad k n o3 (by omega) hk c1 (Or.inr (Or.inr (by omega))) ?_
      have e : stE (M 20) (m_tl M) (0 + 1) (p + k) = -1 := by
        simp only [stE, c1, ↓reduceIte]
        (repeat' split) <;> rfl
      rw [e] at h
      unfold strK at h
      rw [if_pos rfl] at h
      exact h
  | succ c ih =>
    intro k n o3 hn hk h
    by_cases c1 : bt (M 20) (m_tl M) (p + k) = 34
    · have e : stE (M 20) (m_tl M) (c + 1 + 1) (p + k) = nI (p + k + 1) := by
        rw [stE, if_pos c1]
      rw [e] at h
      exact Hend k n o3 (by omega) hk c1 h
    rw [stE, if_neg c1] at h
    have hpk : m_at M (nI k) = bt (M 20) (m_tl M) (p + k) := m_at_bt ht hp (by omega)
    have hpk1 : m_at M (nI (k + 1)) = bt (M 20) (m_tl M) (p + k + 1) := by rw [m_at_bt ht hp (by omega)]; rfl
    have c1m : ¬ m_at M (nI k) = 34 := by rw [hpk]; exact c1
    have d3 : ¬ nI n = 20 := fun q => by
      have := (nI_eq (a := n) (b := 20) (by omega) (by decide)).mp q
      omega
    by_cases c2 : bt (M 20) (m_tl M) (p + k) = 92
    · rw [if_pos c2] at h
      have c2m : (m_at M (nI k) = 92) = True := eq_true (by rw [hpk]; exact c2)
      have d1 : ¬ m_at M (nI k) < 32 := by rw [hpk, c2]; decide
      have d2 : ¬ 126 < m_at M (nI k) := by rw [hpk, c2]; decide
      by_cases c3 : bt (M 20) (m_tl M) (p + k + 1) = 34
      · rw [if_pos c3] at h
        have c3m : (m_at M (nI (k + 1)) = 34) = True := eq_true (by rw [hpk1]; exact c3)
        refine am_from (tb_Model_string (ok_Model_peek hG) (by decide)) k_Model_string 400 ?_
        simp only [q_Model_string_4, r_Model_string_0, r_Model_string_1, r_Model_string_2, r_Model_string_3, r_Model_string_4, r_Model_string_5, r_Model_string_6, r_Model_string_9, r_Model_string_11, r_Model_string_14, r_Model_string_15, r_Model_string_16, r_Model_string_19, r_Model_string_20, r_Model_string_21, r_Model_string_23, r_Model_string_26, r_Model_string_27, r_Model_string_29, r_Model_string_32, r_Model_string_33, r_Model_string_35, r_Model_string_38, r_Model_string_40, r_Model_string_41, r_Model_string_42, r_Model_string_44, r_Model_string_47, r_Model_string_48, r_Model_string_49, r_Model_string_50, r_Model_string_51, r_Model_string_52, r_Model_string_53, r_Model_string_56, r_Model_string_58, r_Model_string_61, r_Model_string_62, r_Model_string_63, r_Model_string_66, r_Model_string_68, r_Model_string_71, r_Model_string_73, r_Model_string_74, r_Model_string_75, r_Model_string_76, r_Model_string_77, r_Model_string_78, r_Model_string_79, r_Model_string_80, r_Model_string_81, r_Model_string_82, r_Model_string_85, r_Model_string_86, r_Model_string_87, r_Model_string_90, r_Model_string_91, r_Model_string_92, r_Model_string_93, r_Model_string_94, r_Model_string_97, r_Model_string_98, ai_const, ai_istore, am_cut_0, am_cut_s, am_c1, ai_aload, ai_iload, ai_callv2, am_push, am_few, ai_cmpeq, ai_cmplt, ai_cmpgt, ai_cmpne, ai_iret, ai_iadd, ai_bin, ai_goto, ai_getf, ai_putf, kd_0, fd_0_0, fd_0_1, fd_0_2, fd_0_3, fd_0_4, kd_1, fd_1_0, fd_1_1, ln_2, kd_3, fd_3_0, fd_3_1, fd_3_2, fd_3_3, fd_3_4, fd_3_5, fd_3_6, fd_3_7, fd_3_8, fd_3_9, ln_4, ln_5, ln_6, ln_7, ln_8, ln_9, ln_10, kd_11, fd_11_0, fd_11_1, fd_11_2, fd_11_3, fd_11_4, kd_12, fd_12_0, fd_12_1, fd_12_2, fd_12_3, ln_13, ln_14, ln_15, kd_16, fd_16_0, fd_16_1, fd_16_2, ln_17, kd_18, fd_18_0, fd_18_1, kd_19, fd_19_0, fd_19_1, fd_19_2, fd_19_3, fd_19_4, fd_19_5, fd_19_6, fd_19_7, fd_19_8, fd_19_9, fd_19_10, fd_19_11, fd_19_12, fd_19_13, fd_19_14, fd_19_15, fd_19_16, fd_19_17, fd_19_18, fd_19_19, fd_19_20, ln_20, ln_21, ln_22, ln_23, ln_24, ln_25, ln_26, ln_27, ln_28, ln_29, ln_30, ln_31, ln_32, List.getElem?_cons_zero, List.getElem?_cons_succ, List.set_cons_zero, List.set_cons_succ, true_and, and_true, ↓reduceIte, Int32.reduceLT, Int32.reduceLE, li_10, or_true, true_or, ↓sp_Model_peek, ht, c1m, c2m, d1, d2, d3, nI_1, c3m]
        exact ih (k + 1 + 1) (n + 1) _ (by omega) (by omega) h
      rw [if_neg c3] at h
      have c3m : ¬ m_at M (nI (k + 1)) = 34 := by rw [hpk1]; exact c3
      by_cases c4 : bt (M 20) (m_tl M) (p + k + 1) = 92
      · rw [if_pos c4] at h
        have c4m : (m_at M (nI (k + 1)) = 92) = True := eq_true (by rw [hpk1]; exact c4)
        refine am_from (tb_Model_string (ok_Model_peek hG) (by decide)) k_Model_string 400 ?_
        simp only [q_Model_string_4, r_Model_string_0, r_Model_string_1, r_Model_string_2, r_Model_string_3, r_Model_string_4, r_Model_string_5, r_Model_string_6, r_Model_string_9, r_Model_string_11, r_Model_string_14, r_Model_string_15, r_Model_string_16, r_Model_string_19, r_Model_string_20, r_Model_string_21, r_Model_string_23, r_Model_string_26, r_Model_string_27, r_Model_string_29, r_Model_string_32, r_Model_string_33, r_Model_string_35, r_Model_string_38, r_Model_string_40, r_Model_string_41, r_Model_string_42, r_Model_string_44, r_Model_string_47, r_Model_string_48, r_Model_string_49, r_Model_string_50, r_Model_string_51, r_Model_string_52, r_Model_string_53, r_Model_string_56, r_Model_string_58, r_Model_string_61, r_Model_string_62, r_Model_string_63, r_Model_string_66, r_Model_string_68, r_Model_string_71, r_Model_string_73, r_Model_string_74, r_Model_string_75, r_Model_string_76, r_Model_string_77, r_Model_string_78, r_Model_string_79, r_Model_string_80, r_Model_string_81, r_Model_string_82, r_Model_string_85, r_Model_string_86, r_Model_string_87, r_Model_string_90, r_Model_string_91, r_Model_string_92, r_Model_string_93, r_Model_string_94, r_Model_string_97, r_Model_string_98, ai_const, ai_istore, am_cut_0, am_cut_s, am_c1, ai_aload, ai_iload, ai_callv2, am_push, am_few, ai_cmpeq, ai_cmplt, ai_cmpgt, ai_cmpne, ai_iret, ai_iadd, ai_bin, ai_goto, ai_getf, ai_putf, kd_0, fd_0_0, fd_0_1, fd_0_2, fd_0_3, fd_0_4, kd_1, fd_1_0, fd_1_1, ln_2, kd_3, fd_3_0, fd_3_1, fd_3_2, fd_3_3, fd_3_4, fd_3_5, fd_3_6, fd_3_7, fd_3_8, fd_3_9, ln_4, ln_5, ln_6, ln_7, ln_8, ln_9, ln_10, kd_11, fd_11_0, fd_11_1, fd_11_2, fd_11_3, fd_11_4, kd_12, fd_12_0, fd_12_1, fd_12_2, fd_12_3, ln_13, ln_14, ln_15, kd_16, fd_16_0, fd_16_1, fd_16_2, ln_17, kd_18, fd_18_0, fd_18_1, kd_19, fd_19_0, fd_19_1, fd_19_2, fd_19_3, fd_19_4, fd_19_5, fd_19_6, fd_19_7, fd_19_8, fd_19_9, fd_19_10, fd_19_11, fd_19_12, fd_19_13, fd_19_14, fd_19_15, fd_19_16, fd_19_17, fd_19_18, fd_19_19, fd_19_20, ln_20, ln_21, ln_22, ln_23, ln_24, ln_25, ln_26, ln_27, ln_28, ln_29, ln_30, ln_31, ln_32, List.getElem?_cons_zero, List.getElem?_cons_succ, List.set_cons_zero, List.set_cons_succ, true_and, and_true, ↓reduceIte, Int32.reduceLT, Int32.reduceLE, li_10, or_true, true_or, ↓sp_Model_peek, ht, c1m, c2m, d1, d2, d3, nI_1, c3m, c4m]
        exact ih (k + 1 + 1) (n + 1) _ (by omega) (by omega) h
      · rw [if_neg c4] at h
        have c4m : ¬ m_at M (nI (k + 1)) = 92 := by rw [hpk1]; exact c4
        unfold strK at h
        rw [if_pos rfl] at h
        refine am_from (tb_Model_string (ok_Model_peek hG) (by decide)) k_Model_string 400 ?_
        simp only [q_Model_string_4, r_Model_string_0, r_Model_string_1, r_Model_string_2, r_Model_string_3, r_Model_string_4, r_Model_string_5, r_Model_string_6, r_Model_string_9, r_Model_string_11, r_Model_string_14, r_Model_string_15, r_Model_string_16, r_Model_string_19, r_Model_string_20, r_Model_string_21, r_Model_string_23, r_Model_string_26, r_Model_string_27, r_Model_string_29, r_Model_string_32, r_Model_string_33, r_Model_string_35, r_Model_string_38, r_Model_string_40, r_Model_string_41, r_Model_string_42, r_Model_string_44, r_Model_string_47, r_Model_string_48, r_Model_string_49, r_Model_string_50, r_Model_string_51, r_Model_string_52, r_Model_string_53, r_Model_string_56, r_Model_string_58, r_Model_string_61, r_Model_string_62, r_Model_string_63, r_Model_string_66, r_Model_string_68, r_Model_string_71, r_Model_string_73, r_Model_string_74, r_Model_string_75, r_Model_string_76, r_Model_string_77, r_Model_string_78, r_Model_string_79, r_Model_string_80, r_Model_string_81, r_Model_string_82, r_Model_string_85, r_Model_string_86, r_Model_string_87, r_Model_string_90, r_Model_string_91, r_Model_string_92, r_Model_string_93, r_Model_string_94, r_Model_string_97, r_Model_string_98, ai_const, ai_istore, am_cut_0, am_cut_s, am_c1, ai_aload, ai_iload, ai_callv2, am_push, am_few, ai_cmpeq, ai_cmplt, ai_cmpgt, ai_cmpne, ai_iret, ai_iadd, ai_bin, ai_goto, ai_getf, ai_putf, kd_0, fd_0_0, fd_0_1, fd_0_2, fd_0_3, fd_0_4, kd_1, fd_1_0, fd_1_1, ln_2, kd_3, fd_3_0, fd_3_1, fd_3_2, fd_3_3, fd_3_4, fd_3_5, fd_3_6, fd_3_7, fd_3_8, fd_3_9, ln_4, ln_5, ln_6, ln_7, ln_8, ln_9, ln_10, kd_11, fd_11_0, fd_11_1, fd_11_2, fd_11_3, fd_11_4, kd_12, fd_12_0, fd_12_1, fd_12_2, fd_12_3, ln_13, ln_14, ln_15, kd_16, fd_16_0, fd_16_1, fd_16_2, ln_17, kd_18, fd_18_0, fd_18_1, kd_19, fd_19_0, fd_19_1, fd_19_2, fd_19_3, fd_19_4, fd_19_5, fd_19_6, fd_19_7, fd_19_8, fd_19_9, fd_19_10, fd_19_11, fd_19_12, fd_19_13, fd_19_14, fd_19_15, fd_19_16, fd_19_17, fd_19_18, fd_19_19, fd_19_20, ln_20, ln_21, ln_22, ln_23, ln_24, ln_25, ln_26, ln_27, ln_28, ln_29, ln_30, ln_31, ln_32, List.getElem?_cons_zero, List.getElem?_cons_succ, List.set_cons_zero, List.set_cons_succ, true_and, and_true, ↓reduceIte, Int32.reduceLT, Int32.reduceLE, li_10, or_true, true_or, ↓sp_Model_peek, ht, c1m, c2m, d1, d2, d3, nI_1, c3m, c4m]
        exact h
    rw [if_neg c2] at h
    have c2m : ¬ m_at M (nI k) = 92 := by rw [hpk]; exact c2
    by_cases c5 : bt (M 20) (m_tl M) (p + k) < 32
    · rw [if_pos c5] at h
      unfold strK at h
      rw [if_pos rfl] at h
      exact Hbad k n o3 (by omega) hk c1 (Or.inl c5) h
    rw [if_neg c5] at h
    by_cases c6 : 126 < bt (M 20) (m_tl M) (p + k)
    · rw [if_pos c6] at h
      unfold strK at h
      rw [if_pos rfl] at h
      exact Hbad k n o3 (by omega) hk c1 (Or.inr (Or.inl c6)) h
    rw [if_neg c6] at h
    have d1 : ¬ m_at M (nI k) < 32 := by rw [hpk]; exact c5
    have d2 : ¬ 126 < m_at M (nI k) := by rw [hpk]; exact c6
    refine am_from (tb_Model_string (ok_Model_peek hG) (by decide)) k_Model_string 400 ?_
    simp only [q_Model_string_4, r_Model_string_0, r_Model_string_1, r_Model_string_2, r_Model_string_3, r_Model_string_4, r_Model_string_5, r_Model_string_6, r_Model_string_9, r_Model_string_11, r_Model_string_14, r_Model_string_15, r_Model_string_16, r_Model_string_19, r_Model_string_20, r_Model_string_21, r_Model_string_23, r_Model_string_26, r_Model_string_27, r_Model_string_29, r_Model_string_32, r_Model_string_33, r_Model_string_35, r_Model_string_38, r_Model_string_40, r_Model_string_41, r_Model_string_42, r_Model_string_44, r_Model_string_47, r_Model_string_48, r_Model_string_49, r_Model_string_50, r_Model_string_51, r_Model_string_52, r_Model_string_53, r_Model_string_56, r_Model_string_58, r_Model_string_61, r_Model_string_62, r_Model_string_63, r_Model_string_66, r_Model_string_68, r_Model_string_71, r_Model_string_73, r_Model_string_74, r_Model_string_75, r_Model_string_76, r_Model_string_77, r_Model_string_78, r_Model_string_79, r_Model_string_80, r_Model_string_81, r_Model_string_82, r_Model_string_85, r_Model_string_86, r_Model_string_87, r_Model_string_90, r_Model_string_91, r_Model_string_92, r_Model_string_93, r_Model_string_94, r_Model_string_97, r_Model_string_98, ai_const, ai_istore, am_cut_0, am_cut_s, am_c1, ai_aload, ai_iload, ai_callv2, am_push, am_few, ai_cmpeq, ai_cmplt, ai_cmpgt, ai_cmpne, ai_iret, ai_iadd, ai_bin, ai_goto, ai_getf, ai_putf, kd_0, fd_0_0, fd_0_1, fd_0_2, fd_0_3, fd_0_4, kd_1, fd_1_0, fd_1_1, ln_2, kd_3, fd_3_0, fd_3_1, fd_3_2, fd_3_3, fd_3_4, fd_3_5, fd_3_6, fd_3_7, fd_3_8, fd_3_9, ln_4, ln_5, ln_6, ln_7, ln_8, ln_9, ln_10, kd_11, fd_11_0, fd_11_1, fd_11_2, fd_11_3, fd_11_4, kd_12, fd_12_0, fd_12_1, fd_12_2, fd_12_3, ln_13, ln_14, ln_15, kd_16, fd_16_0, fd_16_1, fd_16_2, ln_17, kd_18, fd_18_0, fd_18_1, kd_19, fd_19_0, fd_19_1, fd_19_2, fd_19_3, fd_19_4, fd_19_5, fd_19_6, fd_19_7, fd_19_8, fd_19_9, fd_19_10, fd_19_11, fd_19_12, fd_19_13, fd_19_14, fd_19_15, fd_19_16, fd_19_17, fd_19_18, fd_19_19, fd_19_20, ln_20, ln_21, ln_22, ln_23, ln_24, ln_25, ln_26, ln_27, ln_28, ln_29, ln_30, ln_31, ln_32, List.getElem?_cons_zero, List.getElem?_cons_succ, List.set_cons_zero, List.set_cons_succ, true_and, and_true, ↓reduceIte, Int32.reduceLT, Int32.reduceLE, li_10, or_true, true_or, ↓sp_Model_peek, ht, c1m, c2m, d1, d2, d3, nI_1]
    exact ih (k + 1) (n + 1) _ (by omega) (by omega) h
set_option maxRecDepth 100000 in
set_option maxHeartbeats 4000000 in
theorem ok_Model_string {G : aG} (hG : am_ok G) : am_Sp G Y_Model_string 1 sp_Model_string := by
  intro as M K h
  unfold sp_Model_string at h
  split at h
  · next a =>
    obtain ⟨rfl, ⟨ht, h1, h2⟩, h⟩ := h
    refine am_entry hG (by decide +kernel) (Nat.le_of_ble_eq_true rfl) ?_
    refine am_go (cuts := k_Model_string) (tb_Model_string (ok_Model_peek hG) (by decide)) 400 _ _ _ _ ?_
    change am_run _ _ _ _ _ _ [some (.ref 19), none, none, none] [] _
    simp only [q_Model_string_4, r_Model_string_0, r_Model_string_1, r_Model_string_2, r_Model_string_3, r_Model_string_4, r_Model_string_5, r_Model_string_6, r_Model_string_9, r_Model_string_11, r_Model_string_14, r_Model_string_15, r_Model_string_16, r_Model_string_19, r_Model_string_20, r_Model_string_21, r_Model_string_23, r_Model_string_26, r_Model_string_27, r_Model_string_29, r_Model_string_32, r_Model_string_33, r_Model_string_35, r_Model_string_38, r_Model_string_40, r_Model_string_41, r_Model_string_42, r_Model_string_44, r_Model_string_47, r_Model_string_48, r_Model_string_49, r_Model_string_50, r_Model_string_51, r_Model_string_52, r_Model_string_53, r_Model_string_56, r_Model_string_58, r_Model_string_61, r_Model_string_62, r_Model_string_63, r_Model_string_66, r_Model_string_68, r_Model_string_71, r_Model_string_73, r_Model_string_74, r_Model_string_75, r_Model_string_76, r_Model_string_77, r_Model_string_78, r_Model_string_79, r_Model_string_80, r_Model_string_81, r_Model_string_82, r_Model_string_85, r_Model_string_86, r_Model_string_87, r_Model_string_90, r_Model_string_91, r_Model_string_92, r_Model_string_93, r_Model_string_94, r_Model_string_97, r_Model_string_98, ai_const, ai_istore, am_cut_0, am_cut_s, am_c1, ai_aload, ai_iload, ai_callv2, am_push, am_few, ai_cmpeq, ai_cmplt, ai_cmpgt, ai_cmpne, ai_iret, ai_iadd, ai_bin, ai_goto, ai_getf, ai_putf, kd_0, fd_0_0, fd_0_1, fd_0_2, fd_0_3, fd_0_4, kd_1, fd_1_0, fd_1_1, ln_2, kd_3, fd_3_0, fd_3_1, fd_3_2, fd_3_3, fd_3_4, fd_3_5, fd_3_6, fd_3_7, fd_3_8, fd_3_9, ln_4, ln_5, ln_6, ln_7, ln_8, ln_9, ln_10, kd_11, fd_11_0, fd_11_1, fd_11_2, fd_11_3, fd_11_4, kd_12, fd_12_0, fd_12_1, fd_12_2, fd_12_3, ln_13, ln_14, ln_15, kd_16, fd_16_0, fd_16_1, fd_16_2, ln_17, kd_18, fd_18_0, fd_18_1, kd_19, fd_19_0, fd_19_1, fd_19_2, fd_19_3, fd_19_4, fd_19_5, fd_19_6, fd_19_7, fd_19_8, fd_19_9, fd_19_10, fd_19_11, fd_19_12, fd_19_13, fd_19_14, fd_19_15, fd_19_16, fd_19_17, fd_19_18, fd_19_19, fd_19_20, ln_20, ln_21, ln_22, ln_23, ln_24, ln_25, ln_26, ln_27, ln_28, ln_29, ln_30, ln_31, ln_32, List.getElem?_cons_zero, List.getElem?_cons_succ, List.set_cons_zero, List.set_cons_succ, true_and, and_true, ↓reduceIte, Int32.reduceLT, Int32.reduceLE, li_10, or_true, true_or, ↓sp_Model_peek]
    exact lp_Model_string hG ht h1 (by have := ht.2; omega) 20 1 0 none rfl (by omega) h
  · cases h
/-- a word of n bytes that begins with c: number, name or none -/
def wkd (c : Int32) (n : Nat) (dg : Bool) : Int32 := if dg = true then (if 0 < (if c = 45 then n - 1 else n) then (if (if c = 45 then n - 1 else n) < 10 then 1 else 11) else 11) else if bgB c = true then (if 12 < n then 11 else 2) else 11
/-- a token: its place, its kind, where the next one is sought -/
def vw (M : aM) : aM := fun i => match i with
  | 1 => fun _ => M 19 1
  | 2 => M 20
  | _ => fun _ => 0
def tkP (M : aM) (s : Nat) : aM := am_up (am_up M 19 2 (nI s)) 19 3 (nI s)
def mkd (k : Int32) : Int32 := if k = 6 then 12 else if k = 7 then 13 else if k = 8 then 14 else if k = 9 then 15 else k
def tokK (K : aR) (M : aM) (p : Nat) : Prop := if sc_e (vw M) p = -1 then ∀ a, K (some (.int 11)) (am_up (tkP M (sc_s (vw M) p)) 19 2 a) else if sc_k (vw M) p = 10 then K (some (.int 10)) (tkP M (sc_s (vw M) p)) else K (some (.int (mkd (sc_k (vw M) p)))) (am_up (tkP M (sc_s (vw M) p)) 19 2 (sc_e (vw M) p))
def sp_Model_token : aS := fun as M K => match as with
  | [.ref a] => a = 19 ∧ (mt_ok M ∧ tb_ok M ∧ at_ok M) ∧ tokK K M (cl (M 19 2))
  | _ => False
-- the loop over a word's bytes behind the first
set_option maxRecDepth 100000 in
set_option maxHeartbeats 4000000 in
theorem lp_Model_token {G : aG} (hG : am_ok G) {K : aR} {M : aM} {s : Nat} {c : Int32} (ht : mt_ok M) (hp : M 19 2 = nI s) (hs : s ≤ 400) : ∀ (r n : Nat) (dg : Bool) (o4 : Option Value), 1 ≤ n → s + n + r = m_tl M → K (some (.int (wkd c (wE (M 20) r (s + n) - s) (dg && allD (M 20) (wE (M 20) r (s + n) - (s + n)) (s + n))))) (am_up M 19 2 (nI (wE (M 20) r (s + n)))) → am_X G Y_Model_token 3 K 159 [some (.ref 19), some (.int c), some (.int (nI n)), some (.int (b2 dg)), o4] [] M := by
  intro r
  have Hex : ∀ (n : Nat) (dg : Bool) (o4 : Option Value), 1 ≤ n → s + n ≤ m_tl M → wB (bt (M 20) (m_tl M) (s + n)) = false → K (some (.int (wkd c n dg))) (am_up M 19 2 (nI (s + n))) → am_X G Y_Model_token 3 K 159 [some (.ref 19), some (.int c), some (.int (nI n)), some (.int (b2 dg)), o4] [] M := by
    intro n dg o4 h1 hl hw h
    have hn4 : n ≤ 400 := by have := ht.2; omega
    have hpk : m_at M (nI n) = bt (M 20) (m_tl M) (s + n) := m_at_bt ht hp (by omega)
    have hw' : wB (m_at M (nI n)) = false := by rw [hpk]; exact hw
    have e1 : M 19 2 + nI n = nI (s + n) := by rw [hp, nI_add]
    have e2 : nI n - 1 = nI (n - 1) := pk_sub (b := 1) h1
    unfold wkd at h
    have g0 : ∀ q : Nat, q ≤ 400 → (nI q ≤ 0 ↔ ¬ 0 < q) := fun q hq => by
      have := nI_leI (a := q) (b := 0) (by omega) (by decide)
      constructor
      · intro z
        have := this.mp z
        omega
      · intro z
        exact this.mpr (by omega)
    have g1 : ∀ q : Nat, q ≤ 400 → (nI q < 10 ↔ q < 10) := fun q hq => nI_ltI (a := q) (b := 10) (by omega) (by decide)
    have g2 : 12 < nI n ↔ 12 < n := nI_ltI (a := 12) (b := n) (by decide) (by omega)
    cases dg
    · simp only [Bool.false_eq_true, ↓reduceIte] at h
      refine am_from (tb_Model_token (ok_Model_skip hG) (by decide) (ok_Model_peek hG) (by decide) (ok_Model_isByte hG) (by decide) (ok_Model_string hG) (by decide) (ok_Model_isDigit hG) (by decide) (ok_Model_isBegin hG) (by decide)) k_Model_token 400 ?_
      simp only [q_Model_token_159, r_Model_token_0, r_Model_token_1, r_Model_token_4, r_Model_token_5, r_Model_token_6, r_Model_token_9, r_Model_token_12, r_Model_token_13, r_Model_token_14, r_Model_token_17, r_Model_token_18, r_Model_token_19, r_Model_token_22, r_Model_token_24, r_Model_token_25, r_Model_token_26, r_Model_token_28, r_Model_token_31, r_Model_token_32, r_Model_token_34, r_Model_token_37, r_Model_token_38, r_Model_token_40, r_Model_token_43, r_Model_token_44, r_Model_token_45, r_Model_token_48, r_Model_token_49, r_Model_token_50, r_Model_token_53, r_Model_token_54, r_Model_token_56, r_Model_token_59, r_Model_token_61, r_Model_token_64, r_Model_token_65, r_Model_token_67, r_Model_token_70, r_Model_token_72, r_Model_token_75, r_Model_token_77, r_Model_token_78, r_Model_token_79, r_Model_token_81, r_Model_token_84, r_Model_token_85, r_Model_token_86, r_Model_token_89, r_Model_token_92, r_Model_token_95, r_Model_token_96, r_Model_token_97, r_Model_token_100, r_Model_token_103, r_Model_token_106, r_Model_token_107, r_Model_token_110, r_Model_token_111, r_Model_token_112, r_Model_token_113, r_Model_token_114, r_Model_token_117, r_Model_token_118, r_Model_token_119, r_Model_token_122, r_Model_token_123, r_Model_token_126, r_Model_token_128, r_Model_token_131, r_Model_token_133, r_Model_token_134, r_Model_token_135, r_Model_token_137, r_Model_token_140, r_Model_token_141, r_Model_token_144, r_Model_token_145, r_Model_token_146, r_Model_token_149, r_Model_token_152, r_Model_token_154, r_Model_token_155, r_Model_token_156, r_Model_token_157, r_Model_token_158, r_Model_token_159, r_Model_token_160, r_Model_token_161, r_Model_token_164, r_Model_token_167, r_Model_token_170, r_Model_token_171, r_Model_token_174, r_Model_token_175, r_Model_token_176, r_Model_token_179, r_Model_token_182, r_Model_token_185, r_Model_token_186, r_Model_token_189, r_Model_token_190, r_Model_token_192, r_Model_token_195, r_Model_token_196, r_Model_token_199, r_Model_token_200, r_Model_token_201, r_Model_token_202, r_Model_token_203, r_Model_token_204, r_Model_token_205, r_Model_token_208, r_Model_token_209, r_Model_token_210, r_Model_token_213, r_Model_token_214, r_Model_token_215, r_Model_token_218, r_Model_token_219, r_Model_token_221, r_Model_token_224, r_Model_token_225, r_Model_token_226, r_Model_token_227, r_Model_token_230, r_Model_token_231, r_Model_token_233, r_Model_token_234, r_Model_token_237, r_Model_token_239, r_Model_token_242, r_Model_token_244, r_Model_token_246, r_Model_token_249, r_Model_token_250, r_Model_token_253, r_Model_token_255, r_Model_token_256, r_Model_token_257, r_Model_token_260, r_Model_token_263, r_Model_token_264, r_Model_token_266, r_Model_token_269, r_Model_token_270, r_Model_token_273, r_Model_token_275, ai_aload, ai_callv1, am_push, am_few, ai_getf, ai_putf, ai_const, ai_callv2, ai_istore, am_cut_0, am_cut_s, am_c1, ai_iload, ai_ifge, ai_iret, ai_cmpeq, ai_cmpne, ai_iadd, ai_bin, ai_goto, ai_calls1, ai_ifne, ai_ifeq, ai_isub, ai_ifle, ai_cmpge, ai_cmpgt, kd_0, fd_0_0, fd_0_1, fd_0_2, fd_0_3, fd_0_4, kd_1, fd_1_0, fd_1_1, ln_2, kd_3, fd_3_0, fd_3_1, fd_3_2, fd_3_3, fd_3_4, fd_3_5, fd_3_6, fd_3_7, fd_3_8, fd_3_9, ln_4, ln_5, ln_6, ln_7, ln_8, ln_9, ln_10, kd_11, fd_11_0, fd_11_1, fd_11_2, fd_11_3, fd_11_4, kd_12, fd_12_0, fd_12_1, fd_12_2, fd_12_3, ln_13, ln_14, ln_15, kd_16, fd_16_0, fd_16_1, fd_16_2, ln_17, kd_18, fd_18_0, fd_18_1, kd_19, fd_19_0, fd_19_1, fd_19_2, fd_19_3, fd_19_4, fd_19_5, fd_19_6, fd_19_7, fd_19_8, fd_19_9, fd_19_10, fd_19_11, fd_19_12, fd_19_13, fd_19_14, fd_19_15, fd_19_16, fd_19_17, fd_19_18, fd_19_19, fd_19_20, ln_20, ln_21, ln_22, ln_23, ln_24, ln_25, ln_26, ln_27, ln_28, ln_29, ln_30, ln_31, ln_32, List.getElem?_cons_zero, List.getElem?_cons_succ, List.set_cons_zero, List.set_cons_succ, true_and, and_true, ↓reduceIte, Int32.reduceLT, Int32.reduceLE, li_10, or_true, true_or, ↓sp_Model_peek, ↓sp_Model_isByte, ↓sp_Model_isBegin, ht, hw', b2_eq0, e1, e2, g2, ite_self]
      cases cb : bgB c
      · rw [cb] at h; simp at h ⊢; exact h
      · rw [cb] at h
        simp only [↓reduceIte, Bool.true_eq_false, Bool.false_eq_true] at h ⊢
        by_cases c12 : 12 < n
        · rw [if_pos c12] at h ⊢; exact h
        · rw [if_neg c12] at h ⊢; exact h
    · simp only [↓reduceIte] at h
      by_cases c45 : c = 45
      · have c45' : (c = 45) = True := eq_true c45
        simp only [c45', ↓reduceIte] at h
        have k0 := g0 (n - 1) (by omega)
        have k1 := g1 (n - 1) (by omega)
        refine am_from (tb_Model_token (ok_Model_skip hG) (by decide) (ok_Model_peek hG) (by decide) (ok_Model_isByte hG) (by decide) (ok_Model_string hG) (by decide) (ok_Model_isDigit hG) (by decide) (ok_Model_isBegin hG) (by decide)) k_Model_token 400 ?_
        simp only [q_Model_token_159, r_Model_token_0, r_Model_token_1, r_Model_token_4, r_Model_token_5, r_Model_token_6, r_Model_token_9, r_Model_token_12, r_Model_token_13, r_Model_token_14, r_Model_token_17, r_Model_token_18, r_Model_token_19, r_Model_token_22, r_Model_token_24, r_Model_token_25, r_Model_token_26, r_Model_token_28, r_Model_token_31, r_Model_token_32, r_Model_token_34, r_Model_token_37, r_Model_token_38, r_Model_token_40, r_Model_token_43, r_Model_token_44, r_Model_token_45, r_Model_token_48, r_Model_token_49, r_Model_token_50, r_Model_token_53, r_Model_token_54, r_Model_token_56, r_Model_token_59, r_Model_token_61, r_Model_token_64, r_Model_token_65, r_Model_token_67, r_Model_token_70, r_Model_token_72, r_Model_token_75, r_Model_token_77, r_Model_token_78, r_Model_token_79, r_Model_token_81, r_Model_token_84, r_Model_token_85, r_Model_token_86, r_Model_token_89, r_Model_token_92, r_Model_token_95, r_Model_token_96, r_Model_token_97, r_Model_token_100, r_Model_token_103, r_Model_token_106, r_Model_token_107, r_Model_token_110, r_Model_token_111, r_Model_token_112, r_Model_token_113, r_Model_token_114, r_Model_token_117, r_Model_token_118, r_Model_token_119, r_Model_token_122, r_Model_token_123, r_Model_token_126, r_Model_token_128, r_Model_token_131, r_Model_token_133, r_Model_token_134, r_Model_token_135, r_Model_token_137, r_Model_token_140, r_Model_token_141, r_Model_token_144, r_Model_token_145, r_Model_token_146, r_Model_token_149, r_Model_token_152, r_Model_token_154, r_Model_token_155, r_Model_token_156, r_Model_token_157, r_Model_token_158, r_Model_token_159, r_Model_token_160, r_Model_token_161, r_Model_token_164, r_Model_token_167, r_Model_token_170, r_Model_token_171, r_Model_token_174, r_Model_token_175, r_Model_token_176, r_Model_token_179, r_Model_token_182, r_Model_token_185, r_Model_token_186, r_Model_token_189, r_Model_token_190, r_Model_token_192, r_Model_token_195, r_Model_token_196, r_Model_token_199, r_Model_token_200, r_Model_token_201, r_Model_token_202, r_Model_token_203, r_Model_token_204, r_Model_token_205, r_Model_token_208, r_Model_token_209, r_Model_token_210, r_Model_token_213, r_Model_token_214, r_Model_token_215, r_Model_token_218, r_Model_token_219, r_Model_token_221, r_Model_token_224, r_Model_token_225, r_Model_token_226, r_Model_token_227, r_Model_token_230, r_Model_token_231, r_Model_token_233, r_Model_token_234, r_Model_token_237, r_Model_token_239, r_Model_token_242, r_Model_token_244, r_Model_token_246, r_Model_token_249, r_Model_token_250, r_Model_token_253, r_Model_token_255, r_Model_token_256, r_Model_token_257, r_Model_token_260, r_Model_token_263, r_Model_token_264, r_Model_token_266, r_Model_token_269, r_Model_token_270, r_Model_token_273, r_Model_token_275, ai_aload, ai_callv1, am_push, am_few, ai_getf, ai_putf, ai_const, ai_callv2, ai_istore, am_cut_0, am_cut_s, am_c1, ai_iload, ai_ifge, ai_iret, ai_cmpeq, ai_cmpne, ai_iadd, ai_bin, ai_goto, ai_calls1, ai_ifne, ai_ifeq, ai_isub, ai_ifle, ai_cmpge, ai_cmpgt, kd_0, fd_0_0, fd_0_1, fd_0_2, fd_0_3, fd_0_4, kd_1, fd_1_0, fd_1_1, ln_2, kd_3, fd_3_0, fd_3_1, fd_3_2, fd_3_3, fd_3_4, fd_3_5, fd_3_6, fd_3_7, fd_3_8, fd_3_9, ln_4, ln_5, ln_6, ln_7, ln_8, ln_9, ln_10, kd_11, fd_11_0, fd_11_1, fd_11_2, fd_11_3, fd_11_4, kd_12, fd_12_0, fd_12_1, fd_12_2, fd_12_3, ln_13, ln_14, ln_15, kd_16, fd_16_0, fd_16_1, fd_16_2, ln_17, kd_18, fd_18_0, fd_18_1, kd_19, fd_19_0, fd_19_1, fd_19_2, fd_19_3, fd_19_4, fd_19_5, fd_19_6, fd_19_7, fd_19_8, fd_19_9, fd_19_10, fd_19_11, fd_19_12, fd_19_13, fd_19_14, fd_19_15, fd_19_16, fd_19_17, fd_19_18, fd_19_19, fd_19_20, ln_20, ln_21, ln_22, ln_23, ln_24, ln_25, ln_26, ln_27, ln_28, ln_29, ln_30, ln_31, ln_32, List.getElem?_cons_zero, List.getElem?_cons_succ, List.set_cons_zero, List.set_cons_succ, true_and, and_true, ↓reduceIte, Int32.reduceLT, Int32.reduceLE, li_10, or_true, true_or, ↓sp_Model_peek, ↓sp_Model_isByte, ↓sp_Model_isBegin, ht, hw', b2_eq0, e1, e2, c45', k0, k1, Bool.true_eq_false]
        by_cases z0 : 0 < n - 1
        · simp only [z0, not_true_eq_false, ↓reduceIte] at h ⊢
          by_cases z1 : n - 1 < 10
          · rw [if_pos z1] at h ⊢; exact h
          · rw [if_neg z1] at h ⊢; exact h
        · simp only [z0, not_false_eq_true, ↓reduceIte] at h ⊢
          exact h
      · simp only [c45, ↓reduceIte] at h
        have k0 := g0 n (by omega)
        have k1 := g1 n (by omega)
        refine am_from (tb_Model_token (ok_Model_skip hG) (by decide) (ok_Model_peek hG) (by decide) (ok_Model_isByte hG) (by decide) (ok_Model_string hG) (by decide) (ok_Model_isDigit hG) (by decide) (ok_Model_isBegin hG) (by decide)) k_Model_token 400 ?_
        simp only [q_Model_token_159, r_Model_token_0, r_Model_token_1, r_Model_token_4, r_Model_token_5, r_Model_token_6, r_Model_token_9, r_Model_token_12, r_Model_token_13, r_Model_token_14, r_Model_token_17, r_Model_token_18, r_Model_token_19, r_Model_token_22, r_Model_token_24, r_Model_token_25, r_Model_token_26, r_Model_token_28, r_Model_token_31, r_Model_token_32, r_Model_token_34, r_Model_token_37, r_Model_token_38, r_Model_token_40, r_Model_token_43, r_Model_token_44, r_Model_token_45, r_Model_token_48, r_Model_token_49, r_Model_token_50, r_Model_token_53, r_Model_token_54, r_Model_token_56, r_Model_token_59, r_Model_token_61, r_Model_token_64, r_Model_token_65, r_Model_token_67, r_Model_token_70, r_Model_token_72, r_Model_token_75, r_Model_token_77, r_Model_token_78, r_Model_token_79, r_Model_token_81, r_Model_token_84, r_Model_token_85, r_Model_token_86, r_Model_token_89, r_Model_token_92, r_Model_token_95, r_Model_token_96, r_Model_token_97, r_Model_token_100, r_Model_token_103, r_Model_token_106, r_Model_token_107, r_Model_token_110, r_Model_token_111, r_Model_token_112, r_Model_token_113, r_Model_token_114, r_Model_token_117, r_Model_token_118, r_Model_token_119, r_Model_token_122, r_Model_token_123, r_Model_token_126, r_Model_token_128, r_Model_token_131, r_Model_token_133, r_Model_token_134, r_Model_token_135, r_Model_token_137, r_Model_token_140, r_Model_token_141, r_Model_token_144, r_Model_token_145, r_Model_token_146, r_Model_token_149, r_Model_token_152, r_Model_token_154, r_Model_token_155, r_Model_token_156, r_Model_token_157, r_Model_token_158, r_Model_token_159, r_Model_token_160, r_Model_token_161, r_Model_token_164, r_Model_token_167, r_Model_token_170, r_Model_token_171, r_Model_token_174, r_Model_token_175, r_Model_token_176, r_Model_token_179, r_Model_token_182, r_Model_token_185, r_Model_token_186, r_Model_token_189, r_Model_token_190, r_Model_token_192, r_Model_token_195, r_Model_token_196, r_Model_token_199, r_Model_token_200, r_Model_token_201, r_Model_token_202, r_Model_token_203, r_Model_token_204, r_Model_token_205, r_Model_token_208, r_Model_token_209, r_Model_token_210, r_Model_token_213, r_Model_token_214, r_Model_token_215, r_Model_token_218, r_Model_token_219, r_Model_token_221, r_Model_token_224, r_Model_token_225, r_Model_token_226, r_Model_token_227, r_Model_token_230, r_Model_token_231, r_Model_token_233, r_Model_token_234, r_Model_token_237, r_Model_token_239, r_Model_token_242, r_Model_token_244, r_Model_token_246, r_Model_token_249, r_Model_token_250, r_Model_token_253, r_Model_token_255, r_Model_token_256, r_Model_token_257, r_Model_token_260, r_Model_token_263, r_Model_token_264, r_Model_token_266, r_Model_token_269, r_Model_token_270, r_Model_token_273, r_Model_token_275, ai_aload, ai_callv1, am_push, am_few, ai_getf, ai_putf, ai_const, ai_callv2, ai_istore, am_cut_0, am_cut_s, am_c1, ai_iload, ai_ifge, ai_iret, ai_cmpeq, ai_cmpne, ai_iadd, ai_bin, ai_goto, ai_calls1, ai_ifne, ai_ifeq, ai_isub, ai_ifle, ai_cmpge, ai_cmpgt, kd_0, fd_0_0, fd_0_1, fd_0_2, fd_0_3, fd_0_4, kd_1, fd_1_0, fd_1_1, ln_2, kd_3, fd_3_0, fd_3_1, fd_3_2, fd_3_3, fd_3_4, fd_3_5, fd_3_6, fd_3_7, fd_3_8, fd_3_9, ln_4, ln_5, ln_6, ln_7, ln_8, ln_9, ln_10, kd_11, fd_11_0, fd_11_1, fd_11_2, fd_11_3, fd_11_4, kd_12, fd_12_0, fd_12_1, fd_12_2, fd_12_3, ln_13, ln_14, ln_15, kd_16, fd_16_0, fd_16_1, fd_16_2, ln_17, kd_18, fd_18_0, fd_18_1, kd_19, fd_19_0, fd_19_1, fd_19_2, fd_19_3, fd_19_4, fd_19_5, fd_19_6, fd_19_7, fd_19_8, fd_19_9, fd_19_10, fd_19_11, fd_19_12, fd_19_13, fd_19_14, fd_19_15, fd_19_16, fd_19_17, fd_19_18, fd_19_19, fd_19_20, ln_20, ln_21, ln_22, ln_23, ln_24, ln_25, ln_26, ln_27, ln_28, ln_29, ln_30, ln_31, ln_32, List.getElem?_cons_zero, List.getElem?_cons_succ, List.set_cons_zero, List.set_cons_succ, true_and, and_true, ↓reduceIte, Int32.reduceLT, Int32.reduceLE, li_10, or_true, true_or, ↓sp_Model_peek, ↓sp_Model_isByte, ↓sp_Model_isBegin, ht, hw', b2_eq0, e1, c45, k0, k1, Bool.true_eq_false]
        by_cases z0 : 0 < n
        · simp only [z0, not_true_eq_false, ↓reduceIte] at h ⊢
          by_cases z1 : n < 10
          · rw [if_pos z1] at h ⊢; exact h
          · rw [if_neg z1] at h ⊢; exact h
        · omega
  induction r with
  | zero =>
    intro n dg o4 h1 hl h
    simp only [wE, Nat.sub_self, allD, Bool.and_true] at h
    rw [show s + n - s = n by omega] at h
    refine Hex n dg o4 h1 (by omega) ?_ h
    unfold bt
    rw [if_neg (by omega)]
    decide
  | succ r ih =>
    intro n dg o4 h1 hl h
    have hlt : s + n < m_tl M := by omega
    have hn4 : n ≤ 400 := by have := ht.2; omega
    have hpk : m_at M (nI n) = M 20 (s + n) := by
      rw [m_at_bt ht hp (by omega)]
      unfold bt
      rw [if_pos hlt]
    by_cases cw : wB (M 20 (s + n)) = true
    · rw [wE, if_pos cw] at h
      have hle := (wE_le (M 20) r (s + n + 1)).1
      rw [show wE (M 20) r (s + n + 1) - (s + n) = (wE (M 20) r (s + n + 1) - (s + n + 1)) + 1 by omega] at h
      simp only [allD] at h
      have cw' : wB (m_at M (nI n)) = true := by rw [hpk]; exact cw
      have n0 : ¬ nI n = 0 := nI_ne0 (by omega) (by omega)
      have hdd : (b2 (dg && dgB (M 20 (s + n)))) = if dg = false then 0 else if dgB (m_at M (nI n)) = false then 0 else 1 := by
        rw [hpk]
        cases dg <;> cases dgB (M 20 (s + n)) <;> rfl
      have nx := ih (n + 1) (dg && dgB (M 20 (s + n))) o4 (by omega) (by omega) (by rw [Bool.and_assoc]; exact h)
      rw [hdd] at nx
      cases dg
      · refine am_from (tb_Model_token (ok_Model_skip hG) (by decide) (ok_Model_peek hG) (by decide) (ok_Model_isByte hG) (by decide) (ok_Model_string hG) (by decide) (ok_Model_isDigit hG) (by decide) (ok_Model_isBegin hG) (by decide)) k_Model_token 400 ?_
        simp only [q_Model_token_159, r_Model_token_0, r_Model_token_1, r_Model_token_4, r_Model_token_5, r_Model_token_6, r_Model_token_9, r_Model_token_12, r_Model_token_13, r_Model_token_14, r_Model_token_17, r_Model_token_18, r_Model_token_19, r_Model_token_22, r_Model_token_24, r_Model_token_25, r_Model_token_26, r_Model_token_28, r_Model_token_31, r_Model_token_32, r_Model_token_34, r_Model_token_37, r_Model_token_38, r_Model_token_40, r_Model_token_43, r_Model_token_44, r_Model_token_45, r_Model_token_48, r_Model_token_49, r_Model_token_50, r_Model_token_53, r_Model_token_54, r_Model_token_56, r_Model_token_59, r_Model_token_61, r_Model_token_64, r_Model_token_65, r_Model_token_67, r_Model_token_70, r_Model_token_72, r_Model_token_75, r_Model_token_77, r_Model_token_78, r_Model_token_79, r_Model_token_81, r_Model_token_84, r_Model_token_85, r_Model_token_86, r_Model_token_89, r_Model_token_92, r_Model_token_95, r_Model_token_96, r_Model_token_97, r_Model_token_100, r_Model_token_103, r_Model_token_106, r_Model_token_107, r_Model_token_110, r_Model_token_111, r_Model_token_112, r_Model_token_113, r_Model_token_114, r_Model_token_117, r_Model_token_118, r_Model_token_119, r_Model_token_122, r_Model_token_123, r_Model_token_126, r_Model_token_128, r_Model_token_131, r_Model_token_133, r_Model_token_134, r_Model_token_135, r_Model_token_137, r_Model_token_140, r_Model_token_141, r_Model_token_144, r_Model_token_145, r_Model_token_146, r_Model_token_149, r_Model_token_152, r_Model_token_154, r_Model_token_155, r_Model_token_156, r_Model_token_157, r_Model_token_158, r_Model_token_159, r_Model_token_160, r_Model_token_161, r_Model_token_164, r_Model_token_167, r_Model_token_170, r_Model_token_171, r_Model_token_174, r_Model_token_175, r_Model_token_176, r_Model_token_179, r_Model_token_182, r_Model_token_185, r_Model_token_186, r_Model_token_189, r_Model_token_190, r_Model_token_192, r_Model_token_195, r_Model_token_196, r_Model_token_199, r_Model_token_200, r_Model_token_201, r_Model_token_202, r_Model_token_203, r_Model_token_204, r_Model_token_205, r_Model_token_208, r_Model_token_209, r_Model_token_210, r_Model_token_213, r_Model_token_214, r_Model_token_215, r_Model_token_218, r_Model_token_219, r_Model_token_221, r_Model_token_224, r_Model_token_225, r_Model_token_226, r_Model_token_227, r_Model_token_230, r_Model_token_231, r_Model_token_233, r_Model_token_234, r_Model_token_237, r_Model_token_239, r_Model_token_242, r_Model_token_244, r_Model_token_246, r_Model_token_249, r_Model_token_250, r_Model_token_253, r_Model_token_255, r_Model_token_256, r_Model_token_257, r_Model_token_260, r_Model_token_263, r_Model_token_264, r_Model_token_266, r_Model_token_269, r_Model_token_270, r_Model_token_273, r_Model_token_275, ai_aload, ai_callv1, am_push, am_few, ai_getf, ai_putf, ai_const, ai_callv2, ai_istore, am_cut_0, am_cut_s, am_c1, ai_iload, ai_ifge, ai_iret, ai_cmpeq, ai_cmpne, ai_iadd, ai_bin, ai_goto, ai_calls1, ai_ifne, ai_ifeq, ai_isub, ai_ifle, ai_cmpge, ai_cmpgt, kd_0, fd_0_0, fd_0_1, fd_0_2, fd_0_3, fd_0_4, kd_1, fd_1_0, fd_1_1, ln_2, kd_3, fd_3_0, fd_3_1, fd_3_2, fd_3_3, fd_3_4, fd_3_5, fd_3_6, fd_3_7, fd_3_8, fd_3_9, ln_4, ln_5, ln_6, ln_7, ln_8, ln_9, ln_10, kd_11, fd_11_0, fd_11_1, fd_11_2, fd_11_3, fd_11_4, kd_12, fd_12_0, fd_12_1, fd_12_2, fd_12_3, ln_13, ln_14, ln_15, kd_16, fd_16_0, fd_16_1, fd_16_2, ln_17, kd_18, fd_18_0, fd_18_1, kd_19, fd_19_0, fd_19_1, fd_19_2, fd_19_3, fd_19_4, fd_19_5, fd_19_6, fd_19_7, fd_19_8, fd_19_9, fd_19_10, fd_19_11, fd_19_12, fd_19_13, fd_19_14, fd_19_15, fd_19_16, fd_19_17, fd_19_18, fd_19_19, fd_19_20, ln_20, ln_21, ln_22, ln_23, ln_24, ln_25, ln_26, ln_27, ln_28, ln_29, ln_30, ln_31, ln_32, List.getElem?_cons_zero, List.getElem?_cons_succ, List.set_cons_zero, List.set_cons_succ, true_and, and_true, ↓reduceIte, Int32.reduceLT, Int32.reduceLE, li_10, or_true, true_or, ↓sp_Model_peek, ↓sp_Model_isByte, ↓sp_Model_isDigit, ht, cw', b2_eq0, Bool.true_eq_false, n0, nI_1]
        exact nx
      · refine am_from (tb_Model_token (ok_Model_skip hG) (by decide) (ok_Model_peek hG) (by decide) (ok_Model_isByte hG) (by decide) (ok_Model_string hG) (by decide) (ok_Model_isDigit hG) (by decide) (ok_Model_isBegin hG) (by decide)) k_Model_token 400 ?_
        simp only [q_Model_token_159, r_Model_token_0, r_Model_token_1, r_Model_token_4, r_Model_token_5, r_Model_token_6, r_Model_token_9, r_Model_token_12, r_Model_token_13, r_Model_token_14, r_Model_token_17, r_Model_token_18, r_Model_token_19, r_Model_token_22, r_Model_token_24, r_Model_token_25, r_Model_token_26, r_Model_token_28, r_Model_token_31, r_Model_token_32, r_Model_token_34, r_Model_token_37, r_Model_token_38, r_Model_token_40, r_Model_token_43, r_Model_token_44, r_Model_token_45, r_Model_token_48, r_Model_token_49, r_Model_token_50, r_Model_token_53, r_Model_token_54, r_Model_token_56, r_Model_token_59, r_Model_token_61, r_Model_token_64, r_Model_token_65, r_Model_token_67, r_Model_token_70, r_Model_token_72, r_Model_token_75, r_Model_token_77, r_Model_token_78, r_Model_token_79, r_Model_token_81, r_Model_token_84, r_Model_token_85, r_Model_token_86, r_Model_token_89, r_Model_token_92, r_Model_token_95, r_Model_token_96, r_Model_token_97, r_Model_token_100, r_Model_token_103, r_Model_token_106, r_Model_token_107, r_Model_token_110, r_Model_token_111, r_Model_token_112, r_Model_token_113, r_Model_token_114, r_Model_token_117, r_Model_token_118, r_Model_token_119, r_Model_token_122, r_Model_token_123, r_Model_token_126, r_Model_token_128, r_Model_token_131, r_Model_token_133, r_Model_token_134, r_Model_token_135, r_Model_token_137, r_Model_token_140, r_Model_token_141, r_Model_token_144, r_Model_token_145, r_Model_token_146, r_Model_token_149, r_Model_token_152, r_Model_token_154, r_Model_token_155, r_Model_token_156, r_Model_token_157, r_Model_token_158, r_Model_token_159, r_Model_token_160, r_Model_token_161, r_Model_token_164, r_Model_token_167, r_Model_token_170, r_Model_token_171, r_Model_token_174, r_Model_token_175, r_Model_token_176, r_Model_token_179, r_Model_token_182, r_Model_token_185, r_Model_token_186, r_Model_token_189, r_Model_token_190, r_Model_token_192, r_Model_token_195, r_Model_token_196, r_Model_token_199, r_Model_token_200, r_Model_token_201, r_Model_token_202, r_Model_token_203, r_Model_token_204, r_Model_token_205, r_Model_token_208, r_Model_token_209, r_Model_token_210, r_Model_token_213, r_Model_token_214, r_Model_token_215, r_Model_token_218, r_Model_token_219, r_Model_token_221, r_Model_token_224, r_Model_token_225, r_Model_token_226, r_Model_token_227, r_Model_token_230, r_Model_token_231, r_Model_token_233, r_Model_token_234, r_Model_token_237, r_Model_token_239, r_Model_token_242, r_Model_token_244, r_Model_token_246, r_Model_token_249, r_Model_token_250, r_Model_token_253, r_Model_token_255, r_Model_token_256, r_Model_token_257, r_Model_token_260, r_Model_token_263, r_Model_token_264, r_Model_token_266, r_Model_token_269, r_Model_token_270, r_Model_token_273, r_Model_token_275, ai_aload, ai_callv1, am_push, am_few, ai_getf, ai_putf, ai_const, ai_callv2, ai_istore, am_cut_0, am_cut_s, am_c1, ai_iload, ai_ifge, ai_iret, ai_cmpeq, ai_cmpne, ai_iadd, ai_bin, ai_goto, ai_calls1, ai_ifne, ai_ifeq, ai_isub, ai_ifle, ai_cmpge, ai_cmpgt, kd_0, fd_0_0, fd_0_1, fd_0_2, fd_0_3, fd_0_4, kd_1, fd_1_0, fd_1_1, ln_2, kd_3, fd_3_0, fd_3_1, fd_3_2, fd_3_3, fd_3_4, fd_3_5, fd_3_6, fd_3_7, fd_3_8, fd_3_9, ln_4, ln_5, ln_6, ln_7, ln_8, ln_9, ln_10, kd_11, fd_11_0, fd_11_1, fd_11_2, fd_11_3, fd_11_4, kd_12, fd_12_0, fd_12_1, fd_12_2, fd_12_3, ln_13, ln_14, ln_15, kd_16, fd_16_0, fd_16_1, fd_16_2, ln_17, kd_18, fd_18_0, fd_18_1, kd_19, fd_19_0, fd_19_1, fd_19_2, fd_19_3, fd_19_4, fd_19_5, fd_19_6, fd_19_7, fd_19_8, fd_19_9, fd_19_10, fd_19_11, fd_19_12, fd_19_13, fd_19_14, fd_19_15, fd_19_16, fd_19_17, fd_19_18, fd_19_19, fd_19_20, ln_20, ln_21, ln_22, ln_23, ln_24, ln_25, ln_26, ln_27, ln_28, ln_29, ln_30, ln_31, ln_32, List.getElem?_cons_zero, List.getElem?_cons_succ, List.set_cons_zero, List.set_cons_succ, true_and, and_true, ↓reduceIte, Int32.reduceLT, Int32.reduceLE, li_10, or_true, true_or, ↓sp_Model_peek, ↓sp_Model_isByte, ↓sp_Model_isDigit, ht, cw', b2_eq0, Bool.true_eq_false, n0, nI_1]
        cases cd : dgB (m_at M (nI n))
        · rw [cd] at nx; simp at nx ⊢; exact nx
        · rw [cd] at nx; simp at nx ⊢; exact nx
    · rw [wE, if_neg cw] at h
      rw [show s + n - s = n by omega, Nat.sub_self] at h
      simp only [allD, Bool.and_true] at h
      refine Hex n dg o4 h1 (by omega) ?_ h
      unfold bt
      rw [if_pos hlt]
      exact Bool.eq_false_iff.mpr cw
end
section
/-! THE REFERENCE: a token is the desk's token -/
theorem dg_bg {b : Int32} (h : dgB b = true) : bgB b = false := by
  have h1 : ¬ b < 48 ∧ ¬ 57 < b := by
    unfold dgB at h
    simpa using h
  have a1 : ¬ (b.toInt < 48) := fun q => h1.1 (Int32.lt_iff_toInt_lt.mpr q)
  have a2 : ¬ (57 < b.toInt) := fun q => h1.2 (Int32.lt_iff_toInt_lt.mpr q)
  have lt : b < 97 := Int32.lt_iff_toInt_lt.mpr (show b.toInt < 97 by omega)
  have ne : ∀ k : Int32, (k.toInt < 48 ∨ 57 < k.toInt) → ¬ b = k := fun k hk q => by
    subst q
    omega
  unfold bgB
  simp [lt, ne 43 (by decide), ne 42 (by decide), ne 47 (by decide), ne 61 (by decide), ne 60 (by decide), ne 62 (by decide), ne 33 (by decide), ne 63 (by decide)]
theorem srt_bg {b : Int32} (h : bgB b = true) : srt b = 2 := by
  have nd : ∀ k : Int32, bgB k = false → ¬ b = k := fun k hk q => by
    subst q
    rw [hk] at h
    cases h
  have hd : dgB b = false := by
    cases c : dgB b
    · rfl
    · rw [dg_bg c] at h
      cases h
  have hw : wB b = true := by rw [wB_eq, h]; rfl
  unfold srt
  simp [nd (-1) (by decide), nd 34 (by decide), nd 39 (by decide), nd 40 (by decide), nd 41 (by decide), nd 46 (by decide), nd 45 (by decide), hd, hw]
theorem srt_dg {b : Int32} (h : dgB b = true) : srt b = 1 := by
  have nd : ∀ k : Int32, dgB k = false → ¬ b = k := fun k hk q => by
    subst q
    rw [hk] at h
    cases h
  unfold srt
  simp [nd (-1) (by decide), nd 34 (by decide), nd 39 (by decide), nd 40 (by decide), nd 41 (by decide), nd 46 (by decide), nd 45 (by decide), h]
theorem tok_word {t : Nat → Int32} {V : aM} {s : Nat} (hV : V 2 = t) (hs : s < tl V) (hl : tl V ≤ 400) (hw : wB (t s) = true) :
    if f_tend V s (srt (t s)) = -1 then wkd (t s) (wE t (tl V - (s + 1)) (s + 1) - s) ((dgB (t s) || decide (t s = 45)) && allD t (wE t (tl V - (s + 1)) (s + 1) - (s + 1)) (s + 1)) = 11
    else wkd (t s) (wE t (tl V - (s + 1)) (s + 1) - s) ((dgB (t s) || decide (t s = 45)) && allD t (wE t (tl V - (s + 1)) (s + 1) - (s + 1)) (s + 1)) = mkd (srt (t s)) ∧ f_tend V s (srt (t s)) = nI (wE t (tl V - (s + 1)) (s + 1)) ∧ ¬ srt (t s) = 10 := by
  subst hV
  have hle := wE_le (V 2) (tl V - (s + 1)) (s + 1)
  have hws : f_word V s = wE (V 2) (tl V - (s + 1)) (s + 1) := by
    unfold f_word
    rw [show tl V - s = (tl V - (s + 1)) + 1 by omega, wE, if_pos hw]
  have hws1 : f_word V (s + 1) = wE (V 2) (tl V - (s + 1)) (s + 1) := rfl
  generalize wE (V 2) (tl V - (s + 1)) (s + 1) = e at hle hws hws1 ⊢
  have hne : ¬ nI e = -1 := nI_ne (by omega)
  by_cases c45 : V 2 s = 45
  · have hd : dgB (V 2 s) = false := by rw [c45]; decide
    have hb : bgB (V 2 s) = false := by rw [c45]; decide
    have hsr : srt (V 2 s) = 1 := by rw [c45]; decide
    have hn : nmF (V 2) s = s + 1 := by unfold nmF; rw [if_pos c45]
    have hf : f_tend V s (srt (V 2 s)) = f_num V s := by rw [hsr]; rfl
    rw [hf]
    unfold f_num wkd
    rw [hn, hws1, hsr, hd, hb]
    simp only [c45, decide_true, Bool.false_or, Bool.true_and, ↓reduceIte, Bool.false_eq_true]
    rw [show e - s - 1 = e - (s + 1) by omega]
    by_cases z1 : e - (s + 1) < 1
    · have z2 : ¬ 0 < e - (s + 1) := by omega
      simp only [z1, z2, ↓reduceIte]
      split <;> rfl
    · have z2 : 0 < e - (s + 1) := by omega
      by_cases z3 : 9 < e - (s + 1)
      · have z4 : ¬ e - (s + 1) < 10 := by omega
        simp only [z1, z2, z3, z4, ↓reduceIte]
        split <;> rfl
      · have z4 : e - (s + 1) < 10 := by omega
        cases ca : allD (V 2) (e - (s + 1)) (s + 1)
        · simp [z1, z2, z3, z4]
        · simp only [z1, z2, z3, z4, ↓reduceIte]
          rw [if_neg hne]
          refine ⟨by first | trivial | rfl, by first | trivial | rfl, by first | trivial | decide⟩
  · cases hd : dgB (V 2 s)
    · have hb : bgB (V 2 s) = true := by
        have := hw
        rw [wB_eq, hd] at this
        simpa [c45] using this
      have hsr := srt_bg hb
      have hf : f_tend V s (srt (V 2 s)) = f_name V s := by rw [hsr]; rfl
      rw [hf]
      unfold f_name wkd
      rw [hws, hsr, hb]
      simp only [c45, decide_false, Bool.or_self, Bool.false_and, ↓reduceIte, Bool.false_eq_true]
      by_cases z1 : 12 < e - s
      · simp [z1]
      · simp only [z1, ↓reduceIte]
        rw [if_neg hne]
        refine ⟨by first | trivial | rfl, by first | trivial | rfl, by first | trivial | decide⟩
    · have hb := dg_bg hd
      have hsr := srt_dg hd
      have hn : nmF (V 2) s = s := by unfold nmF; rw [if_neg c45]
      have hf : f_tend V s (srt (V 2 s)) = f_num V s := by rw [hsr]; rfl
      rw [hf]
      unfold f_num wkd
      rw [hn, hws, hsr, hb]
      have hall : allD (V 2) (e - s) s = allD (V 2) (e - (s + 1)) (s + 1) := by
        rw [show e - s = (e - (s + 1)) + 1 by omega, allD, hd, Bool.true_and]
      rw [hall]
      simp only [c45, decide_false, Bool.or_false, Bool.true_and, ↓reduceIte, Bool.false_eq_true]
      have z1 : ¬ e - s < 1 := by omega
      have z2 : 0 < e - s := by omega
      by_cases z3 : 9 < e - s
      · have z4 : ¬ e - s < 10 := by omega
        simp only [z1, z2, z3, z4, ↓reduceIte]
        split <;> rfl
      · have z4 : e - s < 10 := by omega
        cases ca : allD (V 2) (e - (s + 1)) (s + 1)
        · simp [z1, z2, z3, z4]
        · simp only [z1, z2, z3, z4, ↓reduceIte]
          rw [if_neg hne]
          refine ⟨by first | trivial | rfl, by first | trivial | rfl, by first | trivial | decide⟩
theorem m_at_m1 {M : aM} {s : Nat} (ht : mt_ok M) (hs : s ≤ 400) : m_at (tkP M s) (-1) = f_at (vw M) (nI s - 1) := by
  have e1 : tkP M s 19 2 = nI s := rfl
  have e2 : tkP M s 19 1 = M 19 1 := rfl
  have e3 : tkP M s 20 = M 20 := rfl
  have e4 : vw M 1 1 = M 19 1 := rfl
  have e5 : vw M 2 = M 20 := rfl
  have e6 : nI s + (-1) = nI s - 1 := (Int32.sub_eq_add_neg _ _).symm
  unfold m_at f_at
  rw [e1, e2, e3, e4, e5, e6]
  by_cases c1 : nI s - 1 < 0
  · rw [if_pos c1, if_pos c1]
  · rw [if_neg c1, if_neg c1]
    by_cases c2 : nI s - 1 < M 19 1
    · rw [if_pos c2, if_pos c2]
      have c3 : nI s - 1 < 400 := by
        obtain ⟨j, hj, e⟩ := nI_of c1
        rw [e] at c2 ⊢
        rw [ht.1] at c2
        have := (nI_ltI hj (by have := ht.2; omega)).mp c2
        exact nI_lt (b := 400) (by have := ht.2; omega) (by decide)
      rw [if_pos c3]
    · rw [if_neg c2, if_neg c2]
theorem tkP_mu (M : aM) (S : Nat) : am_up (am_up M 19 2 (nI S)) 19 3 (nI S) = tkP M S := by rfl
theorem tkP_2 (M : aM) (S : Nat) : tkP M S 19 2 = nI S := by rfl
set_option maxRecDepth 100000 in
set_option maxHeartbeats 4000000 in
theorem ok_tkc_end {G : aG} (hG : am_ok G) {K : aR} {M : aM} {S : Nat} (ht : mt_ok M) (hb : tb_ok M) (hat : at_ok M) (hS : skB (M 20) (m_tl M - cl (M 19 2)) false (cl (M 19 2)) = S) (htN : mt_ok (tkP M S)) (hpk : m_at (tkP M S) 0 = -1) (h : K (some (.int 10)) (tkP M S)) : am_Met G Y_Model_token 3 [.ref 19] M K := by
  have hmu := tkP_mu M S
  have n0 : ((0 : Int32) ≤ -1) = False := eq_false (by decide)
  refine am_entry hG (by decide +kernel) (Nat.le_of_ble_eq_true rfl) ?_
  refine am_go (cuts := k_Model_token) (tb_Model_token (ok_Model_skip hG) (by decide) (ok_Model_peek hG) (by decide) (ok_Model_isByte hG) (by decide) (ok_Model_string hG) (by decide) (ok_Model_isDigit hG) (by decide) (ok_Model_isBegin hG) (by decide)) 400 _ _ _ _ ?_
  change am_run _ _ _ _ _ _ [some (.ref 19), none, none, none, none] [] _
  simp only [q_Model_token_159, r_Model_token_0, r_Model_token_1, r_Model_token_4, r_Model_token_5, r_Model_token_6, r_Model_token_9, r_Model_token_12, r_Model_token_13, r_Model_token_14, r_Model_token_17, r_Model_token_18, r_Model_token_19, r_Model_token_22, r_Model_token_24, r_Model_token_25, r_Model_token_26, r_Model_token_28, r_Model_token_31, r_Model_token_32, r_Model_token_34, r_Model_token_37, r_Model_token_38, r_Model_token_40, r_Model_token_43, r_Model_token_44, r_Model_token_45, r_Model_token_48, r_Model_token_49, r_Model_token_50, r_Model_token_53, r_Model_token_54, r_Model_token_56, r_Model_token_59, r_Model_token_61, r_Model_token_64, r_Model_token_65, r_Model_token_67, r_Model_token_70, r_Model_token_72, r_Model_token_75, r_Model_token_77, r_Model_token_78, r_Model_token_79, r_Model_token_81, r_Model_token_84, r_Model_token_85, r_Model_token_86, r_Model_token_89, r_Model_token_92, r_Model_token_95, r_Model_token_96, r_Model_token_97, r_Model_token_100, r_Model_token_103, r_Model_token_106, r_Model_token_107, r_Model_token_110, r_Model_token_111, r_Model_token_112, r_Model_token_113, r_Model_token_114, r_Model_token_117, r_Model_token_118, r_Model_token_119, r_Model_token_122, r_Model_token_123, r_Model_token_126, r_Model_token_128, r_Model_token_131, r_Model_token_133, r_Model_token_134, r_Model_token_135, r_Model_token_137, r_Model_token_140, r_Model_token_141, r_Model_token_144, r_Model_token_145, r_Model_token_146, r_Model_token_149, r_Model_token_152, r_Model_token_154, r_Model_token_155, r_Model_token_156, r_Model_token_157, r_Model_token_158, r_Model_token_159, r_Model_token_160, r_Model_token_161, r_Model_token_164, r_Model_token_167, r_Model_token_170, r_Model_token_171, r_Model_token_174, r_Model_token_175, r_Model_token_176, r_Model_token_179, r_Model_token_182, r_Model_token_185, r_Model_token_186, r_Model_token_189, r_Model_token_190, r_Model_token_192, r_Model_token_195, r_Model_token_196, r_Model_token_199, r_Model_token_200, r_Model_token_201, r_Model_token_202, r_Model_token_203, r_Model_token_204, r_Model_token_205, r_Model_token_208, r_Model_token_209, r_Model_token_210, r_Model_token_213, r_Model_token_214, r_Model_token_215, r_Model_token_218, r_Model_token_219, r_Model_token_221, r_Model_token_224, r_Model_token_225, r_Model_token_226, r_Model_token_227, r_Model_token_230, r_Model_token_231, r_Model_token_233, r_Model_token_234, r_Model_token_237, r_Model_token_239, r_Model_token_242, r_Model_token_244, r_Model_token_246, r_Model_token_249, r_Model_token_250, r_Model_token_253, r_Model_token_255, r_Model_token_256, r_Model_token_257, r_Model_token_260, r_Model_token_263, r_Model_token_264, r_Model_token_266, r_Model_token_269, r_Model_token_270, r_Model_token_273, r_Model_token_275, ai_aload, ai_callv1, am_push, am_few, ai_getf, ai_putf, ai_const, ai_callv2, ai_istore, am_cut_0, am_cut_s, am_c1, ai_iload, ai_ifge, ai_iret, ai_cmpeq, ai_cmpne, ai_iadd, ai_bin, ai_goto, ai_calls1, ai_ifne, ai_ifeq, ai_isub, ai_ifle, ai_cmpge, ai_cmpgt, kd_0, fd_0_0, fd_0_1, fd_0_2, fd_0_3, fd_0_4, kd_1, fd_1_0, fd_1_1, ln_2, kd_3, fd_3_0, fd_3_1, fd_3_2, fd_3_3, fd_3_4, fd_3_5, fd_3_6, fd_3_7, fd_3_8, fd_3_9, ln_4, ln_5, ln_6, ln_7, ln_8, ln_9, ln_10, kd_11, fd_11_0, fd_11_1, fd_11_2, fd_11_3, fd_11_4, kd_12, fd_12_0, fd_12_1, fd_12_2, fd_12_3, ln_13, ln_14, ln_15, kd_16, fd_16_0, fd_16_1, fd_16_2, ln_17, kd_18, fd_18_0, fd_18_1, kd_19, fd_19_0, fd_19_1, fd_19_2, fd_19_3, fd_19_4, fd_19_5, fd_19_6, fd_19_7, fd_19_8, fd_19_9, fd_19_10, fd_19_11, fd_19_12, fd_19_13, fd_19_14, fd_19_15, fd_19_16, fd_19_17, fd_19_18, fd_19_19, fd_19_20, ln_20, ln_21, ln_22, ln_23, ln_24, ln_25, ln_26, ln_27, ln_28, ln_29, ln_30, ln_31, ln_32, List.getElem?_cons_zero, List.getElem?_cons_succ, List.set_cons_zero, List.set_cons_succ, true_and, and_true, ↓reduceIte, Int32.reduceLT, Int32.reduceLE, li_10, or_true, true_or, ↓sp_Model_skip, ↓sp_Model_peek, ht, hb, hat, hS, am_up_ap, Nat.reduceEqDiff, hmu, htN, hpk, n0]
  exact h
set_option maxRecDepth 100000 in
set_option maxHeartbeats 4000000 in
theorem ok_tkc_40 {G : aG} (hG : am_ok G) {K : aR} {M : aM} {S : Nat} (ht : mt_ok M) (hb : tb_ok M) (hat : at_ok M) (hS : skB (M 20) (m_tl M - cl (M 19 2)) false (cl (M 19 2)) = S) (htN : mt_ok (tkP M S)) (hpk : m_at (tkP M S) 0 = 40) (h : K (some (.int 12)) (am_up (tkP M S) 19 2 (nI (S + 1)))) : am_Met G Y_Model_token 3 [.ref 19] M K := by
  have hmu := tkP_mu M S
  have hN2 := tkP_2 M S
  have n0 : ((0 : Int32) ≤ 40) = True := eq_true (by decide)
  refine am_entry hG (by decide +kernel) (Nat.le_of_ble_eq_true rfl) ?_
  refine am_go (cuts := k_Model_token) (tb_Model_token (ok_Model_skip hG) (by decide) (ok_Model_peek hG) (by decide) (ok_Model_isByte hG) (by decide) (ok_Model_string hG) (by decide) (ok_Model_isDigit hG) (by decide) (ok_Model_isBegin hG) (by decide)) 400 _ _ _ _ ?_
  change am_run _ _ _ _ _ _ [some (.ref 19), none, none, none, none] [] _
  simp only [q_Model_token_159, r_Model_token_0, r_Model_token_1, r_Model_token_4, r_Model_token_5, r_Model_token_6, r_Model_token_9, r_Model_token_12, r_Model_token_13, r_Model_token_14, r_Model_token_17, r_Model_token_18, r_Model_token_19, r_Model_token_22, r_Model_token_24, r_Model_token_25, r_Model_token_26, r_Model_token_28, r_Model_token_31, r_Model_token_32, r_Model_token_34, r_Model_token_37, r_Model_token_38, r_Model_token_40, r_Model_token_43, r_Model_token_44, r_Model_token_45, r_Model_token_48, r_Model_token_49, r_Model_token_50, r_Model_token_53, r_Model_token_54, r_Model_token_56, r_Model_token_59, r_Model_token_61, r_Model_token_64, r_Model_token_65, r_Model_token_67, r_Model_token_70, r_Model_token_72, r_Model_token_75, r_Model_token_77, r_Model_token_78, r_Model_token_79, r_Model_token_81, r_Model_token_84, r_Model_token_85, r_Model_token_86, r_Model_token_89, r_Model_token_92, r_Model_token_95, r_Model_token_96, r_Model_token_97, r_Model_token_100, r_Model_token_103, r_Model_token_106, r_Model_token_107, r_Model_token_110, r_Model_token_111, r_Model_token_112, r_Model_token_113, r_Model_token_114, r_Model_token_117, r_Model_token_118, r_Model_token_119, r_Model_token_122, r_Model_token_123, r_Model_token_126, r_Model_token_128, r_Model_token_131, r_Model_token_133, r_Model_token_134, r_Model_token_135, r_Model_token_137, r_Model_token_140, r_Model_token_141, r_Model_token_144, r_Model_token_145, r_Model_token_146, r_Model_token_149, r_Model_token_152, r_Model_token_154, r_Model_token_155, r_Model_token_156, r_Model_token_157, r_Model_token_158, r_Model_token_159, r_Model_token_160, r_Model_token_161, r_Model_token_164, r_Model_token_167, r_Model_token_170, r_Model_token_171, r_Model_token_174, r_Model_token_175, r_Model_token_176, r_Model_token_179, r_Model_token_182, r_Model_token_185, r_Model_token_186, r_Model_token_189, r_Model_token_190, r_Model_token_192, r_Model_token_195, r_Model_token_196, r_Model_token_199, r_Model_token_200, r_Model_token_201, r_Model_token_202, r_Model_token_203, r_Model_token_204, r_Model_token_205, r_Model_token_208, r_Model_token_209, r_Model_token_210, r_Model_token_213, r_Model_token_214, r_Model_token_215, r_Model_token_218, r_Model_token_219, r_Model_token_221, r_Model_token_224, r_Model_token_225, r_Model_token_226, r_Model_token_227, r_Model_token_230, r_Model_token_231, r_Model_token_233, r_Model_token_234, r_Model_token_237, r_Model_token_239, r_Model_token_242, r_Model_token_244, r_Model_token_246, r_Model_token_249, r_Model_token_250, r_Model_token_253, r_Model_token_255, r_Model_token_256, r_Model_token_257, r_Model_token_260, r_Model_token_263, r_Model_token_264, r_Model_token_266, r_Model_token_269, r_Model_token_270, r_Model_token_273, r_Model_token_275, ai_aload, ai_callv1, am_push, am_few, ai_getf, ai_putf, ai_const, ai_callv2, ai_istore, am_cut_0, am_cut_s, am_c1, ai_iload, ai_ifge, ai_iret, ai_cmpeq, ai_cmpne, ai_iadd, ai_bin, ai_goto, ai_calls1, ai_ifne, ai_ifeq, ai_isub, ai_ifle, ai_cmpge, ai_cmpgt, kd_0, fd_0_0, fd_0_1, fd_0_2, fd_0_3, fd_0_4, kd_1, fd_1_0, fd_1_1, ln_2, kd_3, fd_3_0, fd_3_1, fd_3_2, fd_3_3, fd_3_4, fd_3_5, fd_3_6, fd_3_7, fd_3_8, fd_3_9, ln_4, ln_5, ln_6, ln_7, ln_8, ln_9, ln_10, kd_11, fd_11_0, fd_11_1, fd_11_2, fd_11_3, fd_11_4, kd_12, fd_12_0, fd_12_1, fd_12_2, fd_12_3, ln_13, ln_14, ln_15, kd_16, fd_16_0, fd_16_1, fd_16_2, ln_17, kd_18, fd_18_0, fd_18_1, kd_19, fd_19_0, fd_19_1, fd_19_2, fd_19_3, fd_19_4, fd_19_5, fd_19_6, fd_19_7, fd_19_8, fd_19_9, fd_19_10, fd_19_11, fd_19_12, fd_19_13, fd_19_14, fd_19_15, fd_19_16, fd_19_17, fd_19_18, fd_19_19, fd_19_20, ln_20, ln_21, ln_22, ln_23, ln_24, ln_25, ln_26, ln_27, ln_28, ln_29, ln_30, ln_31, ln_32, List.getElem?_cons_zero, List.getElem?_cons_succ, List.set_cons_zero, List.set_cons_succ, true_and, and_true, ↓reduceIte, Int32.reduceLT, Int32.reduceLE, li_10, or_true, true_or, ↓sp_Model_skip, ↓sp_Model_peek, ht, hb, hat, hS, am_up_ap, Nat.reduceEqDiff, hmu, htN, hpk, n0, hN2, nI_1]
  exact h
set_option maxRecDepth 100000 in
set_option maxHeartbeats 4000000 in
theorem ok_tkc_41 {G : aG} (hG : am_ok G) {K : aR} {M : aM} {S : Nat} (ht : mt_ok M) (hb : tb_ok M) (hat : at_ok M) (hS : skB (M 20) (m_tl M - cl (M 19 2)) false (cl (M 19 2)) = S) (htN : mt_ok (tkP M S)) (hpk : m_at (tkP M S) 0 = 41) (h : K (some (.int 13)) (am_up (tkP M S) 19 2 (nI (S + 1)))) : am_Met G Y_Model_token 3 [.ref 19] M K := by
  have hmu := tkP_mu M S
  have hN2 := tkP_2 M S
  have n0 : ((0 : Int32) ≤ 41) = True := eq_true (by decide)
  have n40 : ((41 : Int32) = 40) = False := eq_false (by decide)
  refine am_entry hG (by decide +kernel) (Nat.le_of_ble_eq_true rfl) ?_
  refine am_go (cuts := k_Model_token) (tb_Model_token (ok_Model_skip hG) (by decide) (ok_Model_peek hG) (by decide) (ok_Model_isByte hG) (by decide) (ok_Model_string hG) (by decide) (ok_Model_isDigit hG) (by decide) (ok_Model_isBegin hG) (by decide)) 400 _ _ _ _ ?_
  change am_run _ _ _ _ _ _ [some (.ref 19), none, none, none, none] [] _
  simp only [q_Model_token_159, r_Model_token_0, r_Model_token_1, r_Model_token_4, r_Model_token_5, r_Model_token_6, r_Model_token_9, r_Model_token_12, r_Model_token_13, r_Model_token_14, r_Model_token_17, r_Model_token_18, r_Model_token_19, r_Model_token_22, r_Model_token_24, r_Model_token_25, r_Model_token_26, r_Model_token_28, r_Model_token_31, r_Model_token_32, r_Model_token_34, r_Model_token_37, r_Model_token_38, r_Model_token_40, r_Model_token_43, r_Model_token_44, r_Model_token_45, r_Model_token_48, r_Model_token_49, r_Model_token_50, r_Model_token_53, r_Model_token_54, r_Model_token_56, r_Model_token_59, r_Model_token_61, r_Model_token_64, r_Model_token_65, r_Model_token_67, r_Model_token_70, r_Model_token_72, r_Model_token_75, r_Model_token_77, r_Model_token_78, r_Model_token_79, r_Model_token_81, r_Model_token_84, r_Model_token_85, r_Model_token_86, r_Model_token_89, r_Model_token_92, r_Model_token_95, r_Model_token_96, r_Model_token_97, r_Model_token_100, r_Model_token_103, r_Model_token_106, r_Model_token_107, r_Model_token_110, r_Model_token_111, r_Model_token_112, r_Model_token_113, r_Model_token_114, r_Model_token_117, r_Model_token_118, r_Model_token_119, r_Model_token_122, r_Model_token_123, r_Model_token_126, r_Model_token_128, r_Model_token_131, r_Model_token_133, r_Model_token_134, r_Model_token_135, r_Model_token_137, r_Model_token_140, r_Model_token_141, r_Model_token_144, r_Model_token_145, r_Model_token_146, r_Model_token_149, r_Model_token_152, r_Model_token_154, r_Model_token_155, r_Model_token_156, r_Model_token_157, r_Model_token_158, r_Model_token_159, r_Model_token_160, r_Model_token_161, r_Model_token_164, r_Model_token_167, r_Model_token_170, r_Model_token_171, r_Model_token_174, r_Model_token_175, r_Model_token_176, r_Model_token_179, r_Model_token_182, r_Model_token_185, r_Model_token_186, r_Model_token_189, r_Model_token_190, r_Model_token_192, r_Model_token_195, r_Model_token_196, r_Model_token_199, r_Model_token_200, r_Model_token_201, r_Model_token_202, r_Model_token_203, r_Model_token_204, r_Model_token_205, r_Model_token_208, r_Model_token_209, r_Model_token_210, r_Model_token_213, r_Model_token_214, r_Model_token_215, r_Model_token_218, r_Model_token_219, r_Model_token_221, r_Model_token_224, r_Model_token_225, r_Model_token_226, r_Model_token_227, r_Model_token_230, r_Model_token_231, r_Model_token_233, r_Model_token_234, r_Model_token_237, r_Model_token_239, r_Model_token_242, r_Model_token_244, r_Model_token_246, r_Model_token_249, r_Model_token_250, r_Model_token_253, r_Model_token_255, r_Model_token_256, r_Model_token_257, r_Model_token_260, r_Model_token_263, r_Model_token_264, r_Model_token_266, r_Model_token_269, r_Model_token_270, r_Model_token_273, r_Model_token_275, ai_aload, ai_callv1, am_push, am_few, ai_getf, ai_putf, ai_const, ai_callv2, ai_istore, am_cut_0, am_cut_s, am_c1, ai_iload, ai_ifge, ai_iret, ai_cmpeq, ai_cmpne, ai_iadd, ai_bin, ai_goto, ai_calls1, ai_ifne, ai_ifeq, ai_isub, ai_ifle, ai_cmpge, ai_cmpgt, kd_0, fd_0_0, fd_0_1, fd_0_2, fd_0_3, fd_0_4, kd_1, fd_1_0, fd_1_1, ln_2, kd_3, fd_3_0, fd_3_1, fd_3_2, fd_3_3, fd_3_4, fd_3_5, fd_3_6, fd_3_7, fd_3_8, fd_3_9, ln_4, ln_5, ln_6, ln_7, ln_8, ln_9, ln_10, kd_11, fd_11_0, fd_11_1, fd_11_2, fd_11_3, fd_11_4, kd_12, fd_12_0, fd_12_1, fd_12_2, fd_12_3, ln_13, ln_14, ln_15, kd_16, fd_16_0, fd_16_1, fd_16_2, ln_17, kd_18, fd_18_0, fd_18_1, kd_19, fd_19_0, fd_19_1, fd_19_2, fd_19_3, fd_19_4, fd_19_5, fd_19_6, fd_19_7, fd_19_8, fd_19_9, fd_19_10, fd_19_11, fd_19_12, fd_19_13, fd_19_14, fd_19_15, fd_19_16, fd_19_17, fd_19_18, fd_19_19, fd_19_20, ln_20, ln_21, ln_22, ln_23, ln_24, ln_25, ln_26, ln_27, ln_28, ln_29, ln_30, ln_31, ln_32, List.getElem?_cons_zero, List.getElem?_cons_succ, List.set_cons_zero, List.set_cons_succ, true_and, and_true, ↓reduceIte, Int32.reduceLT, Int32.reduceLE, li_10, or_true, true_or, ↓sp_Model_skip, ↓sp_Model_peek, ht, hb, hat, hS, am_up_ap, Nat.reduceEqDiff, hmu, htN, hpk, n0, hN2, nI_1, n40]
  exact h
set_option maxRecDepth 100000 in
set_option maxHeartbeats 4000000 in
theorem ok_tkc_39 {G : aG} (hG : am_ok G) {K : aR} {M : aM} {S : Nat} (ht : mt_ok M) (hb : tb_ok M) (hat : at_ok M) (hS : skB (M 20) (m_tl M - cl (M 19 2)) false (cl (M 19 2)) = S) (htN : mt_ok (tkP M S)) (hpk : m_at (tkP M S) 0 = 39) (h : K (some (.int 14)) (am_up (tkP M S) 19 2 (nI (S + 1)))) : am_Met G Y_Model_token 3 [.ref 19] M K := by
  have hmu := tkP_mu M S
  have hN2 := tkP_2 M S
  have n0 : ((0 : Int32) ≤ 39) = True := eq_true (by decide)
  have n40 : ((39 : Int32) = 40) = False := eq_false (by decide)
  have n41 : ((39 : Int32) = 41) = False := eq_false (by decide)
  refine am_entry hG (by decide +kernel) (Nat.le_of_ble_eq_true rfl) ?_
  refine am_go (cuts := k_Model_token) (tb_Model_token (ok_Model_skip hG) (by decide) (ok_Model_peek hG) (by decide) (ok_Model_isByte hG) (by decide) (ok_Model_string hG) (by decide) (ok_Model_isDigit hG) (by decide) (ok_Model_isBegin hG) (by decide)) 400 _ _ _ _ ?_
  change am_run _ _ _ _ _ _ [some (.ref 19), none, none, none, none] [] _
  simp only [q_Model_token_159, r_Model_token_0, r_Model_token_1, r_Model_token_4, r_Model_token_5, r_Model_token_6, r_Model_token_9, r_Model_token_12, r_Model_token_13, r_Model_token_14, r_Model_token_17, r_Model_token_18, r_Model_token_19, r_Model_token_22, r_Model_token_24, r_Model_token_25, r_Model_token_26, r_Model_token_28, r_Model_token_31, r_Model_token_32, r_Model_token_34, r_Model_token_37, r_Model_token_38, r_Model_token_40, r_Model_token_43, r_Model_token_44, r_Model_token_45, r_Model_token_48, r_Model_token_49, r_Model_token_50, r_Model_token_53, r_Model_token_54, r_Model_token_56, r_Model_token_59, r_Model_token_61, r_Model_token_64, r_Model_token_65, r_Model_token_67, r_Model_token_70, r_Model_token_72, r_Model_token_75, r_Model_token_77, r_Model_token_78, r_Model_token_79, r_Model_token_81, r_Model_token_84, r_Model_token_85, r_Model_token_86, r_Model_token_89, r_Model_token_92, r_Model_token_95, r_Model_token_96, r_Model_token_97, r_Model_token_100, r_Model_token_103, r_Model_token_106, r_Model_token_107, r_Model_token_110, r_Model_token_111, r_Model_token_112, r_Model_token_113, r_Model_token_114, r_Model_token_117, r_Model_token_118, r_Model_token_119, r_Model_token_122, r_Model_token_123, r_Model_token_126, r_Model_token_128, r_Model_token_131, r_Model_token_133, r_Model_token_134, r_Model_token_135, r_Model_token_137, r_Model_token_140, r_Model_token_141, r_Model_token_144, r_Model_token_145, r_Model_token_146, r_Model_token_149, r_Model_token_152, r_Model_token_154, r_Model_token_155, r_Model_token_156, r_Model_token_157, r_Model_token_158, r_Model_token_159, r_Model_token_160, r_Model_token_161, r_Model_token_164, r_Model_token_167, r_Model_token_170, r_Model_token_171, r_Model_token_174, r_Model_token_175, r_Model_token_176, r_Model_token_179, r_Model_token_182, r_Model_token_185, r_Model_token_186, r_Model_token_189, r_Model_token_190, r_Model_token_192, r_Model_token_195, r_Model_token_196, r_Model_token_199, r_Model_token_200, r_Model_token_201, r_Model_token_202, r_Model_token_203, r_Model_token_204, r_Model_token_205, r_Model_token_208, r_Model_token_209, r_Model_token_210, r_Model_token_213, r_Model_token_214, r_Model_token_215, r_Model_token_218, r_Model_token_219, r_Model_token_221, r_Model_token_224, r_Model_token_225, r_Model_token_226, r_Model_token_227, r_Model_token_230, r_Model_token_231, r_Model_token_233, r_Model_token_234, r_Model_token_237, r_Model_token_239, r_Model_token_242, r_Model_token_244, r_Model_token_246, r_Model_token_249, r_Model_token_250, r_Model_token_253, r_Model_token_255, r_Model_token_256, r_Model_token_257, r_Model_token_260, r_Model_token_263, r_Model_token_264, r_Model_token_266, r_Model_token_269, r_Model_token_270, r_Model_token_273, r_Model_token_275, ai_aload, ai_callv1, am_push, am_few, ai_getf, ai_putf, ai_const, ai_callv2, ai_istore, am_cut_0, am_cut_s, am_c1, ai_iload, ai_ifge, ai_iret, ai_cmpeq, ai_cmpne, ai_iadd, ai_bin, ai_goto, ai_calls1, ai_ifne, ai_ifeq, ai_isub, ai_ifle, ai_cmpge, ai_cmpgt, kd_0, fd_0_0, fd_0_1, fd_0_2, fd_0_3, fd_0_4, kd_1, fd_1_0, fd_1_1, ln_2, kd_3, fd_3_0, fd_3_1, fd_3_2, fd_3_3, fd_3_4, fd_3_5, fd_3_6, fd_3_7, fd_3_8, fd_3_9, ln_4, ln_5, ln_6, ln_7, ln_8, ln_9, ln_10, kd_11, fd_11_0, fd_11_1, fd_11_2, fd_11_3, fd_11_4, kd_12, fd_12_0, fd_12_1, fd_12_2, fd_12_3, ln_13, ln_14, ln_15, kd_16, fd_16_0, fd_16_1, fd_16_2, ln_17, kd_18, fd_18_0, fd_18_1, kd_19, fd_19_0, fd_19_1, fd_19_2, fd_19_3, fd_19_4, fd_19_5, fd_19_6, fd_19_7, fd_19_8, fd_19_9, fd_19_10, fd_19_11, fd_19_12, fd_19_13, fd_19_14, fd_19_15, fd_19_16, fd_19_17, fd_19_18, fd_19_19, fd_19_20, ln_20, ln_21, ln_22, ln_23, ln_24, ln_25, ln_26, ln_27, ln_28, ln_29, ln_30, ln_31, ln_32, List.getElem?_cons_zero, List.getElem?_cons_succ, List.set_cons_zero, List.set_cons_succ, true_and, and_true, ↓reduceIte, Int32.reduceLT, Int32.reduceLE, li_10, or_true, true_or, ↓sp_Model_skip, ↓sp_Model_peek, ht, hb, hat, hS, am_up_ap, Nat.reduceEqDiff, hmu, htN, hpk, n0, hN2, nI_1, n40, n41]
  exact h
set_option maxRecDepth 100000 in
set_option maxHeartbeats 4000000 in
theorem ok_tkc_46 {G : aG} (hG : am_ok G) {K : aR} {M : aM} {S : Nat} (ht : mt_ok M) (hb : tb_ok M) (hat : at_ok M) (hS : skB (M 20) (m_tl M - cl (M 19 2)) false (cl (M 19 2)) = S) (htN : mt_ok (tkP M S)) (hpk : m_at (tkP M S) 0 = 46) {x y : Int32} (p1 : m_at (tkP M S) (-1) = x) (p2 : m_at (tkP M S) 1 = y) (h : K (some (.int (if wB x = true then 11 else if wB y = true then 11 else 15))) (am_up (tkP M S) 19 2 (nI (S + 1)))) : am_Met G Y_Model_token 3 [.ref 19] M K := by
  have hmu := tkP_mu M S
  have hN2 := tkP_2 M S
  have n0 : ((0 : Int32) ≤ 46) = True := eq_true (by decide)
  have n40 : ((46 : Int32) = 40) = False := eq_false (by decide)
  have n41 : ((46 : Int32) = 41) = False := eq_false (by decide)
  have n39 : ((46 : Int32) = 39) = False := eq_false (by decide)
  cases w1 : wB x
  · cases w2 : wB y
    · simp only [w1, w2, Bool.false_eq_true, ↓reduceIte] at h
      refine am_entry hG (by decide +kernel) (Nat.le_of_ble_eq_true rfl) ?_
      refine am_go (cuts := k_Model_token) (tb_Model_token (ok_Model_skip hG) (by decide) (ok_Model_peek hG) (by decide) (ok_Model_isByte hG) (by decide) (ok_Model_string hG) (by decide) (ok_Model_isDigit hG) (by decide) (ok_Model_isBegin hG) (by decide)) 400 _ _ _ _ ?_
      change am_run _ _ _ _ _ _ [some (.ref 19), none, none, none, none] [] _
      simp only [q_Model_token_159, r_Model_token_0, r_Model_token_1, r_Model_token_4, r_Model_token_5, r_Model_token_6, r_Model_token_9, r_Model_token_12, r_Model_token_13, r_Model_token_14, r_Model_token_17, r_Model_token_18, r_Model_token_19, r_Model_token_22, r_Model_token_24, r_Model_token_25, r_Model_token_26, r_Model_token_28, r_Model_token_31, r_Model_token_32, r_Model_token_34, r_Model_token_37, r_Model_token_38, r_Model_token_40, r_Model_token_43, r_Model_token_44, r_Model_token_45, r_Model_token_48, r_Model_token_49, r_Model_token_50, r_Model_token_53, r_Model_token_54, r_Model_token_56, r_Model_token_59, r_Model_token_61, r_Model_token_64, r_Model_token_65, r_Model_token_67, r_Model_token_70, r_Model_token_72, r_Model_token_75, r_Model_token_77, r_Model_token_78, r_Model_token_79, r_Model_token_81, r_Model_token_84, r_Model_token_85, r_Model_token_86, r_Model_token_89, r_Model_token_92, r_Model_token_95, r_Model_token_96, r_Model_token_97, r_Model_token_100, r_Model_token_103, r_Model_token_106, r_Model_token_107, r_Model_token_110, r_Model_token_111, r_Model_token_112, r_Model_token_113, r_Model_token_114, r_Model_token_117, r_Model_token_118, r_Model_token_119, r_Model_token_122, r_Model_token_123, r_Model_token_126, r_Model_token_128, r_Model_token_131, r_Model_token_133, r_Model_token_134, r_Model_token_135, r_Model_token_137, r_Model_token_140, r_Model_token_141, r_Model_token_144, r_Model_token_145, r_Model_token_146, r_Model_token_149, r_Model_token_152, r_Model_token_154, r_Model_token_155, r_Model_token_156, r_Model_token_157, r_Model_token_158, r_Model_token_159, r_Model_token_160, r_Model_token_161, r_Model_token_164, r_Model_token_167, r_Model_token_170, r_Model_token_171, r_Model_token_174, r_Model_token_175, r_Model_token_176, r_Model_token_179, r_Model_token_182, r_Model_token_185, r_Model_token_186, r_Model_token_189, r_Model_token_190, r_Model_token_192, r_Model_token_195, r_Model_token_196, r_Model_token_199, r_Model_token_200, r_Model_token_201, r_Model_token_202, r_Model_token_203, r_Model_token_204, r_Model_token_205, r_Model_token_208, r_Model_token_209, r_Model_token_210, r_Model_token_213, r_Model_token_214, r_Model_token_215, r_Model_token_218, r_Model_token_219, r_Model_token_221, r_Model_token_224, r_Model_token_225, r_Model_token_226, r_Model_token_227, r_Model_token_230, r_Model_token_231, r_Model_token_233, r_Model_token_234, r_Model_token_237, r_Model_token_239, r_Model_token_242, r_Model_token_244, r_Model_token_246, r_Model_token_249, r_Model_token_250, r_Model_token_253, r_Model_token_255, r_Model_token_256, r_Model_token_257, r_Model_token_260, r_Model_token_263, r_Model_token_264, r_Model_token_266, r_Model_token_269, r_Model_token_270, r_Model_token_273, r_Model_token_275, ai_aload, ai_callv1, am_push, am_few, ai_getf, ai_putf, ai_const, ai_callv2, ai_istore, am_cut_0, am_cut_s, am_c1, ai_iload, ai_ifge, ai_iret, ai_cmpeq, ai_cmpne, ai_iadd, ai_bin, ai_goto, ai_calls1, ai_ifne, ai_ifeq, ai_isub, ai_ifle, ai_cmpge, ai_cmpgt, kd_0, fd_0_0, fd_0_1, fd_0_2, fd_0_3, fd_0_4, kd_1, fd_1_0, fd_1_1, ln_2, kd_3, fd_3_0, fd_3_1, fd_3_2, fd_3_3, fd_3_4, fd_3_5, fd_3_6, fd_3_7, fd_3_8, fd_3_9, ln_4, ln_5, ln_6, ln_7, ln_8, ln_9, ln_10, kd_11, fd_11_0, fd_11_1, fd_11_2, fd_11_3, fd_11_4, kd_12, fd_12_0, fd_12_1, fd_12_2, fd_12_3, ln_13, ln_14, ln_15, kd_16, fd_16_0, fd_16_1, fd_16_2, ln_17, kd_18, fd_18_0, fd_18_1, kd_19, fd_19_0, fd_19_1, fd_19_2, fd_19_3, fd_19_4, fd_19_5, fd_19_6, fd_19_7, fd_19_8, fd_19_9, fd_19_10, fd_19_11, fd_19_12, fd_19_13, fd_19_14, fd_19_15, fd_19_16, fd_19_17, fd_19_18, fd_19_19, fd_19_20, ln_20, ln_21, ln_22, ln_23, ln_24, ln_25, ln_26, ln_27, ln_28, ln_29, ln_30, ln_31, ln_32, List.getElem?_cons_zero, List.getElem?_cons_succ, List.set_cons_zero, List.set_cons_succ, true_and, and_true, ↓reduceIte, Int32.reduceLT, Int32.reduceLE, li_10, or_true, true_or, ↓sp_Model_skip, ↓sp_Model_peek, ↓sp_Model_isByte, ht, hb, hat, hS, am_up_ap, Nat.reduceEqDiff, hmu, htN, hpk, n0, hN2, nI_1, n40, n41, n39, p1, p2, w1, w2, b2_eq0]
      exact h
    · simp only [w1, w2, Bool.false_eq_true, ↓reduceIte] at h
      refine am_entry hG (by decide +kernel) (Nat.le_of_ble_eq_true rfl) ?_
      refine am_go (cuts := k_Model_token) (tb_Model_token (ok_Model_skip hG) (by decide) (ok_Model_peek hG) (by decide) (ok_Model_isByte hG) (by decide) (ok_Model_string hG) (by decide) (ok_Model_isDigit hG) (by decide) (ok_Model_isBegin hG) (by decide)) 400 _ _ _ _ ?_
      change am_run _ _ _ _ _ _ [some (.ref 19), none, none, none, none] [] _
      simp only [q_Model_token_159, r_Model_token_0, r_Model_token_1, r_Model_token_4, r_Model_token_5, r_Model_token_6, r_Model_token_9, r_Model_token_12, r_Model_token_13, r_Model_token_14, r_Model_token_17, r_Model_token_18, r_Model_token_19, r_Model_token_22, r_Model_token_24, r_Model_token_25, r_Model_token_26, r_Model_token_28, r_Model_token_31, r_Model_token_32, r_Model_token_34, r_Model_token_37, r_Model_token_38, r_Model_token_40, r_Model_token_43, r_Model_token_44, r_Model_token_45, r_Model_token_48, r_Model_token_49, r_Model_token_50, r_Model_token_53, r_Model_token_54, r_Model_token_56, r_Model_token_59, r_Model_token_61, r_Model_token_64, r_Model_token_65, r_Model_token_67, r_Model_token_70, r_Model_token_72, r_Model_token_75, r_Model_token_77, r_Model_token_78, r_Model_token_79, r_Model_token_81, r_Model_token_84, r_Model_token_85, r_Model_token_86, r_Model_token_89, r_Model_token_92, r_Model_token_95, r_Model_token_96, r_Model_token_97, r_Model_token_100, r_Model_token_103, r_Model_token_106, r_Model_token_107, r_Model_token_110, r_Model_token_111, r_Model_token_112, r_Model_token_113, r_Model_token_114, r_Model_token_117, r_Model_token_118, r_Model_token_119, r_Model_token_122, r_Model_token_123, r_Model_token_126, r_Model_token_128, r_Model_token_131, r_Model_token_133, r_Model_token_134, r_Model_token_135, r_Model_token_137, r_Model_token_140, r_Model_token_141, r_Model_token_144, r_Model_token_145, r_Model_token_146, r_Model_token_149, r_Model_token_152, r_Model_token_154, r_Model_token_155, r_Model_token_156, r_Model_token_157, r_Model_token_158, r_Model_token_159, r_Model_token_160, r_Model_token_161, r_Model_token_164, r_Model_token_167, r_Model_token_170, r_Model_token_171, r_Model_token_174, r_Model_token_175, r_Model_token_176, r_Model_token_179, r_Model_token_182, r_Model_token_185, r_Model_token_186, r_Model_token_189, r_Model_token_190, r_Model_token_192, r_Model_token_195, r_Model_token_196, r_Model_token_199, r_Model_token_200, r_Model_token_201, r_Model_token_202, r_Model_token_203, r_Model_token_204, r_Model_token_205, r_Model_token_208, r_Model_token_209, r_Model_token_210, r_Model_token_213, r_Model_token_214, r_Model_token_215, r_Model_token_218, r_Model_token_219, r_Model_token_221, r_Model_token_224, r_Model_token_225, r_Model_token_226, r_Model_token_227, r_Model_token_230, r_Model_token_231, r_Model_token_233, r_Model_token_234, r_Model_token_237, r_Model_token_239, r_Model_token_242, r_Model_token_244, r_Model_token_246, r_Model_token_249, r_Model_token_250, r_Model_token_253, r_Model_token_255, r_Model_token_256, r_Model_token_257, r_Model_token_260, r_Model_token_263, r_Model_token_264, r_Model_token_266, r_Model_token_269, r_Model_token_270, r_Model_token_273, r_Model_token_275, ai_aload, ai_callv1, am_push, am_few, ai_getf, ai_putf, ai_const, ai_callv2, ai_istore, am_cut_0, am_cut_s, am_c1, ai_iload, ai_ifge, ai_iret, ai_cmpeq, ai_cmpne, ai_iadd, ai_bin, ai_goto, ai_calls1, ai_ifne, ai_ifeq, ai_isub, ai_ifle, ai_cmpge, ai_cmpgt, kd_0, fd_0_0, fd_0_1, fd_0_2, fd_0_3, fd_0_4, kd_1, fd_1_0, fd_1_1, ln_2, kd_3, fd_3_0, fd_3_1, fd_3_2, fd_3_3, fd_3_4, fd_3_5, fd_3_6, fd_3_7, fd_3_8, fd_3_9, ln_4, ln_5, ln_6, ln_7, ln_8, ln_9, ln_10, kd_11, fd_11_0, fd_11_1, fd_11_2, fd_11_3, fd_11_4, kd_12, fd_12_0, fd_12_1, fd_12_2, fd_12_3, ln_13, ln_14, ln_15, kd_16, fd_16_0, fd_16_1, fd_16_2, ln_17, kd_18, fd_18_0, fd_18_1, kd_19, fd_19_0, fd_19_1, fd_19_2, fd_19_3, fd_19_4, fd_19_5, fd_19_6, fd_19_7, fd_19_8, fd_19_9, fd_19_10, fd_19_11, fd_19_12, fd_19_13, fd_19_14, fd_19_15, fd_19_16, fd_19_17, fd_19_18, fd_19_19, fd_19_20, ln_20, ln_21, ln_22, ln_23, ln_24, ln_25, ln_26, ln_27, ln_28, ln_29, ln_30, ln_31, ln_32, List.getElem?_cons_zero, List.getElem?_cons_succ, List.set_cons_zero, List.set_cons_succ, true_and, and_true, ↓reduceIte, Int32.reduceLT, Int32.reduceLE, li_10, or_true, true_or, ↓sp_Model_skip, ↓sp_Model_peek, ↓sp_Model_isByte, ht, hb, hat, hS, am_up_ap, Nat.reduceEqDiff, hmu, htN, hpk, n0, hN2, nI_1, n40, n41, n39, p1, p2, w1, w2, b2_eq0, Bool.true_eq_false]
      exact h
  · simp only [w1, ↓reduceIte] at h
    refine am_entry hG (by decide +kernel) (Nat.le_of_ble_eq_true rfl) ?_
    refine am_go (cuts := k_Model_token) (tb_Model_token (ok_Model_skip hG) (by decide) (ok_Model_peek hG) (by decide) (ok_Model_isByte hG) (by decide) (ok_Model_string hG) (by decide) (ok_Model_isDigit hG) (by decide) (ok_Model_isBegin hG) (by decide)) 400 _ _ _ _ ?_
    change am_run _ _ _ _ _ _ [some (.ref 19), none, none, none, none] [] _
    simp only [q_Model_token_159, r_Model_token_0, r_Model_token_1, r_Model_token_4, r_Model_token_5, r_Model_token_6, r_Model_token_9, r_Model_token_12, r_Model_token_13, r_Model_token_14, r_Model_token_17, r_Model_token_18, r_Model_token_19, r_Model_token_22, r_Model_token_24, r_Model_token_25, r_Model_token_26, r_Model_token_28, r_Model_token_31, r_Model_token_32, r_Model_token_34, r_Model_token_37, r_Model_token_38, r_Model_token_40, r_Model_token_43, r_Model_token_44, r_Model_token_45, r_Model_token_48, r_Model_token_49, r_Model_token_50, r_Model_token_53, r_Model_token_54, r_Model_token_56, r_Model_token_59, r_Model_token_61, r_Model_token_64, r_Model_token_65, r_Model_token_67, r_Model_token_70, r_Model_token_72, r_Model_token_75, r_Model_token_77, r_Model_token_78, r_Model_token_79, r_Model_token_81, r_Model_token_84, r_Model_token_85, r_Model_token_86, r_Model_token_89, r_Model_token_92, r_Model_token_95, r_Model_token_96, r_Model_token_97, r_Model_token_100, r_Model_token_103, r_Model_token_106, r_Model_token_107, r_Model_token_110, r_Model_token_111, r_Model_token_112, r_Model_token_113, r_Model_token_114, r_Model_token_117, r_Model_token_118, r_Model_token_119, r_Model_token_122, r_Model_token_123, r_Model_token_126, r_Model_token_128, r_Model_token_131, r_Model_token_133, r_Model_token_134, r_Model_token_135, r_Model_token_137, r_Model_token_140, r_Model_token_141, r_Model_token_144, r_Model_token_145, r_Model_token_146, r_Model_token_149, r_Model_token_152, r_Model_token_154, r_Model_token_155, r_Model_token_156, r_Model_token_157, r_Model_token_158, r_Model_token_159, r_Model_token_160, r_Model_token_161, r_Model_token_164, r_Model_token_167, r_Model_token_170, r_Model_token_171, r_Model_token_174, r_Model_token_175, r_Model_token_176, r_Model_token_179, r_Model_token_182, r_Model_token_185, r_Model_token_186, r_Model_token_189, r_Model_token_190, r_Model_token_192, r_Model_token_195, r_Model_token_196, r_Model_token_199, r_Model_token_200, r_Model_token_201, r_Model_token_202, r_Model_token_203, r_Model_token_204, r_Model_token_205, r_Model_token_208, r_Model_token_209, r_Model_token_210, r_Model_token_213, r_Model_token_214, r_Model_token_215, r_Model_token_218, r_Model_token_219, r_Model_token_221, r_Model_token_224, r_Model_token_225, r_Model_token_226, r_Model_token_227, r_Model_token_230, r_Model_token_231, r_Model_token_233, r_Model_token_234, r_Model_token_237, r_Model_token_239, r_Model_token_242, r_Model_token_244, r_Model_token_246, r_Model_token_249, r_Model_token_250, r_Model_token_253, r_Model_token_255, r_Model_token_256, r_Model_token_257, r_Model_token_260, r_Model_token_263, r_Model_token_264, r_Model_token_266, r_Model_token_269, r_Model_token_270, r_Model_token_273, r_Model_token_275, ai_aload, ai_callv1, am_push, am_few, ai_getf, ai_putf, ai_const, ai_callv2, ai_istore, am_cut_0, am_cut_s, am_c1, ai_iload, ai_ifge, ai_iret, ai_cmpeq, ai_cmpne, ai_iadd, ai_bin, ai_goto, ai_calls1, ai_ifne, ai_ifeq, ai_isub, ai_ifle, ai_cmpge, ai_cmpgt, kd_0, fd_0_0, fd_0_1, fd_0_2, fd_0_3, fd_0_4, kd_1, fd_1_0, fd_1_1, ln_2, kd_3, fd_3_0, fd_3_1, fd_3_2, fd_3_3, fd_3_4, fd_3_5, fd_3_6, fd_3_7, fd_3_8, fd_3_9, ln_4, ln_5, ln_6, ln_7, ln_8, ln_9, ln_10, kd_11, fd_11_0, fd_11_1, fd_11_2, fd_11_3, fd_11_4, kd_12, fd_12_0, fd_12_1, fd_12_2, fd_12_3, ln_13, ln_14, ln_15, kd_16, fd_16_0, fd_16_1, fd_16_2, ln_17, kd_18, fd_18_0, fd_18_1, kd_19, fd_19_0, fd_19_1, fd_19_2, fd_19_3, fd_19_4, fd_19_5, fd_19_6, fd_19_7, fd_19_8, fd_19_9, fd_19_10, fd_19_11, fd_19_12, fd_19_13, fd_19_14, fd_19_15, fd_19_16, fd_19_17, fd_19_18, fd_19_19, fd_19_20, ln_20, ln_21, ln_22, ln_23, ln_24, ln_25, ln_26, ln_27, ln_28, ln_29, ln_30, ln_31, ln_32, List.getElem?_cons_zero, List.getElem?_cons_succ, List.set_cons_zero, List.set_cons_succ, true_and, and_true, ↓reduceIte, Int32.reduceLT, Int32.reduceLE, li_10, or_true, true_or, ↓sp_Model_skip, ↓sp_Model_peek, ↓sp_Model_isByte, ht, hb, hat, hS, am_up_ap, Nat.reduceEqDiff, hmu, htN, hpk, n0, hN2, nI_1, n40, n41, n39, p1, p2, w1, b2_eq0, Bool.true_eq_false]
    exact h
set_option maxRecDepth 100000 in
set_option maxHeartbeats 4000000 in
theorem ok_tkc_34 {G : aG} (hG : am_ok G) {K : aR} {M : aM} {S : Nat} (ht : mt_ok M) (hb : tb_ok M) (hat : at_ok M) (hS : skB (M 20) (m_tl M - cl (M 19 2)) false (cl (M 19 2)) = S) (htN : mt_ok (tkP M S)) (hatN : at_ok (tkP M S)) (hpk : m_at (tkP M S) 0 = 34) (h : strK K (tkP M S) (stE (tkP M S 20) (m_tl (tkP M S)) 21 (cl (tkP M S 19 2) + 1))) : am_Met G Y_Model_token 3 [.ref 19] M K := by
  have hmu := tkP_mu M S
  have n0 : ((0 : Int32) ≤ 34) = True := eq_true (by decide)
  have n40 : ((34 : Int32) = 40) = False := eq_false (by decide)
  have n41 : ((34 : Int32) = 41) = False := eq_false (by decide)
  have n39 : ((34 : Int32) = 39) = False := eq_false (by decide)
  have n46 : ((34 : Int32) = 46) = False := eq_false (by decide)
  refine am_entry hG (by decide +kernel) (Nat.le_of_ble_eq_true rfl) ?_
  refine am_go (cuts := k_Model_token) (tb_Model_token (ok_Model_skip hG) (by decide) (ok_Model_peek hG) (by decide) (ok_Model_isByte hG) (by decide) (ok_Model_string hG) (by decide) (ok_Model_isDigit hG) (by decide) (ok_Model_isBegin hG) (by decide)) 400 _ _ _ _ ?_
  change am_run _ _ _ _ _ _ [some (.ref 19), none, none, none, none] [] _
  simp only [q_Model_token_159, r_Model_token_0, r_Model_token_1, r_Model_token_4, r_Model_token_5, r_Model_token_6, r_Model_token_9, r_Model_token_12, r_Model_token_13, r_Model_token_14, r_Model_token_17, r_Model_token_18, r_Model_token_19, r_Model_token_22, r_Model_token_24, r_Model_token_25, r_Model_token_26, r_Model_token_28, r_Model_token_31, r_Model_token_32, r_Model_token_34, r_Model_token_37, r_Model_token_38, r_Model_token_40, r_Model_token_43, r_Model_token_44, r_Model_token_45, r_Model_token_48, r_Model_token_49, r_Model_token_50, r_Model_token_53, r_Model_token_54, r_Model_token_56, r_Model_token_59, r_Model_token_61, r_Model_token_64, r_Model_token_65, r_Model_token_67, r_Model_token_70, r_Model_token_72, r_Model_token_75, r_Model_token_77, r_Model_token_78, r_Model_token_79, r_Model_token_81, r_Model_token_84, r_Model_token_85, r_Model_token_86, r_Model_token_89, r_Model_token_92, r_Model_token_95, r_Model_token_96, r_Model_token_97, r_Model_token_100, r_Model_token_103, r_Model_token_106, r_Model_token_107, r_Model_token_110, r_Model_token_111, r_Model_token_112, r_Model_token_113, r_Model_token_114, r_Model_token_117, r_Model_token_118, r_Model_token_119, r_Model_token_122, r_Model_token_123, r_Model_token_126, r_Model_token_128, r_Model_token_131, r_Model_token_133, r_Model_token_134, r_Model_token_135, r_Model_token_137, r_Model_token_140, r_Model_token_141, r_Model_token_144, r_Model_token_145, r_Model_token_146, r_Model_token_149, r_Model_token_152, r_Model_token_154, r_Model_token_155, r_Model_token_156, r_Model_token_157, r_Model_token_158, r_Model_token_159, r_Model_token_160, r_Model_token_161, r_Model_token_164, r_Model_token_167, r_Model_token_170, r_Model_token_171, r_Model_token_174, r_Model_token_175, r_Model_token_176, r_Model_token_179, r_Model_token_182, r_Model_token_185, r_Model_token_186, r_Model_token_189, r_Model_token_190, r_Model_token_192, r_Model_token_195, r_Model_token_196, r_Model_token_199, r_Model_token_200, r_Model_token_201, r_Model_token_202, r_Model_token_203, r_Model_token_204, r_Model_token_205, r_Model_token_208, r_Model_token_209, r_Model_token_210, r_Model_token_213, r_Model_token_214, r_Model_token_215, r_Model_token_218, r_Model_token_219, r_Model_token_221, r_Model_token_224, r_Model_token_225, r_Model_token_226, r_Model_token_227, r_Model_token_230, r_Model_token_231, r_Model_token_233, r_Model_token_234, r_Model_token_237, r_Model_token_239, r_Model_token_242, r_Model_token_244, r_Model_token_246, r_Model_token_249, r_Model_token_250, r_Model_token_253, r_Model_token_255, r_Model_token_256, r_Model_token_257, r_Model_token_260, r_Model_token_263, r_Model_token_264, r_Model_token_266, r_Model_token_269, r_Model_token_270, r_Model_token_273, r_Model_token_275, ai_aload, ai_callv1, am_push, am_few, ai_getf, ai_putf, ai_const, ai_callv2, ai_istore, am_cut_0, am_cut_s, am_c1, ai_iload, ai_ifge, ai_iret, ai_cmpeq, ai_cmpne, ai_iadd, ai_bin, ai_goto, ai_calls1, ai_ifne, ai_ifeq, ai_isub, ai_ifle, ai_cmpge, ai_cmpgt, kd_0, fd_0_0, fd_0_1, fd_0_2, fd_0_3, fd_0_4, kd_1, fd_1_0, fd_1_1, ln_2, kd_3, fd_3_0, fd_3_1, fd_3_2, fd_3_3, fd_3_4, fd_3_5, fd_3_6, fd_3_7, fd_3_8, fd_3_9, ln_4, ln_5, ln_6, ln_7, ln_8, ln_9, ln_10, kd_11, fd_11_0, fd_11_1, fd_11_2, fd_11_3, fd_11_4, kd_12, fd_12_0, fd_12_1, fd_12_2, fd_12_3, ln_13, ln_14, ln_15, kd_16, fd_16_0, fd_16_1, fd_16_2, ln_17, kd_18, fd_18_0, fd_18_1, kd_19, fd_19_0, fd_19_1, fd_19_2, fd_19_3, fd_19_4, fd_19_5, fd_19_6, fd_19_7, fd_19_8, fd_19_9, fd_19_10, fd_19_11, fd_19_12, fd_19_13, fd_19_14, fd_19_15, fd_19_16, fd_19_17, fd_19_18, fd_19_19, fd_19_20, ln_20, ln_21, ln_22, ln_23, ln_24, ln_25, ln_26, ln_27, ln_28, ln_29, ln_30, ln_31, ln_32, List.getElem?_cons_zero, List.getElem?_cons_succ, List.set_cons_zero, List.set_cons_succ, true_and, and_true, ↓reduceIte, Int32.reduceLT, Int32.reduceLE, li_10, or_true, true_or, ↓sp_Model_skip, ↓sp_Model_peek, ↓sp_Model_string, ht, hb, hat, hS, am_up_ap, Nat.reduceEqDiff, hmu, htN, hpk, n0, hatN, n40, n41, n39, n46]
  exact h
set_option maxRecDepth 100000 in
set_option maxHeartbeats 4000000 in
theorem ok_tkc_bad {G : aG} (hG : am_ok G) {K : aR} {M : aM} {S : Nat} (ht : mt_ok M) (hb : tb_ok M) (hat : at_ok M) (hS : skB (M 20) (m_tl M - cl (M 19 2)) false (cl (M 19 2)) = S) (htN : mt_ok (tkP M S)) {B : Int32} (hpk : m_at (tkP M S) 0 = B) (n0 : 0 ≤ B) (n40 : ¬ B = 40) (n41 : ¬ B = 41) (n39 : ¬ B = 39) (n46 : ¬ B = 46) (n34 : ¬ B = 34) (cw : wB B = false) (h : K (some (.int 11)) (tkP M S)) : am_Met G Y_Model_token 3 [.ref 19] M K := by
  have hmu := tkP_mu M S
  refine am_entry hG (by decide +kernel) (Nat.le_of_ble_eq_true rfl) ?_
  refine am_go (cuts := k_Model_token) (tb_Model_token (ok_Model_skip hG) (by decide) (ok_Model_peek hG) (by decide) (ok_Model_isByte hG) (by decide) (ok_Model_string hG) (by decide) (ok_Model_isDigit hG) (by decide) (ok_Model_isBegin hG) (by decide)) 400 _ _ _ _ ?_
  change am_run _ _ _ _ _ _ [some (.ref 19), none, none, none, none] [] _
  simp only [q_Model_token_159, r_Model_token_0, r_Model_token_1, r_Model_token_4, r_Model_token_5, r_Model_token_6, r_Model_token_9, r_Model_token_12, r_Model_token_13, r_Model_token_14, r_Model_token_17, r_Model_token_18, r_Model_token_19, r_Model_token_22, r_Model_token_24, r_Model_token_25, r_Model_token_26, r_Model_token_28, r_Model_token_31, r_Model_token_32, r_Model_token_34, r_Model_token_37, r_Model_token_38, r_Model_token_40, r_Model_token_43, r_Model_token_44, r_Model_token_45, r_Model_token_48, r_Model_token_49, r_Model_token_50, r_Model_token_53, r_Model_token_54, r_Model_token_56, r_Model_token_59, r_Model_token_61, r_Model_token_64, r_Model_token_65, r_Model_token_67, r_Model_token_70, r_Model_token_72, r_Model_token_75, r_Model_token_77, r_Model_token_78, r_Model_token_79, r_Model_token_81, r_Model_token_84, r_Model_token_85, r_Model_token_86, r_Model_token_89, r_Model_token_92, r_Model_token_95, r_Model_token_96, r_Model_token_97, r_Model_token_100, r_Model_token_103, r_Model_token_106, r_Model_token_107, r_Model_token_110, r_Model_token_111, r_Model_token_112, r_Model_token_113, r_Model_token_114, r_Model_token_117, r_Model_token_118, r_Model_token_119, r_Model_token_122, r_Model_token_123, r_Model_token_126, r_Model_token_128, r_Model_token_131, r_Model_token_133, r_Model_token_134, r_Model_token_135, r_Model_token_137, r_Model_token_140, r_Model_token_141, r_Model_token_144, r_Model_token_145, r_Model_token_146, r_Model_token_149, r_Model_token_152, r_Model_token_154, r_Model_token_155, r_Model_token_156, r_Model_token_157, r_Model_token_158, r_Model_token_159, r_Model_token_160, r_Model_token_161, r_Model_token_164, r_Model_token_167, r_Model_token_170, r_Model_token_171, r_Model_token_174, r_Model_token_175, r_Model_token_176, r_Model_token_179, r_Model_token_182, r_Model_token_185, r_Model_token_186, r_Model_token_189, r_Model_token_190, r_Model_token_192, r_Model_token_195, r_Model_token_196, r_Model_token_199, r_Model_token_200, r_Model_token_201, r_Model_token_202, r_Model_token_203, r_Model_token_204, r_Model_token_205, r_Model_token_208, r_Model_token_209, r_Model_token_210, r_Model_token_213, r_Model_token_214, r_Model_token_215, r_Model_token_218, r_Model_token_219, r_Model_token_221, r_Model_token_224, r_Model_token_225, r_Model_token_226, r_Model_token_227, r_Model_token_230, r_Model_token_231, r_Model_token_233, r_Model_token_234, r_Model_token_237, r_Model_token_239, r_Model_token_242, r_Model_token_244, r_Model_token_246, r_Model_token_249, r_Model_token_250, r_Model_token_253, r_Model_token_255, r_Model_token_256, r_Model_token_257, r_Model_token_260, r_Model_token_263, r_Model_token_264, r_Model_token_266, r_Model_token_269, r_Model_token_270, r_Model_token_273, r_Model_token_275, ai_aload, ai_callv1, am_push, am_few, ai_getf, ai_putf, ai_const, ai_callv2, ai_istore, am_cut_0, am_cut_s, am_c1, ai_iload, ai_ifge, ai_iret, ai_cmpeq, ai_cmpne, ai_iadd, ai_bin, ai_goto, ai_calls1, ai_ifne, ai_ifeq, ai_isub, ai_ifle, ai_cmpge, ai_cmpgt, kd_0, fd_0_0, fd_0_1, fd_0_2, fd_0_3, fd_0_4, kd_1, fd_1_0, fd_1_1, ln_2, kd_3, fd_3_0, fd_3_1, fd_3_2, fd_3_3, fd_3_4, fd_3_5, fd_3_6, fd_3_7, fd_3_8, fd_3_9, ln_4, ln_5, ln_6, ln_7, ln_8, ln_9, ln_10, kd_11, fd_11_0, fd_11_1, fd_11_2, fd_11_3, fd_11_4, kd_12, fd_12_0, fd_12_1, fd_12_2, fd_12_3, ln_13, ln_14, ln_15, kd_16, fd_16_0, fd_16_1, fd_16_2, ln_17, kd_18, fd_18_0, fd_18_1, kd_19, fd_19_0, fd_19_1, fd_19_2, fd_19_3, fd_19_4, fd_19_5, fd_19_6, fd_19_7, fd_19_8, fd_19_9, fd_19_10, fd_19_11, fd_19_12, fd_19_13, fd_19_14, fd_19_15, fd_19_16, fd_19_17, fd_19_18, fd_19_19, fd_19_20, ln_20, ln_21, ln_22, ln_23, ln_24, ln_25, ln_26, ln_27, ln_28, ln_29, ln_30, ln_31, ln_32, List.getElem?_cons_zero, List.getElem?_cons_succ, List.set_cons_zero, List.set_cons_succ, true_and, and_true, ↓reduceIte, Int32.reduceLT, Int32.reduceLE, li_10, or_true, true_or, ↓sp_Model_skip, ↓sp_Model_peek, ↓sp_Model_isByte, ht, hb, hat, hS, am_up_ap, Nat.reduceEqDiff, hmu, htN, hpk, n0, n40, n41, n39, n46, n34, cw, b2_eq0]
  exact h
set_option maxRecDepth 100000 in
set_option maxHeartbeats 4000000 in
theorem ok_tkc_w0 {G : aG} (hG : am_ok G) {K : aR} {N : aM} {B : Int32} (htN : mt_ok N) (hpk : m_at N 0 = B) (cw : wB B = true) (L : am_X G Y_Model_token 3 K 159 [some (.ref 19), some (.int B), some (.int (nI 1)), some (.int (b2 (dgB B || decide (B = 45)))), none] [] N) : am_X G Y_Model_token 3 K 159 [some (.ref 19), some (.int B), some (.int 0), some (.int 1), none] [] N := by
  have e01 : (0 : Int32) + 1 = nI 1 := rfl
  cases cd : dgB B
  · rw [cd] at L
    by_cases c45 : B = 45
    · have c45' : (B = 45) = True := eq_true c45
      rw [decide_eq_true c45] at L
      refine am_from (tb_Model_token (ok_Model_skip hG) (by decide) (ok_Model_peek hG) (by decide) (ok_Model_isByte hG) (by decide) (ok_Model_string hG) (by decide) (ok_Model_isDigit hG) (by decide) (ok_Model_isBegin hG) (by decide)) k_Model_token 400 ?_
      simp only [q_Model_token_159, r_Model_token_0, r_Model_token_1, r_Model_token_4, r_Model_token_5, r_Model_token_6, r_Model_token_9, r_Model_token_12, r_Model_token_13, r_Model_token_14, r_Model_token_17, r_Model_token_18, r_Model_token_19, r_Model_token_22, r_Model_token_24, r_Model_token_25, r_Model_token_26, r_Model_token_28, r_Model_token_31, r_Model_token_32, r_Model_token_34, r_Model_token_37, r_Model_token_38, r_Model_token_40, r_Model_token_43, r_Model_token_44, r_Model_token_45, r_Model_token_48, r_Model_token_49, r_Model_token_50, r_Model_token_53, r_Model_token_54, r_Model_token_56, r_Model_token_59, r_Model_token_61, r_Model_token_64, r_Model_token_65, r_Model_token_67, r_Model_token_70, r_Model_token_72, r_Model_token_75, r_Model_token_77, r_Model_token_78, r_Model_token_79, r_Model_token_81, r_Model_token_84, r_Model_token_85, r_Model_token_86, r_Model_token_89, r_Model_token_92, r_Model_token_95, r_Model_token_96, r_Model_token_97, r_Model_token_100, r_Model_token_103, r_Model_token_106, r_Model_token_107, r_Model_token_110, r_Model_token_111, r_Model_token_112, r_Model_token_113, r_Model_token_114, r_Model_token_117, r_Model_token_118, r_Model_token_119, r_Model_token_122, r_Model_token_123, r_Model_token_126, r_Model_token_128, r_Model_token_131, r_Model_token_133, r_Model_token_134, r_Model_token_135, r_Model_token_137, r_Model_token_140, r_Model_token_141, r_Model_token_144, r_Model_token_145, r_Model_token_146, r_Model_token_149, r_Model_token_152, r_Model_token_154, r_Model_token_155, r_Model_token_156, r_Model_token_157, r_Model_token_158, r_Model_token_159, r_Model_token_160, r_Model_token_161, r_Model_token_164, r_Model_token_167, r_Model_token_170, r_Model_token_171, r_Model_token_174, r_Model_token_175, r_Model_token_176, r_Model_token_179, r_Model_token_182, r_Model_token_185, r_Model_token_186, r_Model_token_189, r_Model_token_190, r_Model_token_192, r_Model_token_195, r_Model_token_196, r_Model_token_199, r_Model_token_200, r_Model_token_201, r_Model_token_202, r_Model_token_203, r_Model_token_204, r_Model_token_205, r_Model_token_208, r_Model_token_209, r_Model_token_210, r_Model_token_213, r_Model_token_214, r_Model_token_215, r_Model_token_218, r_Model_token_219, r_Model_token_221, r_Model_token_224, r_Model_token_225, r_Model_token_226, r_Model_token_227, r_Model_token_230, r_Model_token_231, r_Model_token_233, r_Model_token_234, r_Model_token_237, r_Model_token_239, r_Model_token_242, r_Model_token_244, r_Model_token_246, r_Model_token_249, r_Model_token_250, r_Model_token_253, r_Model_token_255, r_Model_token_256, r_Model_token_257, r_Model_token_260, r_Model_token_263, r_Model_token_264, r_Model_token_266, r_Model_token_269, r_Model_token_270, r_Model_token_273, r_Model_token_275, ai_aload, ai_callv1, am_push, am_few, ai_getf, ai_putf, ai_const, ai_callv2, ai_istore, am_cut_0, am_cut_s, am_c1, ai_iload, ai_ifge, ai_iret, ai_cmpeq, ai_cmpne, ai_iadd, ai_bin, ai_goto, ai_calls1, ai_ifne, ai_ifeq, ai_isub, ai_ifle, ai_cmpge, ai_cmpgt, kd_0, fd_0_0, fd_0_1, fd_0_2, fd_0_3, fd_0_4, kd_1, fd_1_0, fd_1_1, ln_2, kd_3, fd_3_0, fd_3_1, fd_3_2, fd_3_3, fd_3_4, fd_3_5, fd_3_6, fd_3_7, fd_3_8, fd_3_9, ln_4, ln_5, ln_6, ln_7, ln_8, ln_9, ln_10, kd_11, fd_11_0, fd_11_1, fd_11_2, fd_11_3, fd_11_4, kd_12, fd_12_0, fd_12_1, fd_12_2, fd_12_3, ln_13, ln_14, ln_15, kd_16, fd_16_0, fd_16_1, fd_16_2, ln_17, kd_18, fd_18_0, fd_18_1, kd_19, fd_19_0, fd_19_1, fd_19_2, fd_19_3, fd_19_4, fd_19_5, fd_19_6, fd_19_7, fd_19_8, fd_19_9, fd_19_10, fd_19_11, fd_19_12, fd_19_13, fd_19_14, fd_19_15, fd_19_16, fd_19_17, fd_19_18, fd_19_19, fd_19_20, ln_20, ln_21, ln_22, ln_23, ln_24, ln_25, ln_26, ln_27, ln_28, ln_29, ln_30, ln_31, ln_32, List.getElem?_cons_zero, List.getElem?_cons_succ, List.set_cons_zero, List.set_cons_succ, true_and, and_true, ↓reduceIte, Int32.reduceLT, Int32.reduceLE, li_10, or_true, true_or, ↓sp_Model_peek, ↓sp_Model_isByte, ↓sp_Model_isDigit, htN, hpk, cw, cd, c45', b2_eq0, Bool.true_eq_false, e01]
      exact L
    · rw [decide_eq_false c45] at L
      refine am_from (tb_Model_token (ok_Model_skip hG) (by decide) (ok_Model_peek hG) (by decide) (ok_Model_isByte hG) (by decide) (ok_Model_string hG) (by decide) (ok_Model_isDigit hG) (by decide) (ok_Model_isBegin hG) (by decide)) k_Model_token 400 ?_
      simp only [q_Model_token_159, r_Model_token_0, r_Model_token_1, r_Model_token_4, r_Model_token_5, r_Model_token_6, r_Model_token_9, r_Model_token_12, r_Model_token_13, r_Model_token_14, r_Model_token_17, r_Model_token_18, r_Model_token_19, r_Model_token_22, r_Model_token_24, r_Model_token_25, r_Model_token_26, r_Model_token_28, r_Model_token_31, r_Model_token_32, r_Model_token_34, r_Model_token_37, r_Model_token_38, r_Model_token_40, r_Model_token_43, r_Model_token_44, r_Model_token_45, r_Model_token_48, r_Model_token_49, r_Model_token_50, r_Model_token_53, r_Model_token_54, r_Model_token_56, r_Model_token_59, r_Model_token_61, r_Model_token_64, r_Model_token_65, r_Model_token_67, r_Model_token_70, r_Model_token_72, r_Model_token_75, r_Model_token_77, r_Model_token_78, r_Model_token_79, r_Model_token_81, r_Model_token_84, r_Model_token_85, r_Model_token_86, r_Model_token_89, r_Model_token_92, r_Model_token_95, r_Model_token_96, r_Model_token_97, r_Model_token_100, r_Model_token_103, r_Model_token_106, r_Model_token_107, r_Model_token_110, r_Model_token_111, r_Model_token_112, r_Model_token_113, r_Model_token_114, r_Model_token_117, r_Model_token_118, r_Model_token_119, r_Model_token_122, r_Model_token_123, r_Model_token_126, r_Model_token_128, r_Model_token_131, r_Model_token_133, r_Model_token_134, r_Model_token_135, r_Model_token_137, r_Model_token_140, r_Model_token_141, r_Model_token_144, r_Model_token_145, r_Model_token_146, r_Model_token_149, r_Model_token_152, r_Model_token_154, r_Model_token_155, r_Model_token_156, r_Model_token_157, r_Model_token_158, r_Model_token_159, r_Model_token_160, r_Model_token_161, r_Model_token_164, r_Model_token_167, r_Model_token_170, r_Model_token_171, r_Model_token_174, r_Model_token_175, r_Model_token_176, r_Model_token_179, r_Model_token_182, r_Model_token_185, r_Model_token_186, r_Model_token_189, r_Model_token_190, r_Model_token_192, r_Model_token_195, r_Model_token_196, r_Model_token_199, r_Model_token_200, r_Model_token_201, r_Model_token_202, r_Model_token_203, r_Model_token_204, r_Model_token_205, r_Model_token_208, r_Model_token_209, r_Model_token_210, r_Model_token_213, r_Model_token_214, r_Model_token_215, r_Model_token_218, r_Model_token_219, r_Model_token_221, r_Model_token_224, r_Model_token_225, r_Model_token_226, r_Model_token_227, r_Model_token_230, r_Model_token_231, r_Model_token_233, r_Model_token_234, r_Model_token_237, r_Model_token_239, r_Model_token_242, r_Model_token_244, r_Model_token_246, r_Model_token_249, r_Model_token_250, r_Model_token_253, r_Model_token_255, r_Model_token_256, r_Model_token_257, r_Model_token_260, r_Model_token_263, r_Model_token_264, r_Model_token_266, r_Model_token_269, r_Model_token_270, r_Model_token_273, r_Model_token_275, ai_aload, ai_callv1, am_push, am_few, ai_getf, ai_putf, ai_const, ai_callv2, ai_istore, am_cut_0, am_cut_s, am_c1, ai_iload, ai_ifge, ai_iret, ai_cmpeq, ai_cmpne, ai_iadd, ai_bin, ai_goto, ai_calls1, ai_ifne, ai_ifeq, ai_isub, ai_ifle, ai_cmpge, ai_cmpgt, kd_0, fd_0_0, fd_0_1, fd_0_2, fd_0_3, fd_0_4, kd_1, fd_1_0, fd_1_1, ln_2, kd_3, fd_3_0, fd_3_1, fd_3_2, fd_3_3, fd_3_4, fd_3_5, fd_3_6, fd_3_7, fd_3_8, fd_3_9, ln_4, ln_5, ln_6, ln_7, ln_8, ln_9, ln_10, kd_11, fd_11_0, fd_11_1, fd_11_2, fd_11_3, fd_11_4, kd_12, fd_12_0, fd_12_1, fd_12_2, fd_12_3, ln_13, ln_14, ln_15, kd_16, fd_16_0, fd_16_1, fd_16_2, ln_17, kd_18, fd_18_0, fd_18_1, kd_19, fd_19_0, fd_19_1, fd_19_2, fd_19_3, fd_19_4, fd_19_5, fd_19_6, fd_19_7, fd_19_8, fd_19_9, fd_19_10, fd_19_11, fd_19_12, fd_19_13, fd_19_14, fd_19_15, fd_19_16, fd_19_17, fd_19_18, fd_19_19, fd_19_20, ln_20, ln_21, ln_22, ln_23, ln_24, ln_25, ln_26, ln_27, ln_28, ln_29, ln_30, ln_31, ln_32, List.getElem?_cons_zero, List.getElem?_cons_succ, List.set_cons_zero, List.set_cons_succ, true_and, and_true, ↓reduceIte, Int32.reduceLT, Int32.reduceLE, li_10, or_true, true_or, ↓sp_Model_peek, ↓sp_Model_isByte, ↓sp_Model_isDigit, htN, hpk, cw, cd, c45, b2_eq0, Bool.true_eq_false, e01]
      exact L
  · rw [cd] at L
    refine am_from (tb_Model_token (ok_Model_skip hG) (by decide) (ok_Model_peek hG) (by decide) (ok_Model_isByte hG) (by decide) (ok_Model_string hG) (by decide) (ok_Model_isDigit hG) (by decide) (ok_Model_isBegin hG) (by decide)) k_Model_token 400 ?_
    simp only [q_Model_token_159, r_Model_token_0, r_Model_token_1, r_Model_token_4, r_Model_token_5, r_Model_token_6, r_Model_token_9, r_Model_token_12, r_Model_token_13, r_Model_token_14, r_Model_token_17, r_Model_token_18, r_Model_token_19, r_Model_token_22, r_Model_token_24, r_Model_token_25, r_Model_token_26, r_Model_token_28, r_Model_token_31, r_Model_token_32, r_Model_token_34, r_Model_token_37, r_Model_token_38, r_Model_token_40, r_Model_token_43, r_Model_token_44, r_Model_token_45, r_Model_token_48, r_Model_token_49, r_Model_token_50, r_Model_token_53, r_Model_token_54, r_Model_token_56, r_Model_token_59, r_Model_token_61, r_Model_token_64, r_Model_token_65, r_Model_token_67, r_Model_token_70, r_Model_token_72, r_Model_token_75, r_Model_token_77, r_Model_token_78, r_Model_token_79, r_Model_token_81, r_Model_token_84, r_Model_token_85, r_Model_token_86, r_Model_token_89, r_Model_token_92, r_Model_token_95, r_Model_token_96, r_Model_token_97, r_Model_token_100, r_Model_token_103, r_Model_token_106, r_Model_token_107, r_Model_token_110, r_Model_token_111, r_Model_token_112, r_Model_token_113, r_Model_token_114, r_Model_token_117, r_Model_token_118, r_Model_token_119, r_Model_token_122, r_Model_token_123, r_Model_token_126, r_Model_token_128, r_Model_token_131, r_Model_token_133, r_Model_token_134, r_Model_token_135, r_Model_token_137, r_Model_token_140, r_Model_token_141, r_Model_token_144, r_Model_token_145, r_Model_token_146, r_Model_token_149, r_Model_token_152, r_Model_token_154, r_Model_token_155, r_Model_token_156, r_Model_token_157, r_Model_token_158, r_Model_token_159, r_Model_token_160, r_Model_token_161, r_Model_token_164, r_Model_token_167, r_Model_token_170, r_Model_token_171, r_Model_token_174, r_Model_token_175, r_Model_token_176, r_Model_token_179, r_Model_token_182, r_Model_token_185, r_Model_token_186, r_Model_token_189, r_Model_token_190, r_Model_token_192, r_Model_token_195, r_Model_token_196, r_Model_token_199, r_Model_token_200, r_Model_token_201, r_Model_token_202, r_Model_token_203, r_Model_token_204, r_Model_token_205, r_Model_token_208, r_Model_token_209, r_Model_token_210, r_Model_token_213, r_Model_token_214, r_Model_token_215, r_Model_token_218, r_Model_token_219, r_Model_token_221, r_Model_token_224, r_Model_token_225, r_Model_token_226, r_Model_token_227, r_Model_token_230, r_Model_token_231, r_Model_token_233, r_Model_token_234, r_Model_token_237, r_Model_token_239, r_Model_token_242, r_Model_token_244, r_Model_token_246, r_Model_token_249, r_Model_token_250, r_Model_token_253, r_Model_token_255, r_Model_token_256, r_Model_token_257, r_Model_token_260, r_Model_token_263, r_Model_token_264, r_Model_token_266, r_Model_token_269, r_Model_token_270, r_Model_token_273, r_Model_token_275, ai_aload, ai_callv1, am_push, am_few, ai_getf, ai_putf, ai_const, ai_callv2, ai_istore, am_cut_0, am_cut_s, am_c1, ai_iload, ai_ifge, ai_iret, ai_cmpeq, ai_cmpne, ai_iadd, ai_bin, ai_goto, ai_calls1, ai_ifne, ai_ifeq, ai_isub, ai_ifle, ai_cmpge, ai_cmpgt, kd_0, fd_0_0, fd_0_1, fd_0_2, fd_0_3, fd_0_4, kd_1, fd_1_0, fd_1_1, ln_2, kd_3, fd_3_0, fd_3_1, fd_3_2, fd_3_3, fd_3_4, fd_3_5, fd_3_6, fd_3_7, fd_3_8, fd_3_9, ln_4, ln_5, ln_6, ln_7, ln_8, ln_9, ln_10, kd_11, fd_11_0, fd_11_1, fd_11_2, fd_11_3, fd_11_4, kd_12, fd_12_0, fd_12_1, fd_12_2, fd_12_3, ln_13, ln_14, ln_15, kd_16, fd_16_0, fd_16_1, fd_16_2, ln_17, kd_18, fd_18_0, fd_18_1, kd_19, fd_19_0, fd_19_1, fd_19_2, fd_19_3, fd_19_4, fd_19_5, fd_19_6, fd_19_7, fd_19_8, fd_19_9, fd_19_10, fd_19_11, fd_19_12, fd_19_13, fd_19_14, fd_19_15, fd_19_16, fd_19_17, fd_19_18, fd_19_19, fd_19_20, ln_20, ln_21, ln_22, ln_23, ln_24, ln_25, ln_26, ln_27, ln_28, ln_29, ln_30, ln_31, ln_32, List.getElem?_cons_zero, List.getElem?_cons_succ, List.set_cons_zero, List.set_cons_succ, true_and, and_true, ↓reduceIte, Int32.reduceLT, Int32.reduceLE, li_10, or_true, true_or, ↓sp_Model_peek, ↓sp_Model_isByte, ↓sp_Model_isDigit, htN, hpk, cw, cd, b2_eq0, Bool.true_eq_false, e01]
    exact L
set_option maxRecDepth 100000 in
set_option maxHeartbeats 4000000 in
theorem ok_tkc_word {G : aG} (hG : am_ok G) {K : aR} {M : aM} {S : Nat} (ht : mt_ok M) (hb : tb_ok M) (hat : at_ok M) (hS : skB (M 20) (m_tl M - cl (M 19 2)) false (cl (M 19 2)) = S) (htN : mt_ok (tkP M S)) {B : Int32} (hpk : m_at (tkP M S) 0 = B) (n0 : 0 ≤ B) (n40 : ¬ B = 40) (n41 : ¬ B = 41) (n39 : ¬ B = 39) (n46 : ¬ B = 46) (n34 : ¬ B = 34) (cw : wB B = true) (L : am_X G Y_Model_token 3 K 159 [some (.ref 19), some (.int B), some (.int 0), some (.int 1), none] [] (tkP M S)) : am_Met G Y_Model_token 3 [.ref 19] M K := by
  have hmu := tkP_mu M S
  refine am_entry hG (by decide +kernel) (Nat.le_of_ble_eq_true rfl) ?_
  refine am_go (cuts := k_Model_token) (tb_Model_token (ok_Model_skip hG) (by decide) (ok_Model_peek hG) (by decide) (ok_Model_isByte hG) (by decide) (ok_Model_string hG) (by decide) (ok_Model_isDigit hG) (by decide) (ok_Model_isBegin hG) (by decide)) 400 _ _ _ _ ?_
  change am_run _ _ _ _ _ _ [some (.ref 19), none, none, none, none] [] _
  simp only [q_Model_token_159, r_Model_token_0, r_Model_token_1, r_Model_token_4, r_Model_token_5, r_Model_token_6, r_Model_token_9, r_Model_token_12, r_Model_token_13, r_Model_token_14, r_Model_token_17, r_Model_token_18, r_Model_token_19, r_Model_token_22, r_Model_token_24, r_Model_token_25, r_Model_token_26, r_Model_token_28, r_Model_token_31, r_Model_token_32, r_Model_token_34, r_Model_token_37, r_Model_token_38, r_Model_token_40, r_Model_token_43, r_Model_token_44, r_Model_token_45, r_Model_token_48, r_Model_token_49, r_Model_token_50, r_Model_token_53, r_Model_token_54, r_Model_token_56, r_Model_token_59, r_Model_token_61, r_Model_token_64, r_Model_token_65, r_Model_token_67, r_Model_token_70, r_Model_token_72, r_Model_token_75, r_Model_token_77, r_Model_token_78, r_Model_token_79, r_Model_token_81, r_Model_token_84, r_Model_token_85, r_Model_token_86, r_Model_token_89, r_Model_token_92, r_Model_token_95, r_Model_token_96, r_Model_token_97, r_Model_token_100, r_Model_token_103, r_Model_token_106, r_Model_token_107, r_Model_token_110, r_Model_token_111, r_Model_token_112, r_Model_token_113, r_Model_token_114, r_Model_token_117, r_Model_token_118, r_Model_token_119, r_Model_token_122, r_Model_token_123, r_Model_token_126, r_Model_token_128, r_Model_token_131, r_Model_token_133, r_Model_token_134, r_Model_token_135, r_Model_token_137, r_Model_token_140, r_Model_token_141, r_Model_token_144, r_Model_token_145, r_Model_token_146, r_Model_token_149, r_Model_token_152, r_Model_token_154, r_Model_token_155, r_Model_token_156, r_Model_token_157, r_Model_token_158, r_Model_token_159, r_Model_token_160, r_Model_token_161, r_Model_token_164, r_Model_token_167, r_Model_token_170, r_Model_token_171, r_Model_token_174, r_Model_token_175, r_Model_token_176, r_Model_token_179, r_Model_token_182, r_Model_token_185, r_Model_token_186, r_Model_token_189, r_Model_token_190, r_Model_token_192, r_Model_token_195, r_Model_token_196, r_Model_token_199, r_Model_token_200, r_Model_token_201, r_Model_token_202, r_Model_token_203, r_Model_token_204, r_Model_token_205, r_Model_token_208, r_Model_token_209, r_Model_token_210, r_Model_token_213, r_Model_token_214, r_Model_token_215, r_Model_token_218, r_Model_token_219, r_Model_token_221, r_Model_token_224, r_Model_token_225, r_Model_token_226, r_Model_token_227, r_Model_token_230, r_Model_token_231, r_Model_token_233, r_Model_token_234, r_Model_token_237, r_Model_token_239, r_Model_token_242, r_Model_token_244, r_Model_token_246, r_Model_token_249, r_Model_token_250, r_Model_token_253, r_Model_token_255, r_Model_token_256, r_Model_token_257, r_Model_token_260, r_Model_token_263, r_Model_token_264, r_Model_token_266, r_Model_token_269, r_Model_token_270, r_Model_token_273, r_Model_token_275, ai_aload, ai_callv1, am_push, am_few, ai_getf, ai_putf, ai_const, ai_callv2, ai_istore, am_cut_0, am_cut_s, am_c1, ai_iload, ai_ifge, ai_iret, ai_cmpeq, ai_cmpne, ai_iadd, ai_bin, ai_goto, ai_calls1, ai_ifne, ai_ifeq, ai_isub, ai_ifle, ai_cmpge, ai_cmpgt, kd_0, fd_0_0, fd_0_1, fd_0_2, fd_0_3, fd_0_4, kd_1, fd_1_0, fd_1_1, ln_2, kd_3, fd_3_0, fd_3_1, fd_3_2, fd_3_3, fd_3_4, fd_3_5, fd_3_6, fd_3_7, fd_3_8, fd_3_9, ln_4, ln_5, ln_6, ln_7, ln_8, ln_9, ln_10, kd_11, fd_11_0, fd_11_1, fd_11_2, fd_11_3, fd_11_4, kd_12, fd_12_0, fd_12_1, fd_12_2, fd_12_3, ln_13, ln_14, ln_15, kd_16, fd_16_0, fd_16_1, fd_16_2, ln_17, kd_18, fd_18_0, fd_18_1, kd_19, fd_19_0, fd_19_1, fd_19_2, fd_19_3, fd_19_4, fd_19_5, fd_19_6, fd_19_7, fd_19_8, fd_19_9, fd_19_10, fd_19_11, fd_19_12, fd_19_13, fd_19_14, fd_19_15, fd_19_16, fd_19_17, fd_19_18, fd_19_19, fd_19_20, ln_20, ln_21, ln_22, ln_23, ln_24, ln_25, ln_26, ln_27, ln_28, ln_29, ln_30, ln_31, ln_32, List.getElem?_cons_zero, List.getElem?_cons_succ, List.set_cons_zero, List.set_cons_succ, true_and, and_true, ↓reduceIte, Int32.reduceLT, Int32.reduceLE, li_10, or_true, true_or, ↓sp_Model_skip, ↓sp_Model_peek, ↓sp_Model_isByte, ht, hb, hat, hS, am_up_ap, Nat.reduceEqDiff, hmu, htN, hpk, n0, n40, n41, n39, n46, n34, cw, b2_eq0, Bool.true_eq_false]
  exact L
theorem ft_10 (V : aM) (S : Nat) : f_tend V S 10 = nI (S + 1) := by unfold f_tend; rw [if_neg (by decide), if_neg (by decide), if_neg (by decide), if_neg (by decide), if_neg (by decide)]
theorem ft_6 (V : aM) (S : Nat) : f_tend V S 6 = nI (S + 1) := by unfold f_tend; rw [if_neg (by decide), if_neg (by decide), if_neg (by decide), if_neg (by decide), if_neg (by decide)]
theorem ft_7 (V : aM) (S : Nat) : f_tend V S 7 = nI (S + 1) := by unfold f_tend; rw [if_neg (by decide), if_neg (by decide), if_neg (by decide), if_neg (by decide), if_neg (by decide)]
theorem ft_8 (V : aM) (S : Nat) : f_tend V S 8 = nI (S + 1) := by unfold f_tend; rw [if_neg (by decide), if_neg (by decide), if_neg (by decide), if_neg (by decide), if_neg (by decide)]
theorem ft_9 (V : aM) (S : Nat) : f_tend V S 9 = if wB (f_at V (nI S - 1)) = true then -1 else if wB (bt (V 2) (tl V) (S + 1)) = true then -1 else nI (S + 1) := by unfold f_tend; rw [if_neg (by decide), if_neg (by decide), if_neg (by decide), if_pos rfl]
theorem ft_3 (V : aM) (S : Nat) : f_tend V S 3 = stE (V 2) (tl V) 21 (S + 1) := by unfold f_tend; rw [if_neg (by decide), if_neg (by decide), if_pos rfl]; unfold f_str; rfl
theorem ft_11 (V : aM) (S : Nat) : f_tend V S 11 = -1 := by unfold f_tend; rw [if_neg (by decide), if_neg (by decide), if_neg (by decide), if_neg (by decide), if_pos rfl]
theorem mk_6 : mkd 6 = 12 := by decide
theorem mk_7 : mkd 7 = 13 := by decide
theorem mk_8 : mkd 8 = 14 := by decide
theorem mk_9 : mkd 9 = 15 := by decide
theorem mk_3 : mkd 3 = 3 := by decide
theorem vw_2 (M : aM) : vw M 2 = M 20 := by rfl
theorem vw_tl (M : aM) : tl (vw M) = m_tl M := by rfl
theorem tkP_20 (M : aM) (S : Nat) : tkP M S 20 = M 20 := by rfl
theorem tkP_tl (M : aM) (S : Nat) : m_tl (tkP M S) = m_tl M := by rfl
set_option maxRecDepth 100000 in
set_option maxHeartbeats 4000000 in
theorem ok_Model_token {G : aG} (hG : am_ok G) : am_Sp G Y_Model_token 3 sp_Model_token := by
  intro as M K h
  unfold sp_Model_token at h
  split at h
  · next a =>
    obtain ⟨rfl, ⟨ht, hb, hat⟩, h⟩ := h
    obtain ⟨S, hS⟩ : ∃ S, skB (M 20) (m_tl M - cl (M 19 2)) false (cl (M 19 2)) = S := ⟨_, rfl⟩
    have hs : sc_s (vw M) (cl (M 19 2)) = S := hS
    have hSl : S ≤ m_tl M := by
      have := skB_le (M 20) (m_tl M - cl (M 19 2)) false (cl (M 19 2))
      have := hat.2
      omega
    have h400 := ht.2
    unfold tokK at h
    unfold sc_e sc_k at h
    rw [hs] at h
    rw [vw_2, vw_tl] at h
    have htN : mt_ok (tkP M S) := ht
    have hpk : m_at (tkP M S) 0 = bt (M 20) (m_tl M) S := m_at_bt (M := tkP M S) (p := S) (j := 0) ht rfl (by omega)
    have hatN : at_ok (tkP M S) := ⟨by show nI S = nI (cl (nI S)); rw [show cl (nI S) = S from nI_clamp (by omega)], by show cl (nI S) ≤ m_tl M; rw [show cl (nI S) = S from nI_clamp (by omega)]; exact hSl⟩
    have hse : ¬ nI (S + 1) = -1 := nI_ne (by omega)
    obtain ⟨B, hB⟩ : ∃ B, bt (M 20) (m_tl M) S = B := ⟨_, rfl⟩
    rw [hB] at hpk h
    have hid : am_up (tkP M S) 19 2 (nI S) = tkP M S := am_up_id (tkP M S) 19 2
    by_cases cm : B = -1
    · subst cm
      have k10 : srt (-1) = 10 := by decide
      have e10 := ft_10 (vw M) S
      rw [k10, e10, if_neg hse, if_pos rfl] at h
      exact ok_tkc_end hG ht hb hat hS htN hpk h
    have hlt : S < m_tl M := bt_lt (t := M 20) (by rw [hB]; exact cm)
    have hBe : M 20 S = B := by
      rw [← hB]
      unfold bt
      rw [if_pos hlt]
    have hB0 : 0 ≤ B := by
      have := hb S hlt
      rw [hBe] at this
      exact Int32.not_lt.mp this
    by_cases c40 : B = 40
    · subst c40
      have k10 : srt 40 = 6 := by decide
      have e10 := ft_6 (vw M) S
      rw [k10, e10, if_neg hse, if_neg (by decide), mk_6] at h
      exact ok_tkc_40 hG ht hb hat hS htN hpk h
    by_cases c41 : B = 41
    · subst c41
      have k10 : srt 41 = 7 := by decide
      have e10 := ft_7 (vw M) S
      rw [k10, e10, if_neg hse, if_neg (by decide), mk_7] at h
      exact ok_tkc_41 hG ht hb hat hS htN hpk h
    by_cases c39 : B = 39
    · subst c39
      have k10 : srt 39 = 8 := by decide
      have e10 := ft_8 (vw M) S
      rw [k10, e10, if_neg hse, if_neg (by decide), mk_8] at h
      exact ok_tkc_39 hG ht hb hat hS htN hpk h
    by_cases c46 : B = 46
    · subst c46
      have k10 : srt 46 = 9 := by decide
      have e10 := ft_9 (vw M) S
      rw [k10, e10, vw_2, vw_tl, mk_9] at h
      have p1 : m_at (tkP M S) (-1) = f_at (vw M) (nI S - 1) := m_at_m1 ht (by omega)
      have p2 : m_at (tkP M S) 1 = bt (M 20) (m_tl M) (S + 1) := m_at_bt (M := tkP M S) (p := S) (j := 1) ht rfl (by omega)
      refine ok_tkc_46 hG ht hb hat hS htN hpk p1 p2 ?_
      cases w1 : wB (f_at (vw M) (nI S - 1))
      · rw [w1] at h
        cases w2 : wB (bt (M 20) (m_tl M) (S + 1))
        · rw [w2] at h
          simp only [Bool.false_eq_true, ↓reduceIte] at h
          rw [if_neg hse, if_neg (by decide)] at h
          simp only [Bool.false_eq_true, ↓reduceIte]
          exact h
        · rw [w2] at h
          simp only [Bool.false_eq_true, ↓reduceIte] at h
          simp only [Bool.false_eq_true, ↓reduceIte]
          exact h _
      · rw [w1] at h
        simp only [↓reduceIte] at h
        simp only [↓reduceIte]
        exact h _
    by_cases c34 : B = 34
    · subst c34
      have k10 : srt 34 = 3 := by decide
      have e10 := ft_3 (vw M) S
      rw [vw_2, vw_tl] at e10
      rw [k10, e10, mk_3] at h
      refine ok_tkc_34 hG ht hb hat hS htN hatN hpk ?_
      have ecl : cl (tkP M S 19 2) = S := nI_clamp (by omega)
      rw [ecl, tkP_20, tkP_tl]
      unfold strK
      by_cases ce : stE (M 20) (m_tl M) 21 (S + 1) = -1
      · rw [if_pos ce] at h ⊢
        have := h (nI S)
        rw [hid] at this
        exact this
      · rw [if_neg ce, if_neg (by decide)] at h
        rw [if_neg ce]
        exact h
    cases cw : wB B
    · have hsr : srt B = 11 := by
        have hd : dgB B = false := by
          cases q : dgB B
          · rfl
          · rw [wB_eq, q] at cw
            simp at cw
        have n45 : ¬ B = 45 := fun q => by rw [q] at cw; revert cw; decide
        unfold srt
        simp [cm, c34, c39, c40, c41, c46, n45, hd, cw]
      have e10 := ft_11 (vw M) S
      rw [hsr, e10, if_pos rfl] at h
      have := h (nI S)
      rw [hid] at this
      exact ok_tkc_bad hG ht hb hat hS htN hpk hB0 c40 c41 c39 c46 c34 cw this
    · have W := tok_word (t := M 20) (V := vw M) (s := S) rfl hlt h400 (by rw [hBe]; exact cw)
      rw [hBe] at W
      rw [vw_tl] at W
      have L : am_X G Y_Model_token 3 K 159 [some (.ref 19), some (.int B), some (.int (nI 1)), some (.int (b2 (dgB B || decide (B = 45)))), none] [] (tkP M S) := by
        refine lp_Model_token hG (c := B) htN rfl (by omega) (m_tl M - (S + 1)) 1 _ none (by omega) (by show S + 1 + (m_tl M - (S + 1)) = m_tl M; omega) ?_
        show K (some (.int (wkd B (wE (M 20) (m_tl M - (S + 1)) (S + 1) - S) ((dgB B || decide (B = 45)) && allD (M 20) (wE (M 20) (m_tl M - (S + 1)) (S + 1) - (S + 1)) (S + 1))))) (am_up (tkP M S) 19 2 (nI (wE (M 20) (m_tl M - (S + 1)) (S + 1))))
        by_cases ce : f_tend (vw M) S (srt B) = -1
        · rw [if_pos ce] at h W
          rw [W]
          exact h _
        · rw [if_neg ce] at h W
          obtain ⟨w1, w2, w3⟩ := W
          rw [if_neg w3] at h
          rw [w1, ← w2]
          exact h
      exact ok_tkc_word hG ht hb hat hS htN hpk hB0 c40 c41 c39 c46 c34 cw (ok_tkc_w0 hG htN hpk cw L)
  · cases h
end
section
/-! THE REFERENCE: nodes and what stands by itself -/
def failM (M : aM) (w : Int32) : aM := am_up M 19 4 (if 0 ≤ M 19 4 then M 19 4 else w)
def sp_Model_fail : aS := fun as M K => match as with
  | [.ref a, .int w] => a = 19 ∧ K none (failM M w)
  | _ => False
set_option maxRecDepth 100000 in
set_option maxHeartbeats 4000000 in
theorem ok_Model_fail {G : aG} (hG : am_ok G) : am_Sp G Y_Model_fail 0 sp_Model_fail := by
  intro as M K h
  unfold sp_Model_fail at h
  split at h
  · next a w =>
    obtain ⟨rfl, h⟩ := h
    unfold failM at h
    refine am_entry hG (by decide +kernel) (Nat.le_of_ble_eq_true rfl) ?_
    refine am_go (cuts := k_Model_fail) tb_Model_fail 400 _ _ _ _ ?_
    change am_run _ _ _ _ _ _ [some (.ref 19), some (.int w)] [] _
    simp only [r_Model_fail_0, r_Model_fail_1, r_Model_fail_2, r_Model_fail_5, r_Model_fail_8, r_Model_fail_9, r_Model_fail_12, r_Model_fail_13, r_Model_fail_16, r_Model_fail_19, ai_aload, ai_getf, ai_ifge, ai_iload, ai_goto, ai_putf, ai_vret, kd_0, fd_0_0, fd_0_1, fd_0_2, fd_0_3, fd_0_4, kd_1, fd_1_0, fd_1_1, ln_2, kd_3, fd_3_0, fd_3_1, fd_3_2, fd_3_3, fd_3_4, fd_3_5, fd_3_6, fd_3_7, fd_3_8, fd_3_9, ln_4, ln_5, ln_6, ln_7, ln_8, ln_9, ln_10, kd_11, fd_11_0, fd_11_1, fd_11_2, fd_11_3, fd_11_4, kd_12, fd_12_0, fd_12_1, fd_12_2, fd_12_3, ln_13, ln_14, ln_15, kd_16, fd_16_0, fd_16_1, fd_16_2, ln_17, kd_18, fd_18_0, fd_18_1, kd_19, fd_19_0, fd_19_1, fd_19_2, fd_19_3, fd_19_4, fd_19_5, fd_19_6, fd_19_7, fd_19_8, fd_19_9, fd_19_10, fd_19_11, fd_19_12, fd_19_13, fd_19_14, fd_19_15, fd_19_16, fd_19_17, fd_19_18, fd_19_19, fd_19_20, ln_20, ln_21, ln_22, ln_23, ln_24, ln_25, ln_26, ln_27, ln_28, ln_29, ln_30, ln_31, ln_32, List.getElem?_cons_zero, List.getElem?_cons_succ, List.set_cons_zero, List.set_cons_succ, true_and, and_true, ↓reduceIte, Int32.reduceLT, Int32.reduceLE, li_10, or_true, true_or]
    by_cases c : 0 ≤ M 19 4
    · rw [if_pos c] at h ⊢; exact h
    · rw [if_neg c] at h ⊢; exact h
  · cases h
def m_new (M : aM) (k : Int32) : aM := am_up (am_up (am_up (am_up (am_up M 21 (mN M) k) 22 (mN M) 0) 24 (mN M) (-1)) 25 (mN M) (-1)) 19 5 (nI (mN M + 1))
def m_nd (M : aM) (k : Int32) : Int32 × aM := if mN M = 200 then (0, failM M (M 19 3)) else (nI (mN M), m_new M k)
def sp_Model_node : aS := fun as M K => match as with
  | [.ref a, .int k] => a = 19 ∧ mc_ok M ∧ K (some (.int (m_nd M k).1)) (m_nd M k).2
  | _ => False
set_option maxRecDepth 100000 in
set_option maxHeartbeats 4000000 in
theorem ok_Model_node {G : aG} (hG : am_ok G) : am_Sp G Y_Model_node 1 sp_Model_node := by
  intro as M K h
  unfold sp_Model_node at h
  split at h
  · next a k =>
    obtain ⟨rfl, hc, h⟩ := h
    unfold m_nd at h
    by_cases c : mN M = 200
    · rw [if_pos c] at h
      have e1 : (M 19 5 = 200) = True := eq_true (by rw [hc.1, c]; rfl)
      refine am_entry hG (by decide +kernel) (Nat.le_of_ble_eq_true rfl) ?_
      refine am_go (cuts := k_Model_node) (tb_Model_node (ok_Model_fail hG) (by decide)) 400 _ _ _ _ ?_
      change am_run _ _ _ _ _ _ [some (.ref 19), some (.int k)] [] _
      simp only [r_Model_node_0, r_Model_node_1, r_Model_node_4, r_Model_node_7, r_Model_node_10, r_Model_node_11, r_Model_node_12, r_Model_node_15, r_Model_node_18, r_Model_node_19, r_Model_node_20, r_Model_node_21, r_Model_node_24, r_Model_node_25, r_Model_node_28, r_Model_node_29, r_Model_node_30, r_Model_node_31, r_Model_node_34, r_Model_node_35, r_Model_node_38, r_Model_node_39, r_Model_node_40, r_Model_node_41, r_Model_node_44, r_Model_node_45, r_Model_node_48, r_Model_node_49, r_Model_node_50, r_Model_node_51, r_Model_node_54, r_Model_node_55, r_Model_node_58, r_Model_node_59, r_Model_node_60, r_Model_node_61, r_Model_node_62, r_Model_node_65, r_Model_node_66, r_Model_node_67, r_Model_node_70, r_Model_node_71, r_Model_node_74, r_Model_node_75, r_Model_node_76, ai_aload, ai_getf, ai_const, ai_cmpne, ai_callv2, am_push, am_few, ai_iret, ai_iload, ai_iast, ai_iadd, ai_bin, ai_putf, ai_isub, kd_0, fd_0_0, fd_0_1, fd_0_2, fd_0_3, fd_0_4, kd_1, fd_1_0, fd_1_1, ln_2, kd_3, fd_3_0, fd_3_1, fd_3_2, fd_3_3, fd_3_4, fd_3_5, fd_3_6, fd_3_7, fd_3_8, fd_3_9, ln_4, ln_5, ln_6, ln_7, ln_8, ln_9, ln_10, kd_11, fd_11_0, fd_11_1, fd_11_2, fd_11_3, fd_11_4, kd_12, fd_12_0, fd_12_1, fd_12_2, fd_12_3, ln_13, ln_14, ln_15, kd_16, fd_16_0, fd_16_1, fd_16_2, ln_17, kd_18, fd_18_0, fd_18_1, kd_19, fd_19_0, fd_19_1, fd_19_2, fd_19_3, fd_19_4, fd_19_5, fd_19_6, fd_19_7, fd_19_8, fd_19_9, fd_19_10, fd_19_11, fd_19_12, fd_19_13, fd_19_14, fd_19_15, fd_19_16, fd_19_17, fd_19_18, fd_19_19, fd_19_20, ln_20, ln_21, ln_22, ln_23, ln_24, ln_25, ln_26, ln_27, ln_28, ln_29, ln_30, ln_31, ln_32, List.getElem?_cons_zero, List.getElem?_cons_succ, List.set_cons_zero, List.set_cons_succ, true_and, and_true, ↓reduceIte, Int32.reduceLT, Int32.reduceLE, li_10, or_true, true_or, ↓sp_Model_fail, e1]
      exact h
    · rw [if_neg c] at h
      have h2 := hc.2
      have e1 : ¬ M 19 5 = 200 := by
        rw [hc.1]
        intro q
        exact c ((nI_eq (a := mN M) (b := 200) (by omega) (by decide)).mp q)
      have e2 : vp_in (M 19 5) 200 := by rw [hc.1]; exact vp_in_nI (by omega) (by decide)
      have e3 : (M 19 5).toNatClampNeg = mN M := rfl
      have e4 : M 19 5 + 1 = nI (mN M + 1) := by rw [← nI_1, ← hc.1]
      refine am_entry hG (by decide +kernel) (Nat.le_of_ble_eq_true rfl) ?_
      refine am_go (cuts := k_Model_node) (tb_Model_node (ok_Model_fail hG) (by decide)) 400 _ _ _ _ ?_
      change am_run _ _ _ _ _ _ [some (.ref 19), some (.int k)] [] _
      simp only [r_Model_node_0, r_Model_node_1, r_Model_node_4, r_Model_node_7, r_Model_node_10, r_Model_node_11, r_Model_node_12, r_Model_node_15, r_Model_node_18, r_Model_node_19, r_Model_node_20, r_Model_node_21, r_Model_node_24, r_Model_node_25, r_Model_node_28, r_Model_node_29, r_Model_node_30, r_Model_node_31, r_Model_node_34, r_Model_node_35, r_Model_node_38, r_Model_node_39, r_Model_node_40, r_Model_node_41, r_Model_node_44, r_Model_node_45, r_Model_node_48, r_Model_node_49, r_Model_node_50, r_Model_node_51, r_Model_node_54, r_Model_node_55, r_Model_node_58, r_Model_node_59, r_Model_node_60, r_Model_node_61, r_Model_node_62, r_Model_node_65, r_Model_node_66, r_Model_node_67, r_Model_node_70, r_Model_node_71, r_Model_node_74, r_Model_node_75, r_Model_node_76, ai_aload, ai_getf, ai_const, ai_cmpne, ai_callv2, am_push, am_few, ai_iret, ai_iload, ai_iast, ai_iadd, ai_bin, ai_putf, ai_isub, kd_0, fd_0_0, fd_0_1, fd_0_2, fd_0_3, fd_0_4, kd_1, fd_1_0, fd_1_1, ln_2, kd_3, fd_3_0, fd_3_1, fd_3_2, fd_3_3, fd_3_4, fd_3_5, fd_3_6, fd_3_7, fd_3_8, fd_3_9, ln_4, ln_5, ln_6, ln_7, ln_8, ln_9, ln_10, kd_11, fd_11_0, fd_11_1, fd_11_2, fd_11_3, fd_11_4, kd_12, fd_12_0, fd_12_1, fd_12_2, fd_12_3, ln_13, ln_14, ln_15, kd_16, fd_16_0, fd_16_1, fd_16_2, ln_17, kd_18, fd_18_0, fd_18_1, kd_19, fd_19_0, fd_19_1, fd_19_2, fd_19_3, fd_19_4, fd_19_5, fd_19_6, fd_19_7, fd_19_8, fd_19_9, fd_19_10, fd_19_11, fd_19_12, fd_19_13, fd_19_14, fd_19_15, fd_19_16, fd_19_17, fd_19_18, fd_19_19, fd_19_20, ln_20, ln_21, ln_22, ln_23, ln_24, ln_25, ln_26, ln_27, ln_28, ln_29, ln_30, ln_31, ln_32, List.getElem?_cons_zero, List.getElem?_cons_succ, List.set_cons_zero, List.set_cons_succ, true_and, and_true, ↓reduceIte, Int32.reduceLT, Int32.reduceLE, li_10, or_true, true_or, e1, e2, am_up_ap, Nat.reduceEqDiff, e3, e4, nI_pred]
      exact h
  · cases h
def m_let (M : aM) (x : Nat) (c : Int32) : aM := am_up (am_up M 23 (20 * x + cl (M 22 x)) c) 22 x (nI (cl (M 22 x) + 1))
def sp_Model_letter : aS := fun as M K => match as with
  | [.ref a, .int n, .int c] => a = 19 ∧ (n = nI (cl n) ∧ cl n < 200 ∧ M 22 (cl n) = nI (cl (M 22 (cl n))) ∧ cl (M 22 (cl n)) < 20) ∧ K none (m_let M (cl n) c)
  | _ => False
set_option maxRecDepth 100000 in
set_option maxHeartbeats 4000000 in
theorem ok_Model_letter {G : aG} (hG : am_ok G) : am_Sp G Y_Model_letter 0 sp_Model_letter := by
  intro as M K h
  unfold sp_Model_letter at h
  split at h
  · next a n c =>
    obtain ⟨rfl, ⟨h1, h2, h3, h4⟩, h⟩ := h
    have e1 : vp_in n 200 := by rw [h1]; exact vp_in_nI h2 (by decide)
    have e2 : 20 * n + M 22 (cl n) = nI (20 * cl n + cl (M 22 (cl n))) := by
      have q : 20 * n = nI (20 * cl n) := by
        rw [h1, show cl (nI (cl n)) = cl n from nI_clamp (cl_lt n)]
        exact (Int32.ofNat_mul 20 (cl n)).symm
      rw [q, h3, nI_add, show cl (nI (cl (M 22 (cl n)))) = cl (M 22 (cl n)) from nI_clamp (cl_lt _)]
    have e3 : vp_in (20 * n + M 22 (cl n)) 4000 := by rw [e2]; exact vp_in_nI (by omega) (by decide)
    have e4 : (20 * n + M 22 (cl n)).toNatClampNeg = 20 * cl n + cl (M 22 (cl n)) := by rw [e2]; exact nI_clamp (by omega)
    have e5 : M 22 (cl n) + 1 = nI (cl (M 22 (cl n)) + 1) := by rw [← nI_1, ← h3]
    refine am_entry hG (by decide +kernel) (Nat.le_of_ble_eq_true rfl) ?_
    refine am_go (cuts := k_Model_letter) tb_Model_letter 400 _ _ _ _ ?_
    change am_run _ _ _ _ _ _ [some (.ref 19), some (.int n), some (.int c)] [] _
    simp only [r_Model_letter_0, r_Model_letter_1, r_Model_letter_4, r_Model_letter_6, r_Model_letter_7, r_Model_letter_8, r_Model_letter_9, r_Model_letter_12, r_Model_letter_13, r_Model_letter_14, r_Model_letter_15, r_Model_letter_16, r_Model_letter_17, r_Model_letter_18, r_Model_letter_21, r_Model_letter_22, r_Model_letter_23, r_Model_letter_26, r_Model_letter_27, r_Model_letter_28, r_Model_letter_29, r_Model_letter_30, r_Model_letter_31, ai_aload, ai_getf, ai_const, ai_iload, ai_imul, ai_bin, ai_iald, ai_iadd, ai_iast, ai_vret, kd_0, fd_0_0, fd_0_1, fd_0_2, fd_0_3, fd_0_4, kd_1, fd_1_0, fd_1_1, ln_2, kd_3, fd_3_0, fd_3_1, fd_3_2, fd_3_3, fd_3_4, fd_3_5, fd_3_6, fd_3_7, fd_3_8, fd_3_9, ln_4, ln_5, ln_6, ln_7, ln_8, ln_9, ln_10, kd_11, fd_11_0, fd_11_1, fd_11_2, fd_11_3, fd_11_4, kd_12, fd_12_0, fd_12_1, fd_12_2, fd_12_3, ln_13, ln_14, ln_15, kd_16, fd_16_0, fd_16_1, fd_16_2, ln_17, kd_18, fd_18_0, fd_18_1, kd_19, fd_19_0, fd_19_1, fd_19_2, fd_19_3, fd_19_4, fd_19_5, fd_19_6, fd_19_7, fd_19_8, fd_19_9, fd_19_10, fd_19_11, fd_19_12, fd_19_13, fd_19_14, fd_19_15, fd_19_16, fd_19_17, fd_19_18, fd_19_19, fd_19_20, ln_20, ln_21, ln_22, ln_23, ln_24, ln_25, ln_26, ln_27, ln_28, ln_29, ln_30, ln_31, ln_32, List.getElem?_cons_zero, List.getElem?_cons_succ, List.set_cons_zero, List.set_cons_succ, true_and, and_true, ↓reduceIte, Int32.reduceLT, Int32.reduceLE, li_10, or_true, true_or, e1, e3, am_up_ap, Nat.reduceEqDiff, e4, e5]
    exact h
  · cases h
def mA1 (t : Nat → Int32) : Nat → Nat → Int32 → Int32
  | 0, _, v => v
  | f + 1, k, v => mA1 t f (k + 1) (if t k = 45 then v else 10 * v + t k - 48)
def mA2 (t : Nat → Int32) (x : Nat) : Nat → Nat → aM → aM
  | 0, _, M => M
  | f + 1, k, M => mA2 t x f (k + 1) (m_let M x (t k))
def mA3 (t : Nat → Int32) (N x : Nat) : Nat → Nat → aM → aM
  | 0, _, M => M
  | c + 1, i, M => if bt t N i = 34 then M else if bt t N i = 92 then mA3 t N x c (i + 2) (m_let M x (t (i + 1))) else mA3 t N x c (i + 1) (m_let M x (t i))
/-- where the token stands -/
def m_pl (M : aM) : Nat := cl (M 19 3)
def m_e (M : aM) : Nat := cl (M 19 2)
def pl_ok (M : aM) : Prop := M 19 3 = nI (m_pl M) ∧ M 19 2 = nI (m_e M) ∧ m_pl M < m_e M ∧ m_e M ≤ m_tl M
def m_val (M : aM) : Int32 := if M 20 (m_pl M) = 45 then -(mA1 (M 20) (m_e M - m_pl M) (m_pl M) 0) else mA1 (M 20) (m_e M - m_pl M) (m_pl M) 0
def m_atmM (M : aM) (k : Int32) : aM := if k = 1 then am_up (m_new M k) 22 (mN M) (m_val M) else if k = 2 then mA2 (M 20) (mN M) (m_e M - m_pl M) (m_pl M) (m_new M k) else mA3 (M 20) (m_tl M) (mN M) 21 (m_pl M + 1) (m_new M k)
def m_atom (M : aM) (k : Int32) : Int32 × aM := if mN M = 200 then (0, failM M (M 19 3)) else (nI (mN M), m_atmM M k)
/-- what the kinds ask of a token -/
def at_kd (M : aM) (k : Int32) : Prop := k = 1 ∨ (k = 2 ∧ m_e M - m_pl M ≤ 20) ∨ (k = 3 ∧ stE (M 20) (m_tl M) 21 (m_pl M + 1) = nI (m_e M))
def sp_Model_atom : aS := fun as M K => match as with
  | [.ref a, .int k] => a = 19 ∧ (mc_ok M ∧ mt_ok M ∧ pl_ok M ∧ M 19 4 < 0 ∧ at_kd M k) ∧ K (some (.int (m_atom M k).1)) (m_atom M k).2
  | _ => False
set_option maxRecDepth 100000 in
set_option maxHeartbeats 4000000 in
theorem lp_Model_atom1 {G : aG} (hG : am_ok G) {K : aR} {M : aM} {x e : Nat} {mi : Bool} {o6 : Option Value} (hx : x < 200) (he : M 19 2 = nI e) (h400 : e ≤ 400) : ∀ (f k : Nat) (v : Int32) (o6 : Option Value), k + f = e → K (some (.int (nI x))) (am_up M 22 x (if mi = true then -(mA1 (M 20) f k v) else mA1 (M 20) f k v)) → am_X G Y_Model_atom 2 K 44 [some (.ref 19), some (.int 1), some (.int (nI x)), some (.int (b2 mi)), some (.int v), some (.int (nI k)), o6] [] M := by
  intro f
  have vx : vp_in (nI x) 200 := vp_in_nI hx (by decide)
  have cx : (nI x).toNatClampNeg = x := nI_clamp (by omega)
  have l12 : ((1 : Int32) = 2) = False := eq_false (by decide)
  have l13 : ((1 : Int32) = 3) = False := eq_false (by decide)
  induction f with
  | zero =>
    intro k v o6 hk h
    have e1 : ¬ nI k < M 19 2 := by rw [he]; exact nI_nlt (by omega) (by omega)
    cases mi
    · simp only [mA1, Bool.false_eq_true, ↓reduceIte] at h
      have b0 : b2 false = 0 := rfl
      refine am_from (tb_Model_atom (ok_Model_node hG) (by decide) (ok_Model_letter hG) (by decide)) k_Model_atom 400 ?_
      simp only [q_Model_atom_44, r_Model_atom_0, r_Model_atom_1, r_Model_atom_2, r_Model_atom_5, r_Model_atom_6, r_Model_atom_7, r_Model_atom_10, r_Model_atom_13, r_Model_atom_14, r_Model_atom_15, r_Model_atom_16, r_Model_atom_19, r_Model_atom_20, r_Model_atom_23, r_Model_atom_24, r_Model_atom_26, r_Model_atom_29, r_Model_atom_30, r_Model_atom_33, r_Model_atom_34, r_Model_atom_35, r_Model_atom_36, r_Model_atom_38, r_Model_atom_39, r_Model_atom_42, r_Model_atom_44, r_Model_atom_46, r_Model_atom_47, r_Model_atom_50, r_Model_atom_53, r_Model_atom_54, r_Model_atom_57, r_Model_atom_59, r_Model_atom_60, r_Model_atom_62, r_Model_atom_63, r_Model_atom_64, r_Model_atom_67, r_Model_atom_69, r_Model_atom_71, r_Model_atom_74, r_Model_atom_76, r_Model_atom_78, r_Model_atom_79, r_Model_atom_81, r_Model_atom_82, r_Model_atom_84, r_Model_atom_85, r_Model_atom_87, r_Model_atom_88, r_Model_atom_89, r_Model_atom_92, r_Model_atom_93, r_Model_atom_94, r_Model_atom_96, r_Model_atom_99, r_Model_atom_100, r_Model_atom_101, r_Model_atom_104, r_Model_atom_106, r_Model_atom_107, r_Model_atom_110, r_Model_atom_113, r_Model_atom_115, r_Model_atom_116, r_Model_atom_119, r_Model_atom_120, r_Model_atom_121, r_Model_atom_124, r_Model_atom_126, r_Model_atom_128, r_Model_atom_131, r_Model_atom_133, r_Model_atom_134, r_Model_atom_135, r_Model_atom_138, r_Model_atom_140, r_Model_atom_142, r_Model_atom_143, r_Model_atom_144, r_Model_atom_145, r_Model_atom_148, r_Model_atom_150, r_Model_atom_151, r_Model_atom_154, r_Model_atom_157, r_Model_atom_160, r_Model_atom_161, r_Model_atom_162, r_Model_atom_165, r_Model_atom_166, r_Model_atom_169, r_Model_atom_170, r_Model_atom_171, r_Model_atom_174, r_Model_atom_176, r_Model_atom_177, r_Model_atom_180, r_Model_atom_182, r_Model_atom_183, r_Model_atom_184, ai_aload, ai_iload, ai_callv2, am_push, am_few, ai_istore, am_cut_0, am_cut_s, am_c1, ai_getf, ai_iflt, ai_iret, ai_iald, ai_const, ai_cmpne, ai_goto, ai_cmpge, ai_cmpeq, ai_imul, ai_bin, ai_iadd, ai_isub, ai_callv3, ai_cmple, ai_iinc, ai_ifeq, ai_ineg, ai_iast, kd_0, fd_0_0, fd_0_1, fd_0_2, fd_0_3, fd_0_4, kd_1, fd_1_0, fd_1_1, ln_2, kd_3, fd_3_0, fd_3_1, fd_3_2, fd_3_3, fd_3_4, fd_3_5, fd_3_6, fd_3_7, fd_3_8, fd_3_9, ln_4, ln_5, ln_6, ln_7, ln_8, ln_9, ln_10, kd_11, fd_11_0, fd_11_1, fd_11_2, fd_11_3, fd_11_4, kd_12, fd_12_0, fd_12_1, fd_12_2, fd_12_3, ln_13, ln_14, ln_15, kd_16, fd_16_0, fd_16_1, fd_16_2, ln_17, kd_18, fd_18_0, fd_18_1, kd_19, fd_19_0, fd_19_1, fd_19_2, fd_19_3, fd_19_4, fd_19_5, fd_19_6, fd_19_7, fd_19_8, fd_19_9, fd_19_10, fd_19_11, fd_19_12, fd_19_13, fd_19_14, fd_19_15, fd_19_16, fd_19_17, fd_19_18, fd_19_19, fd_19_20, ln_20, ln_21, ln_22, ln_23, ln_24, ln_25, ln_26, ln_27, ln_28, ln_29, ln_30, ln_31, ln_32, List.getElem?_cons_zero, List.getElem?_cons_succ, List.set_cons_zero, List.set_cons_succ, true_and, and_true, ↓reduceIte, Int32.reduceLT, Int32.reduceLE, li_10, or_true, true_or, e1, vx, cx, b0]
      exact h
    · simp only [mA1, ↓reduceIte] at h
      have b1 : ¬ b2 true = 0 := by decide
      refine am_from (tb_Model_atom (ok_Model_node hG) (by decide) (ok_Model_letter hG) (by decide)) k_Model_atom 400 ?_
      simp only [q_Model_atom_44, r_Model_atom_0, r_Model_atom_1, r_Model_atom_2, r_Model_atom_5, r_Model_atom_6, r_Model_atom_7, r_Model_atom_10, r_Model_atom_13, r_Model_atom_14, r_Model_atom_15, r_Model_atom_16, r_Model_atom_19, r_Model_atom_20, r_Model_atom_23, r_Model_atom_24, r_Model_atom_26, r_Model_atom_29, r_Model_atom_30, r_Model_atom_33, r_Model_atom_34, r_Model_atom_35, r_Model_atom_36, r_Model_atom_38, r_Model_atom_39, r_Model_atom_42, r_Model_atom_44, r_Model_atom_46, r_Model_atom_47, r_Model_atom_50, r_Model_atom_53, r_Model_atom_54, r_Model_atom_57, r_Model_atom_59, r_Model_atom_60, r_Model_atom_62, r_Model_atom_63, r_Model_atom_64, r_Model_atom_67, r_Model_atom_69, r_Model_atom_71, r_Model_atom_74, r_Model_atom_76, r_Model_atom_78, r_Model_atom_79, r_Model_atom_81, r_Model_atom_82, r_Model_atom_84, r_Model_atom_85, r_Model_atom_87, r_Model_atom_88, r_Model_atom_89, r_Model_atom_92, r_Model_atom_93, r_Model_atom_94, r_Model_atom_96, r_Model_atom_99, r_Model_atom_100, r_Model_atom_101, r_Model_atom_104, r_Model_atom_106, r_Model_atom_107, r_Model_atom_110, r_Model_atom_113, r_Model_atom_115, r_Model_atom_116, r_Model_atom_119, r_Model_atom_120, r_Model_atom_121, r_Model_atom_124, r_Model_atom_126, r_Model_atom_128, r_Model_atom_131, r_Model_atom_133, r_Model_atom_134, r_Model_atom_135, r_Model_atom_138, r_Model_atom_140, r_Model_atom_142, r_Model_atom_143, r_Model_atom_144, r_Model_atom_145, r_Model_atom_148, r_Model_atom_150, r_Model_atom_151, r_Model_atom_154, r_Model_atom_157, r_Model_atom_160, r_Model_atom_161, r_Model_atom_162, r_Model_atom_165, r_Model_atom_166, r_Model_atom_169, r_Model_atom_170, r_Model_atom_171, r_Model_atom_174, r_Model_atom_176, r_Model_atom_177, r_Model_atom_180, r_Model_atom_182, r_Model_atom_183, r_Model_atom_184, ai_aload, ai_iload, ai_callv2, am_push, am_few, ai_istore, am_cut_0, am_cut_s, am_c1, ai_getf, ai_iflt, ai_iret, ai_iald, ai_const, ai_cmpne, ai_goto, ai_cmpge, ai_cmpeq, ai_imul, ai_bin, ai_iadd, ai_isub, ai_callv3, ai_cmple, ai_iinc, ai_ifeq, ai_ineg, ai_iast, kd_0, fd_0_0, fd_0_1, fd_0_2, fd_0_3, fd_0_4, kd_1, fd_1_0, fd_1_1, ln_2, kd_3, fd_3_0, fd_3_1, fd_3_2, fd_3_3, fd_3_4, fd_3_5, fd_3_6, fd_3_7, fd_3_8, fd_3_9, ln_4, ln_5, ln_6, ln_7, ln_8, ln_9, ln_10, kd_11, fd_11_0, fd_11_1, fd_11_2, fd_11_3, fd_11_4, kd_12, fd_12_0, fd_12_1, fd_12_2, fd_12_3, ln_13, ln_14, ln_15, kd_16, fd_16_0, fd_16_1, fd_16_2, ln_17, kd_18, fd_18_0, fd_18_1, kd_19, fd_19_0, fd_19_1, fd_19_2, fd_19_3, fd_19_4, fd_19_5, fd_19_6, fd_19_7, fd_19_8, fd_19_9, fd_19_10, fd_19_11, fd_19_12, fd_19_13, fd_19_14, fd_19_15, fd_19_16, fd_19_17, fd_19_18, fd_19_19, fd_19_20, ln_20, ln_21, ln_22, ln_23, ln_24, ln_25, ln_26, ln_27, ln_28, ln_29, ln_30, ln_31, ln_32, List.getElem?_cons_zero, List.getElem?_cons_succ, List.set_cons_zero, List.set_cons_succ, true_and, and_true, ↓reduceIte, Int32.reduceLT, Int32.reduceLE, li_10, or_true, true_or, e1, vx, cx, b1]
      exact h
  | succ f ih =>
    intro k v o6 hk h
    have e1 : nI k < M 19 2 := by rw [he]; exact nI_lt (by omega) (by omega)
    have vk : vp_in (nI k) 400 := vp_in_nI (by omega) (by decide)
    have ck : (nI k).toNatClampNeg = k := nI_clamp (by omega)
    rw [mA1] at h
    by_cases c : M 20 k = 45
    · have c' : (M 20 k = 45) = True := eq_true c
      rw [if_pos c] at h
      refine am_from (tb_Model_atom (ok_Model_node hG) (by decide) (ok_Model_letter hG) (by decide)) k_Model_atom 400 ?_
      simp only [q_Model_atom_44, r_Model_atom_0, r_Model_atom_1, r_Model_atom_2, r_Model_atom_5, r_Model_atom_6, r_Model_atom_7, r_Model_atom_10, r_Model_atom_13, r_Model_atom_14, r_Model_atom_15, r_Model_atom_16, r_Model_atom_19, r_Model_atom_20, r_Model_atom_23, r_Model_atom_24, r_Model_atom_26, r_Model_atom_29, r_Model_atom_30, r_Model_atom_33, r_Model_atom_34, r_Model_atom_35, r_Model_atom_36, r_Model_atom_38, r_Model_atom_39, r_Model_atom_42, r_Model_atom_44, r_Model_atom_46, r_Model_atom_47, r_Model_atom_50, r_Model_atom_53, r_Model_atom_54, r_Model_atom_57, r_Model_atom_59, r_Model_atom_60, r_Model_atom_62, r_Model_atom_63, r_Model_atom_64, r_Model_atom_67, r_Model_atom_69, r_Model_atom_71, r_Model_atom_74, r_Model_atom_76, r_Model_atom_78, r_Model_atom_79, r_Model_atom_81, r_Model_atom_82, r_Model_atom_84, r_Model_atom_85, r_Model_atom_87, r_Model_atom_88, r_Model_atom_89, r_Model_atom_92, r_Model_atom_93, r_Model_atom_94, r_Model_atom_96, r_Model_atom_99, r_Model_atom_100, r_Model_atom_101, r_Model_atom_104, r_Model_atom_106, r_Model_atom_107, r_Model_atom_110, r_Model_atom_113, r_Model_atom_115, r_Model_atom_116, r_Model_atom_119, r_Model_atom_120, r_Model_atom_121, r_Model_atom_124, r_Model_atom_126, r_Model_atom_128, r_Model_atom_131, r_Model_atom_133, r_Model_atom_134, r_Model_atom_135, r_Model_atom_138, r_Model_atom_140, r_Model_atom_142, r_Model_atom_143, r_Model_atom_144, r_Model_atom_145, r_Model_atom_148, r_Model_atom_150, r_Model_atom_151, r_Model_atom_154, r_Model_atom_157, r_Model_atom_160, r_Model_atom_161, r_Model_atom_162, r_Model_atom_165, r_Model_atom_166, r_Model_atom_169, r_Model_atom_170, r_Model_atom_171, r_Model_atom_174, r_Model_atom_176, r_Model_atom_177, r_Model_atom_180, r_Model_atom_182, r_Model_atom_183, r_Model_atom_184, ai_aload, ai_iload, ai_callv2, am_push, am_few, ai_istore, am_cut_0, am_cut_s, am_c1, ai_getf, ai_iflt, ai_iret, ai_iald, ai_const, ai_cmpne, ai_goto, ai_cmpge, ai_cmpeq, ai_imul, ai_bin, ai_iadd, ai_isub, ai_callv3, ai_cmple, ai_iinc, ai_ifeq, ai_ineg, ai_iast, kd_0, fd_0_0, fd_0_1, fd_0_2, fd_0_3, fd_0_4, kd_1, fd_1_0, fd_1_1, ln_2, kd_3, fd_3_0, fd_3_1, fd_3_2, fd_3_3, fd_3_4, fd_3_5, fd_3_6, fd_3_7, fd_3_8, fd_3_9, ln_4, ln_5, ln_6, ln_7, ln_8, ln_9, ln_10, kd_11, fd_11_0, fd_11_1, fd_11_2, fd_11_3, fd_11_4, kd_12, fd_12_0, fd_12_1, fd_12_2, fd_12_3, ln_13, ln_14, ln_15, kd_16, fd_16_0, fd_16_1, fd_16_2, ln_17, kd_18, fd_18_0, fd_18_1, kd_19, fd_19_0, fd_19_1, fd_19_2, fd_19_3, fd_19_4, fd_19_5, fd_19_6, fd_19_7, fd_19_8, fd_19_9, fd_19_10, fd_19_11, fd_19_12, fd_19_13, fd_19_14, fd_19_15, fd_19_16, fd_19_17, fd_19_18, fd_19_19, fd_19_20, ln_20, ln_21, ln_22, ln_23, ln_24, ln_25, ln_26, ln_27, ln_28, ln_29, ln_30, ln_31, ln_32, List.getElem?_cons_zero, List.getElem?_cons_succ, List.set_cons_zero, List.set_cons_succ, true_and, and_true, ↓reduceIte, Int32.reduceLT, Int32.reduceLE, li_10, or_true, true_or, e1, vk, ck, c', l12, l13, nI_1]
      exact ih (k + 1) v _ (by omega) h
    · rw [if_neg c] at h
      refine am_from (tb_Model_atom (ok_Model_node hG) (by decide) (ok_Model_letter hG) (by decide)) k_Model_atom 400 ?_
      simp only [q_Model_atom_44, r_Model_atom_0, r_Model_atom_1, r_Model_atom_2, r_Model_atom_5, r_Model_atom_6, r_Model_atom_7, r_Model_atom_10, r_Model_atom_13, r_Model_atom_14, r_Model_atom_15, r_Model_atom_16, r_Model_atom_19, r_Model_atom_20, r_Model_atom_23, r_Model_atom_24, r_Model_atom_26, r_Model_atom_29, r_Model_atom_30, r_Model_atom_33, r_Model_atom_34, r_Model_atom_35, r_Model_atom_36, r_Model_atom_38, r_Model_atom_39, r_Model_atom_42, r_Model_atom_44, r_Model_atom_46, r_Model_atom_47, r_Model_atom_50, r_Model_atom_53, r_Model_atom_54, r_Model_atom_57, r_Model_atom_59, r_Model_atom_60, r_Model_atom_62, r_Model_atom_63, r_Model_atom_64, r_Model_atom_67, r_Model_atom_69, r_Model_atom_71, r_Model_atom_74, r_Model_atom_76, r_Model_atom_78, r_Model_atom_79, r_Model_atom_81, r_Model_atom_82, r_Model_atom_84, r_Model_atom_85, r_Model_atom_87, r_Model_atom_88, r_Model_atom_89, r_Model_atom_92, r_Model_atom_93, r_Model_atom_94, r_Model_atom_96, r_Model_atom_99, r_Model_atom_100, r_Model_atom_101, r_Model_atom_104, r_Model_atom_106, r_Model_atom_107, r_Model_atom_110, r_Model_atom_113, r_Model_atom_115, r_Model_atom_116, r_Model_atom_119, r_Model_atom_120, r_Model_atom_121, r_Model_atom_124, r_Model_atom_126, r_Model_atom_128, r_Model_atom_131, r_Model_atom_133, r_Model_atom_134, r_Model_atom_135, r_Model_atom_138, r_Model_atom_140, r_Model_atom_142, r_Model_atom_143, r_Model_atom_144, r_Model_atom_145, r_Model_atom_148, r_Model_atom_150, r_Model_atom_151, r_Model_atom_154, r_Model_atom_157, r_Model_atom_160, r_Model_atom_161, r_Model_atom_162, r_Model_atom_165, r_Model_atom_166, r_Model_atom_169, r_Model_atom_170, r_Model_atom_171, r_Model_atom_174, r_Model_atom_176, r_Model_atom_177, r_Model_atom_180, r_Model_atom_182, r_Model_atom_183, r_Model_atom_184, ai_aload, ai_iload, ai_callv2, am_push, am_few, ai_istore, am_cut_0, am_cut_s, am_c1, ai_getf, ai_iflt, ai_iret, ai_iald, ai_const, ai_cmpne, ai_goto, ai_cmpge, ai_cmpeq, ai_imul, ai_bin, ai_iadd, ai_isub, ai_callv3, ai_cmple, ai_iinc, ai_ifeq, ai_ineg, ai_iast, kd_0, fd_0_0, fd_0_1, fd_0_2, fd_0_3, fd_0_4, kd_1, fd_1_0, fd_1_1, ln_2, kd_3, fd_3_0, fd_3_1, fd_3_2, fd_3_3, fd_3_4, fd_3_5, fd_3_6, fd_3_7, fd_3_8, fd_3_9, ln_4, ln_5, ln_6, ln_7, ln_8, ln_9, ln_10, kd_11, fd_11_0, fd_11_1, fd_11_2, fd_11_3, fd_11_4, kd_12, fd_12_0, fd_12_1, fd_12_2, fd_12_3, ln_13, ln_14, ln_15, kd_16, fd_16_0, fd_16_1, fd_16_2, ln_17, kd_18, fd_18_0, fd_18_1, kd_19, fd_19_0, fd_19_1, fd_19_2, fd_19_3, fd_19_4, fd_19_5, fd_19_6, fd_19_7, fd_19_8, fd_19_9, fd_19_10, fd_19_11, fd_19_12, fd_19_13, fd_19_14, fd_19_15, fd_19_16, fd_19_17, fd_19_18, fd_19_19, fd_19_20, ln_20, ln_21, ln_22, ln_23, ln_24, ln_25, ln_26, ln_27, ln_28, ln_29, ln_30, ln_31, ln_32, List.getElem?_cons_zero, List.getElem?_cons_succ, List.set_cons_zero, List.set_cons_succ, true_and, and_true, ↓reduceIte, Int32.reduceLT, Int32.reduceLE, li_10, or_true, true_or, e1, vk, ck, c, l12, l13, nI_1]
      exact ih (k + 1) _ _ (by omega) h
theorem m_let_19 (M : aM) (x : Nat) (c : Int32) : m_let M x c 19 = M 19 := rfl
theorem m_let_20 (M : aM) (x : Nat) (c : Int32) : m_let M x c 20 = M 20 := rfl
theorem m_let_22 (M : aM) (x : Nat) (c : Int32) : m_let M x c 22 x = nI (cl (M 22 x) + 1) := by
  unfold m_let
  simp only [am_up_ap, ↓reduceIte]
set_option maxRecDepth 100000 in
set_option maxHeartbeats 4000000 in
theorem lp_Model_atom2 {G : aG} (hG : am_ok G) {K : aR} {t : Nat → Int32} {x e : Nat} {mi v0 : Int32} (hx : x < 200) (h400 : e ≤ 400) : ∀ (f k v : Nat) (M : aM) (o6 : Option Value), M 20 = t → M 19 2 = nI e → k + f = e → M 22 x = nI v → v + f ≤ 20 → K (some (.int (nI x))) (mA2 t x f k M) → am_X G Y_Model_atom 2 K 44 [some (.ref 19), some (.int 2), some (.int (nI x)), some (.int mi), some (.int v0), some (.int (nI k)), o6] [] M := by
  intro f
  have cx : cl (nI x) = x := nI_clamp (by omega)
  have ex : nI x = nI (cl (nI x)) := by rw [cx]
  have l21 : ((2 : Int32) = 1) = False := eq_false (by decide)
  have l23 : ((2 : Int32) = 3) = False := eq_false (by decide)
  induction f with
  | zero =>
    intro k v M o6 hM he hk hv hvf h
    have e1 : ¬ nI k < M 19 2 := by rw [he]; exact nI_nlt (by omega) (by omega)
    refine am_from (tb_Model_atom (ok_Model_node hG) (by decide) (ok_Model_letter hG) (by decide)) k_Model_atom 400 ?_
    simp only [q_Model_atom_44, r_Model_atom_0, r_Model_atom_1, r_Model_atom_2, r_Model_atom_5, r_Model_atom_6, r_Model_atom_7, r_Model_atom_10, r_Model_atom_13, r_Model_atom_14, r_Model_atom_15, r_Model_atom_16, r_Model_atom_19, r_Model_atom_20, r_Model_atom_23, r_Model_atom_24, r_Model_atom_26, r_Model_atom_29, r_Model_atom_30, r_Model_atom_33, r_Model_atom_34, r_Model_atom_35, r_Model_atom_36, r_Model_atom_38, r_Model_atom_39, r_Model_atom_42, r_Model_atom_44, r_Model_atom_46, r_Model_atom_47, r_Model_atom_50, r_Model_atom_53, r_Model_atom_54, r_Model_atom_57, r_Model_atom_59, r_Model_atom_60, r_Model_atom_62, r_Model_atom_63, r_Model_atom_64, r_Model_atom_67, r_Model_atom_69, r_Model_atom_71, r_Model_atom_74, r_Model_atom_76, r_Model_atom_78, r_Model_atom_79, r_Model_atom_81, r_Model_atom_82, r_Model_atom_84, r_Model_atom_85, r_Model_atom_87, r_Model_atom_88, r_Model_atom_89, r_Model_atom_92, r_Model_atom_93, r_Model_atom_94, r_Model_atom_96, r_Model_atom_99, r_Model_atom_100, r_Model_atom_101, r_Model_atom_104, r_Model_atom_106, r_Model_atom_107, r_Model_atom_110, r_Model_atom_113, r_Model_atom_115, r_Model_atom_116, r_Model_atom_119, r_Model_atom_120, r_Model_atom_121, r_Model_atom_124, r_Model_atom_126, r_Model_atom_128, r_Model_atom_131, r_Model_atom_133, r_Model_atom_134, r_Model_atom_135, r_Model_atom_138, r_Model_atom_140, r_Model_atom_142, r_Model_atom_143, r_Model_atom_144, r_Model_atom_145, r_Model_atom_148, r_Model_atom_150, r_Model_atom_151, r_Model_atom_154, r_Model_atom_157, r_Model_atom_160, r_Model_atom_161, r_Model_atom_162, r_Model_atom_165, r_Model_atom_166, r_Model_atom_169, r_Model_atom_170, r_Model_atom_171, r_Model_atom_174, r_Model_atom_176, r_Model_atom_177, r_Model_atom_180, r_Model_atom_182, r_Model_atom_183, r_Model_atom_184, ai_aload, ai_iload, ai_callv2, am_push, am_few, ai_istore, am_cut_0, am_cut_s, am_c1, ai_getf, ai_iflt, ai_iret, ai_iald, ai_const, ai_cmpne, ai_goto, ai_cmpge, ai_cmpeq, ai_imul, ai_bin, ai_iadd, ai_isub, ai_callv3, ai_cmple, ai_iinc, ai_ifeq, ai_ineg, ai_iast, kd_0, fd_0_0, fd_0_1, fd_0_2, fd_0_3, fd_0_4, kd_1, fd_1_0, fd_1_1, ln_2, kd_3, fd_3_0, fd_3_1, fd_3_2, fd_3_3, fd_3_4, fd_3_5, fd_3_6, fd_3_7, fd_3_8, fd_3_9, ln_4, ln_5, ln_6, ln_7, ln_8, ln_9, ln_10, kd_11, fd_11_0, fd_11_1, fd_11_2, fd_11_3, fd_11_4, kd_12, fd_12_0, fd_12_1, fd_12_2, fd_12_3, ln_13, ln_14, ln_15, kd_16, fd_16_0, fd_16_1, fd_16_2, ln_17, kd_18, fd_18_0, fd_18_1, kd_19, fd_19_0, fd_19_1, fd_19_2, fd_19_3, fd_19_4, fd_19_5, fd_19_6, fd_19_7, fd_19_8, fd_19_9, fd_19_10, fd_19_11, fd_19_12, fd_19_13, fd_19_14, fd_19_15, fd_19_16, fd_19_17, fd_19_18, fd_19_19, fd_19_20, ln_20, ln_21, ln_22, ln_23, ln_24, ln_25, ln_26, ln_27, ln_28, ln_29, ln_30, ln_31, ln_32, List.getElem?_cons_zero, List.getElem?_cons_succ, List.set_cons_zero, List.set_cons_succ, true_and, and_true, ↓reduceIte, Int32.reduceLT, Int32.reduceLE, li_10, or_true, true_or, e1, l21]
    exact h
  | succ f ih =>
    intro k v M o6 hM he hk hv hvf h
    have e1 : nI k < M 19 2 := by rw [he]; exact nI_lt (by omega) (by omega)
    have vk : vp_in (nI k) 400 := vp_in_nI (by omega) (by decide)
    have ck : (nI k).toNatClampNeg = k := nI_clamp (by omega)
    rw [mA2] at h
    have q1 : cl (nI x) < 200 := by rw [cx]; exact hx
    have q2 : M 22 (cl (nI x)) = nI (cl (M 22 (cl (nI x)))) := by rw [cx, hv, show cl (nI v) = v from nI_clamp (by omega)]
    have q3 : cl (M 22 (cl (nI x))) < 20 := by rw [cx, hv, show cl (nI v) = v from nI_clamp (by omega)]; omega
    refine am_from (tb_Model_atom (ok_Model_node hG) (by decide) (ok_Model_letter hG) (by decide)) k_Model_atom 400 ?_
    simp only [q_Model_atom_44, r_Model_atom_0, r_Model_atom_1, r_Model_atom_2, r_Model_atom_5, r_Model_atom_6, r_Model_atom_7, r_Model_atom_10, r_Model_atom_13, r_Model_atom_14, r_Model_atom_15, r_Model_atom_16, r_Model_atom_19, r_Model_atom_20, r_Model_atom_23, r_Model_atom_24, r_Model_atom_26, r_Model_atom_29, r_Model_atom_30, r_Model_atom_33, r_Model_atom_34, r_Model_atom_35, r_Model_atom_36, r_Model_atom_38, r_Model_atom_39, r_Model_atom_42, r_Model_atom_44, r_Model_atom_46, r_Model_atom_47, r_Model_atom_50, r_Model_atom_53, r_Model_atom_54, r_Model_atom_57, r_Model_atom_59, r_Model_atom_60, r_Model_atom_62, r_Model_atom_63, r_Model_atom_64, r_Model_atom_67, r_Model_atom_69, r_Model_atom_71, r_Model_atom_74, r_Model_atom_76, r_Model_atom_78, r_Model_atom_79, r_Model_atom_81, r_Model_atom_82, r_Model_atom_84, r_Model_atom_85, r_Model_atom_87, r_Model_atom_88, r_Model_atom_89, r_Model_atom_92, r_Model_atom_93, r_Model_atom_94, r_Model_atom_96, r_Model_atom_99, r_Model_atom_100, r_Model_atom_101, r_Model_atom_104, r_Model_atom_106, r_Model_atom_107, r_Model_atom_110, r_Model_atom_113, r_Model_atom_115, r_Model_atom_116, r_Model_atom_119, r_Model_atom_120, r_Model_atom_121, r_Model_atom_124, r_Model_atom_126, r_Model_atom_128, r_Model_atom_131, r_Model_atom_133, r_Model_atom_134, r_Model_atom_135, r_Model_atom_138, r_Model_atom_140, r_Model_atom_142, r_Model_atom_143, r_Model_atom_144, r_Model_atom_145, r_Model_atom_148, r_Model_atom_150, r_Model_atom_151, r_Model_atom_154, r_Model_atom_157, r_Model_atom_160, r_Model_atom_161, r_Model_atom_162, r_Model_atom_165, r_Model_atom_166, r_Model_atom_169, r_Model_atom_170, r_Model_atom_171, r_Model_atom_174, r_Model_atom_176, r_Model_atom_177, r_Model_atom_180, r_Model_atom_182, r_Model_atom_183, r_Model_atom_184, ai_aload, ai_iload, ai_callv2, am_push, am_few, ai_istore, am_cut_0, am_cut_s, am_c1, ai_getf, ai_iflt, ai_iret, ai_iald, ai_const, ai_cmpne, ai_goto, ai_cmpge, ai_cmpeq, ai_imul, ai_bin, ai_iadd, ai_isub, ai_callv3, ai_cmple, ai_iinc, ai_ifeq, ai_ineg, ai_iast, kd_0, fd_0_0, fd_0_1, fd_0_2, fd_0_3, fd_0_4, kd_1, fd_1_0, fd_1_1, ln_2, kd_3, fd_3_0, fd_3_1, fd_3_2, fd_3_3, fd_3_4, fd_3_5, fd_3_6, fd_3_7, fd_3_8, fd_3_9, ln_4, ln_5, ln_6, ln_7, ln_8, ln_9, ln_10, kd_11, fd_11_0, fd_11_1, fd_11_2, fd_11_3, fd_11_4, kd_12, fd_12_0, fd_12_1, fd_12_2, fd_12_3, ln_13, ln_14, ln_15, kd_16, fd_16_0, fd_16_1, fd_16_2, ln_17, kd_18, fd_18_0, fd_18_1, kd_19, fd_19_0, fd_19_1, fd_19_2, fd_19_3, fd_19_4, fd_19_5, fd_19_6, fd_19_7, fd_19_8, fd_19_9, fd_19_10, fd_19_11, fd_19_12, fd_19_13, fd_19_14, fd_19_15, fd_19_16, fd_19_17, fd_19_18, fd_19_19, fd_19_20, ln_20, ln_21, ln_22, ln_23, ln_24, ln_25, ln_26, ln_27, ln_28, ln_29, ln_30, ln_31, ln_32, List.getElem?_cons_zero, List.getElem?_cons_succ, List.set_cons_zero, List.set_cons_succ, true_and, and_true, ↓reduceIte, Int32.reduceLT, Int32.reduceLE, li_10, or_true, true_or, ↓sp_Model_letter, e1, vk, ck, l21, l23, nI_1, ← ex, q1, ← q2, q3]
    rw [cx, hM]
    refine ih (k + 1) (v + 1) _ _ ?_ ?_ (by omega) ?_ (by omega) h
    · rw [m_let_20, hM]
    · rw [m_let_19, he]
    · rw [m_let_22, hv, show cl (nI v) = v from nI_clamp (by omega)]
theorem stE_gt {t : Nat → Int32} {N e : Nat} (he : e < 2 ^ 31) : ∀ (c i : Nat), N ≤ 400 → i ≤ 500 + 2 * (21 - c) → c ≤ 21 → stE t N c i = nI e → i < e ∧ e ≤ N := by
  intro c
  have hne : ¬ (-1 : Int32) = nI e := fun q => nI_ne he q.symm
  induction c with
  | zero =>
    intro i hN hi hc h
    exact absurd h hne
  | succ c ih =>
    intro i hN hi hc h
    rw [stE] at h
    by_cases c1 : bt t N i = 34
    · rw [if_pos c1] at h
      have := (nI_eq (a := i + 1) (b := e) (by omega) he).mp h
      have hlt : i < N := bt_lt (t := t) (by rw [c1]; decide)
      omega
    rw [if_neg c1] at h
    by_cases c2 : bt t N i = 92
    · rw [if_pos c2] at h
      by_cases c3 : bt t N (i + 1) = 34
      · rw [if_pos c3] at h
        have := ih (i + 2) hN (by omega) (by omega) h
        omega
      rw [if_neg c3] at h
      by_cases c4 : bt t N (i + 1) = 92
      · rw [if_pos c4] at h
        have := ih (i + 2) hN (by omega) (by omega) h
        omega
      · rw [if_neg c4] at h
        exact absurd h hne
    rw [if_neg c2] at h
    by_cases c5 : bt t N i < 32
    · rw [if_pos c5] at h; exact absurd h hne
    rw [if_neg c5] at h
    by_cases c6 : 126 < bt t N i
    · rw [if_pos c6] at h; exact absurd h hne
    rw [if_neg c6] at h
    have := ih (i + 1) hN (by omega) (by omega) h
    omega
set_option maxRecDepth 100000 in
set_option maxHeartbeats 4000000 in
theorem lp_Model_atom3 {G : aG} (hG : am_ok G) {K : aR} {t : Nat → Int32} {x e N pl : Nat} {mi v0 : Int32} (hx : x < 200) (hN : N ≤ 400) (he400 : e ≤ N) : ∀ (c i v : Nat) (M : aM) (o6 : Option Value), M 20 = t → M 19 2 = nI e → M 19 3 = nI pl → pl < i → i ≤ 401 → M 22 x = nI v → v + c = 20 → stE t N (c + 1) i = nI e → K (some (.int (nI x))) (mA3 t N x (c + 1) i M) → am_X G Y_Model_atom 2 K 44 [some (.ref 19), some (.int 3), some (.int (nI x)), some (.int mi), some (.int v0), some (.int (nI i)), o6] [] M := by
  intro c
  have cx : cl (nI x) = x := nI_clamp (by omega)
  have ex : nI x = nI (cl (nI x)) := by rw [cx]
  have l31 : ((3 : Int32) = 1) = False := eq_false (by decide)
  have hne : ¬ (-1 : Int32) = nI e := fun q => nI_ne (by omega) q.symm
  have Hend : ∀ (i v c : Nat) (M : aM) (o6 : Option Value), M 20 = t → M 19 2 = nI e → M 19 3 = nI pl → pl < i → i ≤ 401 → e = i + 1 → K (some (.int (nI x))) M → am_X G Y_Model_atom 2 K 44 [some (.ref 19), some (.int 3), some (.int (nI x)), some (.int mi), some (.int v0), some (.int (nI i)), o6] [] M := by
    intro i v c M o6 hM he hpl hi hi4 hei h
    have e1 : nI i < M 19 2 := by rw [he]; exact nI_lt (by omega) (by omega)
    have vk : vp_in (nI i) 400 := vp_in_nI (by omega) (by decide)
    have ck : (nI i).toNatClampNeg = i := nI_clamp (by omega)
    have e2 : M 19 3 < nI i := by rw [hpl]; exact nI_lt hi (by omega)
    have e3 : ¬ nI i < M 19 2 - 1 := by
      rw [he, show nI e - 1 = nI (e - 1) from pk_sub (b := 1) (by omega)]
      exact nI_nlt (by omega) (by omega)
    have z : ∀ o6, am_X G Y_Model_atom 2 K 44 [some (.ref 19), some (.int 3), some (.int (nI x)), some (.int mi), some (.int v0), some (.int (nI (i + 1))), o6] [] M := by
      intro o6
      have f1 : ¬ nI (i + 1) < M 19 2 := by rw [he]; exact nI_nlt (by omega) (by omega)
      refine am_from (tb_Model_atom (ok_Model_node hG) (by decide) (ok_Model_letter hG) (by decide)) k_Model_atom 400 ?_
      simp only [q_Model_atom_44, r_Model_atom_0, r_Model_atom_1, r_Model_atom_2, r_Model_atom_5, r_Model_atom_6, r_Model_atom_7, r_Model_atom_10, r_Model_atom_13, r_Model_atom_14, r_Model_atom_15, r_Model_atom_16, r_Model_atom_19, r_Model_atom_20, r_Model_atom_23, r_Model_atom_24, r_Model_atom_26, r_Model_atom_29, r_Model_atom_30, r_Model_atom_33, r_Model_atom_34, r_Model_atom_35, r_Model_atom_36, r_Model_atom_38, r_Model_atom_39, r_Model_atom_42, r_Model_atom_44, r_Model_atom_46, r_Model_atom_47, r_Model_atom_50, r_Model_atom_53, r_Model_atom_54, r_Model_atom_57, r_Model_atom_59, r_Model_atom_60, r_Model_atom_62, r_Model_atom_63, r_Model_atom_64, r_Model_atom_67, r_Model_atom_69, r_Model_atom_71, r_Model_atom_74, r_Model_atom_76, r_Model_atom_78, r_Model_atom_79, r_Model_atom_81, r_Model_atom_82, r_Model_atom_84, r_Model_atom_85, r_Model_atom_87, r_Model_atom_88, r_Model_atom_89, r_Model_atom_92, r_Model_atom_93, r_Model_atom_94, r_Model_atom_96, r_Model_atom_99, r_Model_atom_100, r_Model_atom_101, r_Model_atom_104, r_Model_atom_106, r_Model_atom_107, r_Model_atom_110, r_Model_atom_113, r_Model_atom_115, r_Model_atom_116, r_Model_atom_119, r_Model_atom_120, r_Model_atom_121, r_Model_atom_124, r_Model_atom_126, r_Model_atom_128, r_Model_atom_131, r_Model_atom_133, r_Model_atom_134, r_Model_atom_135, r_Model_atom_138, r_Model_atom_140, r_Model_atom_142, r_Model_atom_143, r_Model_atom_144, r_Model_atom_145, r_Model_atom_148, r_Model_atom_150, r_Model_atom_151, r_Model_atom_154, r_Model_atom_157, r_Model_atom_160, r_Model_atom_161, r_Model_atom_162, r_Model_atom_165, r_Model_atom_166, r_Model_atom_169, r_Model_atom_170, r_Model_atom_171, r_Model_atom_174, r_Model_atom_176, r_Model_atom_177, r_Model_atom_180, r_Model_atom_182, r_Model_atom_183, r_Model_atom_184, ai_aload, ai_iload, ai_callv2, am_push, am_few, ai_istore, am_cut_0, am_cut_s, am_c1, ai_getf, ai_iflt, ai_iret, ai_iald, ai_const, ai_cmpne, ai_goto, ai_cmpge, ai_cmpeq, ai_imul, ai_bin, ai_iadd, ai_isub, ai_callv3, ai_cmple, ai_iinc, ai_ifeq, ai_ineg, ai_iast, kd_0, fd_0_0, fd_0_1, fd_0_2, fd_0_3, fd_0_4, kd_1, fd_1_0, fd_1_1, ln_2, kd_3, fd_3_0, fd_3_1, fd_3_2, fd_3_3, fd_3_4, fd_3_5, fd_3_6, fd_3_7, fd_3_8, fd_3_9, ln_4, ln_5, ln_6, ln_7, ln_8, ln_9, ln_10, kd_11, fd_11_0, fd_11_1, fd_11_2, fd_11_3, fd_11_4, kd_12, fd_12_0, fd_12_1, fd_12_2, fd_12_3, ln_13, ln_14, ln_15, kd_16, fd_16_0, fd_16_1, fd_16_2, ln_17, kd_18, fd_18_0, fd_18_1, kd_19, fd_19_0, fd_19_1, fd_19_2, fd_19_3, fd_19_4, fd_19_5, fd_19_6, fd_19_7, fd_19_8, fd_19_9, fd_19_10, fd_19_11, fd_19_12, fd_19_13, fd_19_14, fd_19_15, fd_19_16, fd_19_17, fd_19_18, fd_19_19, fd_19_20, ln_20, ln_21, ln_22, ln_23, ln_24, ln_25, ln_26, ln_27, ln_28, ln_29, ln_30, ln_31, ln_32, List.getElem?_cons_zero, List.getElem?_cons_succ, List.set_cons_zero, List.set_cons_succ, true_and, and_true, ↓reduceIte, Int32.reduceLT, Int32.reduceLE, li_10, or_true, true_or, f1, l31]
      exact h
    refine am_from (tb_Model_atom (ok_Model_node hG) (by decide) (ok_Model_letter hG) (by decide)) k_Model_atom 400 ?_
    simp only [q_Model_atom_44, r_Model_atom_0, r_Model_atom_1, r_Model_atom_2, r_Model_atom_5, r_Model_atom_6, r_Model_atom_7, r_Model_atom_10, r_Model_atom_13, r_Model_atom_14, r_Model_atom_15, r_Model_atom_16, r_Model_atom_19, r_Model_atom_20, r_Model_atom_23, r_Model_atom_24, r_Model_atom_26, r_Model_atom_29, r_Model_atom_30, r_Model_atom_33, r_Model_atom_34, r_Model_atom_35, r_Model_atom_36, r_Model_atom_38, r_Model_atom_39, r_Model_atom_42, r_Model_atom_44, r_Model_atom_46, r_Model_atom_47, r_Model_atom_50, r_Model_atom_53, r_Model_atom_54, r_Model_atom_57, r_Model_atom_59, r_Model_atom_60, r_Model_atom_62, r_Model_atom_63, r_Model_atom_64, r_Model_atom_67, r_Model_atom_69, r_Model_atom_71, r_Model_atom_74, r_Model_atom_76, r_Model_atom_78, r_Model_atom_79, r_Model_atom_81, r_Model_atom_82, r_Model_atom_84, r_Model_atom_85, r_Model_atom_87, r_Model_atom_88, r_Model_atom_89, r_Model_atom_92, r_Model_atom_93, r_Model_atom_94, r_Model_atom_96, r_Model_atom_99, r_Model_atom_100, r_Model_atom_101, r_Model_atom_104, r_Model_atom_106, r_Model_atom_107, r_Model_atom_110, r_Model_atom_113, r_Model_atom_115, r_Model_atom_116, r_Model_atom_119, r_Model_atom_120, r_Model_atom_121, r_Model_atom_124, r_Model_atom_126, r_Model_atom_128, r_Model_atom_131, r_Model_atom_133, r_Model_atom_134, r_Model_atom_135, r_Model_atom_138, r_Model_atom_140, r_Model_atom_142, r_Model_atom_143, r_Model_atom_144, r_Model_atom_145, r_Model_atom_148, r_Model_atom_150, r_Model_atom_151, r_Model_atom_154, r_Model_atom_157, r_Model_atom_160, r_Model_atom_161, r_Model_atom_162, r_Model_atom_165, r_Model_atom_166, r_Model_atom_169, r_Model_atom_170, r_Model_atom_171, r_Model_atom_174, r_Model_atom_176, r_Model_atom_177, r_Model_atom_180, r_Model_atom_182, r_Model_atom_183, r_Model_atom_184, ai_aload, ai_iload, ai_callv2, am_push, am_few, ai_istore, am_cut_0, am_cut_s, am_c1, ai_getf, ai_iflt, ai_iret, ai_iald, ai_const, ai_cmpne, ai_goto, ai_cmpge, ai_cmpeq, ai_imul, ai_bin, ai_iadd, ai_isub, ai_callv3, ai_cmple, ai_iinc, ai_ifeq, ai_ineg, ai_iast, kd_0, fd_0_0, fd_0_1, fd_0_2, fd_0_3, fd_0_4, kd_1, fd_1_0, fd_1_1, ln_2, kd_3, fd_3_0, fd_3_1, fd_3_2, fd_3_3, fd_3_4, fd_3_5, fd_3_6, fd_3_7, fd_3_8, fd_3_9, ln_4, ln_5, ln_6, ln_7, ln_8, ln_9, ln_10, kd_11, fd_11_0, fd_11_1, fd_11_2, fd_11_3, fd_11_4, kd_12, fd_12_0, fd_12_1, fd_12_2, fd_12_3, ln_13, ln_14, ln_15, kd_16, fd_16_0, fd_16_1, fd_16_2, ln_17, kd_18, fd_18_0, fd_18_1, kd_19, fd_19_0, fd_19_1, fd_19_2, fd_19_3, fd_19_4, fd_19_5, fd_19_6, fd_19_7, fd_19_8, fd_19_9, fd_19_10, fd_19_11, fd_19_12, fd_19_13, fd_19_14, fd_19_15, fd_19_16, fd_19_17, fd_19_18, fd_19_19, fd_19_20, ln_20, ln_21, ln_22, ln_23, ln_24, ln_25, ln_26, ln_27, ln_28, ln_29, ln_30, ln_31, ln_32, List.getElem?_cons_zero, List.getElem?_cons_succ, List.set_cons_zero, List.set_cons_succ, true_and, and_true, ↓reduceIte, Int32.reduceLT, Int32.reduceLE, li_10, or_true, true_or, e1, vk, ck, l31, li_32, e2, e3, nI_1]
    exact z _
  induction c with
  | zero =>
    intro i v M o6 hM he hpl hi hi4 hv hvc hst h
    by_cases c1 : bt t N i = 34
    · rw [stE, if_pos c1] at hst
      rw [mA3, if_pos c1] at h
      have := (nI_eq (a := i + 1) (b := e) (by omega) (by omega)).mp hst
      exact Hend i v 0 M o6 hM he hpl hi hi4 this.symm h
    · exfalso
      rw [stE, if_neg c1] at hst
      (repeat' split at hst) <;> exact hne hst
  | succ c ih =>
    intro i v M o6 hM he hpl hi hi4 hv hvc hst h
    by_cases c1 : bt t N i = 34
    · rw [stE, if_pos c1] at hst
      rw [mA3, if_pos c1] at h
      have := (nI_eq (a := i + 1) (b := e) (by omega) (by omega)).mp hst
      exact Hend i v 0 M o6 hM he hpl hi hi4 this.symm h
    rw [stE, if_neg c1] at hst
    rw [mA3, if_neg c1] at h
    have hil : i < N := by
      apply bt_lt (t := t)
      intro q
      rw [q] at hst
      rw [if_neg (by decide), if_pos (by decide)] at hst
      exact hne hst
    have hti : bt t N i = t i := by unfold bt; rw [if_pos hil]
    have e1 : nI i < M 19 2 → vp_in (nI i) 400 := fun _ => vp_in_nI (by omega) (by decide)
    have vk : vp_in (nI i) 400 := vp_in_nI (by omega) (by decide)
    have ck : (nI i).toNatClampNeg = i := nI_clamp (by omega)
    have e2 : M 19 3 < nI i := by rw [hpl]; exact nI_lt hi (by omega)
    have q1 : cl (nI x) < 200 := by rw [cx]; exact hx
    have q2 : M 22 (cl (nI x)) = nI (cl (M 22 (cl (nI x)))) := by rw [cx, hv, show cl (nI v) = v from nI_clamp (by omega)]
    have q3 : cl (M 22 (cl (nI x))) < 20 := by rw [cx, hv, show cl (nI v) = v from nI_clamp (by omega)]; omega
    have qv : ∀ z, m_let M x z 22 x = nI (v + 1) := fun z => by rw [m_let_22, hv, show cl (nI v) = v from nI_clamp (by omega)]
    by_cases c2 : bt t N i = 92
    · rw [if_pos c2] at hst h
      have hst2 : stE t N (c + 1) (i + 2) = nI e ∧ i + 1 < N := by
        by_cases c3 : bt t N (i + 1) = 34
        · rw [if_pos c3] at hst
          exact ⟨hst, bt_lt (t := t) (by rw [c3]; decide)⟩
        rw [if_neg c3] at hst
        by_cases c4 : bt t N (i + 1) = 92
        · rw [if_pos c4] at hst
          exact ⟨hst, bt_lt (t := t) (by rw [c4]; decide)⟩
        · rw [if_neg c4] at hst
          exact absurd hst hne
      have hgt := stE_gt (by omega) (c + 1) (i + 2) hN (by omega) (by omega) hst2.1
      have f1 : nI i < M 19 2 := by rw [he]; exact nI_lt (by omega) (by omega)
      have f3 : nI i < M 19 2 - 1 := by
        rw [he, show nI e - 1 = nI (e - 1) from pk_sub (b := 1) (by omega)]
        exact nI_lt (by omega) (by omega)
      have c2t : (M 20 i = 92) = True := eq_true (by rw [hM, ← hti]; exact c2)
      have vk1 : vp_in (nI (i + 1)) 400 := vp_in_nI (by omega) (by decide)
      have ck1 : (nI (i + 1)).toNatClampNeg = i + 1 := nI_clamp (by omega)
      refine am_from (tb_Model_atom (ok_Model_node hG) (by decide) (ok_Model_letter hG) (by decide)) k_Model_atom 400 ?_
      simp only [q_Model_atom_44, r_Model_atom_0, r_Model_atom_1, r_Model_atom_2, r_Model_atom_5, r_Model_atom_6, r_Model_atom_7, r_Model_atom_10, r_Model_atom_13, r_Model_atom_14, r_Model_atom_15, r_Model_atom_16, r_Model_atom_19, r_Model_atom_20, r_Model_atom_23, r_Model_atom_24, r_Model_atom_26, r_Model_atom_29, r_Model_atom_30, r_Model_atom_33, r_Model_atom_34, r_Model_atom_35, r_Model_atom_36, r_Model_atom_38, r_Model_atom_39, r_Model_atom_42, r_Model_atom_44, r_Model_atom_46, r_Model_atom_47, r_Model_atom_50, r_Model_atom_53, r_Model_atom_54, r_Model_atom_57, r_Model_atom_59, r_Model_atom_60, r_Model_atom_62, r_Model_atom_63, r_Model_atom_64, r_Model_atom_67, r_Model_atom_69, r_Model_atom_71, r_Model_atom_74, r_Model_atom_76, r_Model_atom_78, r_Model_atom_79, r_Model_atom_81, r_Model_atom_82, r_Model_atom_84, r_Model_atom_85, r_Model_atom_87, r_Model_atom_88, r_Model_atom_89, r_Model_atom_92, r_Model_atom_93, r_Model_atom_94, r_Model_atom_96, r_Model_atom_99, r_Model_atom_100, r_Model_atom_101, r_Model_atom_104, r_Model_atom_106, r_Model_atom_107, r_Model_atom_110, r_Model_atom_113, r_Model_atom_115, r_Model_atom_116, r_Model_atom_119, r_Model_atom_120, r_Model_atom_121, r_Model_atom_124, r_Model_atom_126, r_Model_atom_128, r_Model_atom_131, r_Model_atom_133, r_Model_atom_134, r_Model_atom_135, r_Model_atom_138, r_Model_atom_140, r_Model_atom_142, r_Model_atom_143, r_Model_atom_144, r_Model_atom_145, r_Model_atom_148, r_Model_atom_150, r_Model_atom_151, r_Model_atom_154, r_Model_atom_157, r_Model_atom_160, r_Model_atom_161, r_Model_atom_162, r_Model_atom_165, r_Model_atom_166, r_Model_atom_169, r_Model_atom_170, r_Model_atom_171, r_Model_atom_174, r_Model_atom_176, r_Model_atom_177, r_Model_atom_180, r_Model_atom_182, r_Model_atom_183, r_Model_atom_184, ai_aload, ai_iload, ai_callv2, am_push, am_few, ai_istore, am_cut_0, am_cut_s, am_c1, ai_getf, ai_iflt, ai_iret, ai_iald, ai_const, ai_cmpne, ai_goto, ai_cmpge, ai_cmpeq, ai_imul, ai_bin, ai_iadd, ai_isub, ai_callv3, ai_cmple, ai_iinc, ai_ifeq, ai_ineg, ai_iast, kd_0, fd_0_0, fd_0_1, fd_0_2, fd_0_3, fd_0_4, kd_1, fd_1_0, fd_1_1, ln_2, kd_3, fd_3_0, fd_3_1, fd_3_2, fd_3_3, fd_3_4, fd_3_5, fd_3_6, fd_3_7, fd_3_8, fd_3_9, ln_4, ln_5, ln_6, ln_7, ln_8, ln_9, ln_10, kd_11, fd_11_0, fd_11_1, fd_11_2, fd_11_3, fd_11_4, kd_12, fd_12_0, fd_12_1, fd_12_2, fd_12_3, ln_13, ln_14, ln_15, kd_16, fd_16_0, fd_16_1, fd_16_2, ln_17, kd_18, fd_18_0, fd_18_1, kd_19, fd_19_0, fd_19_1, fd_19_2, fd_19_3, fd_19_4, fd_19_5, fd_19_6, fd_19_7, fd_19_8, fd_19_9, fd_19_10, fd_19_11, fd_19_12, fd_19_13, fd_19_14, fd_19_15, fd_19_16, fd_19_17, fd_19_18, fd_19_19, fd_19_20, ln_20, ln_21, ln_22, ln_23, ln_24, ln_25, ln_26, ln_27, ln_28, ln_29, ln_30, ln_31, ln_32, List.getElem?_cons_zero, List.getElem?_cons_succ, List.set_cons_zero, List.set_cons_succ, true_and, and_true, ↓reduceIte, Int32.reduceLT, Int32.reduceLE, li_10, or_true, true_or, ↓sp_Model_letter, f1, vk, ck, l31, li_32, e2, f3, c2t, vk1, ck1, nI_1, ← ex, q1, ← q2, q3]
      rw [cx, hM]
      exact ih (i + 2) (v + 1) _ _ (by rw [m_let_20, hM]) (by rw [m_let_19, he]) (by rw [m_let_19, hpl]) (by omega) (by omega) (qv _) (by omega) hst2.1 h
    · rw [if_neg c2] at hst h
      have hst2 : stE t N (c + 1) (i + 1) = nI e := by
        by_cases c5 : bt t N i < 32
        · rw [if_pos c5] at hst; exact absurd hst hne
        rw [if_neg c5] at hst
        by_cases c6 : 126 < bt t N i
        · rw [if_pos c6] at hst; exact absurd hst hne
        rw [if_neg c6] at hst
        exact hst
      have hgt := stE_gt (by omega) (c + 1) (i + 1) hN (by omega) (by omega) hst2
      have f1 : nI i < M 19 2 := by rw [he]; exact nI_lt (by omega) (by omega)
      have f3 : nI i < M 19 2 - 1 := by
        rw [he, show nI e - 1 = nI (e - 1) from pk_sub (b := 1) (by omega)]
        exact nI_lt (by omega) (by omega)
      have c2t : ¬ M 20 i = 92 := by rw [hM, ← hti]; exact c2
      refine am_from (tb_Model_atom (ok_Model_node hG) (by decide) (ok_Model_letter hG) (by decide)) k_Model_atom 400 ?_
      simp only [q_Model_atom_44, r_Model_atom_0, r_Model_atom_1, r_Model_atom_2, r_Model_atom_5, r_Model_atom_6, r_Model_atom_7, r_Model_atom_10, r_Model_atom_13, r_Model_atom_14, r_Model_atom_15, r_Model_atom_16, r_Model_atom_19, r_Model_atom_20, r_Model_atom_23, r_Model_atom_24, r_Model_atom_26, r_Model_atom_29, r_Model_atom_30, r_Model_atom_33, r_Model_atom_34, r_Model_atom_35, r_Model_atom_36, r_Model_atom_38, r_Model_atom_39, r_Model_atom_42, r_Model_atom_44, r_Model_atom_46, r_Model_atom_47, r_Model_atom_50, r_Model_atom_53, r_Model_atom_54, r_Model_atom_57, r_Model_atom_59, r_Model_atom_60, r_Model_atom_62, r_Model_atom_63, r_Model_atom_64, r_Model_atom_67, r_Model_atom_69, r_Model_atom_71, r_Model_atom_74, r_Model_atom_76, r_Model_atom_78, r_Model_atom_79, r_Model_atom_81, r_Model_atom_82, r_Model_atom_84, r_Model_atom_85, r_Model_atom_87, r_Model_atom_88, r_Model_atom_89, r_Model_atom_92, r_Model_atom_93, r_Model_atom_94, r_Model_atom_96, r_Model_atom_99, r_Model_atom_100, r_Model_atom_101, r_Model_atom_104, r_Model_atom_106, r_Model_atom_107, r_Model_atom_110, r_Model_atom_113, r_Model_atom_115, r_Model_atom_116, r_Model_atom_119, r_Model_atom_120, r_Model_atom_121, r_Model_atom_124, r_Model_atom_126, r_Model_atom_128, r_Model_atom_131, r_Model_atom_133, r_Model_atom_134, r_Model_atom_135, r_Model_atom_138, r_Model_atom_140, r_Model_atom_142, r_Model_atom_143, r_Model_atom_144, r_Model_atom_145, r_Model_atom_148, r_Model_atom_150, r_Model_atom_151, r_Model_atom_154, r_Model_atom_157, r_Model_atom_160, r_Model_atom_161, r_Model_atom_162, r_Model_atom_165, r_Model_atom_166, r_Model_atom_169, r_Model_atom_170, r_Model_atom_171, r_Model_atom_174, r_Model_atom_176, r_Model_atom_177, r_Model_atom_180, r_Model_atom_182, r_Model_atom_183, r_Model_atom_184, ai_aload, ai_iload, ai_callv2, am_push, am_few, ai_istore, am_cut_0, am_cut_s, am_c1, ai_getf, ai_iflt, ai_iret, ai_iald, ai_const, ai_cmpne, ai_goto, ai_cmpge, ai_cmpeq, ai_imul, ai_bin, ai_iadd, ai_isub, ai_callv3, ai_cmple, ai_iinc, ai_ifeq, ai_ineg, ai_iast, kd_0, fd_0_0, fd_0_1, fd_0_2, fd_0_3, fd_0_4, kd_1, fd_1_0, fd_1_1, ln_2, kd_3, fd_3_0, fd_3_1, fd_3_2, fd_3_3, fd_3_4, fd_3_5, fd_3_6, fd_3_7, fd_3_8, fd_3_9, ln_4, ln_5, ln_6, ln_7, ln_8, ln_9, ln_10, kd_11, fd_11_0, fd_11_1, fd_11_2, fd_11_3, fd_11_4, kd_12, fd_12_0, fd_12_1, fd_12_2, fd_12_3, ln_13, ln_14, ln_15, kd_16, fd_16_0, fd_16_1, fd_16_2, ln_17, kd_18, fd_18_0, fd_18_1, kd_19, fd_19_0, fd_19_1, fd_19_2, fd_19_3, fd_19_4, fd_19_5, fd_19_6, fd_19_7, fd_19_8, fd_19_9, fd_19_10, fd_19_11, fd_19_12, fd_19_13, fd_19_14, fd_19_15, fd_19_16, fd_19_17, fd_19_18, fd_19_19, fd_19_20, ln_20, ln_21, ln_22, ln_23, ln_24, ln_25, ln_26, ln_27, ln_28, ln_29, ln_30, ln_31, ln_32, List.getElem?_cons_zero, List.getElem?_cons_succ, List.set_cons_zero, List.set_cons_succ, true_and, and_true, ↓reduceIte, Int32.reduceLT, Int32.reduceLE, li_10, or_true, true_or, ↓sp_Model_letter, f1, vk, ck, l31, li_32, e2, f3, c2t, nI_1, ← ex, q1, ← q2, q3]
      rw [cx, hM]
      exact ih (i + 1) (v + 1) _ _ (by rw [m_let_20, hM]) (by rw [m_let_19, he]) (by rw [m_let_19, hpl]) (by omega) (by omega) (qv _) (by omega) hst2 h
end
section
/-! THE REFERENCE: what is open -/
theorem failM_4 {M : aM} {w : Int32} (h : M 19 4 < 0) : failM M w 19 4 = w := by
  unfold failM
  simp only [am_up_ap, ↓reduceIte]
  rw [if_neg (Int32.not_le.mpr h)]
set_option maxRecDepth 100000 in
set_option maxHeartbeats 4000000 in
theorem ok_Model_atom {G : aG} (hG : am_ok G) : am_Sp G Y_Model_atom 2 sp_Model_atom := by
  intro as M K h
  unfold sp_Model_atom at h
  split at h
  · next a k =>
    obtain ⟨rfl, ⟨hc, ht, hpl, hf, hk⟩, h⟩ := h
    obtain ⟨p1, p2, p3, p4⟩ := hpl
    have h400 := ht.2
    unfold m_atom at h
    by_cases c : mN M = 200
    · rw [if_pos c] at h
      have hnd : m_nd M k = (0, failM M (M 19 3)) := by unfold m_nd; rw [if_pos c]
      have z : ¬ failM M (M 19 3) 19 4 < 0 := by
        rw [failM_4 hf, p1]
        exact nI_pos (by omega)
      refine am_entry hG (by decide +kernel) (Nat.le_of_ble_eq_true rfl) ?_
      refine am_go (cuts := k_Model_atom) (tb_Model_atom (ok_Model_node hG) (by decide) (ok_Model_letter hG) (by decide)) 400 _ _ _ _ ?_
      change am_run _ _ _ _ _ _ [some (.ref 19), some (.int k), none, none, none, none, none] [] _
      simp only [q_Model_atom_44, r_Model_atom_0, r_Model_atom_1, r_Model_atom_2, r_Model_atom_5, r_Model_atom_6, r_Model_atom_7, r_Model_atom_10, r_Model_atom_13, r_Model_atom_14, r_Model_atom_15, r_Model_atom_16, r_Model_atom_19, r_Model_atom_20, r_Model_atom_23, r_Model_atom_24, r_Model_atom_26, r_Model_atom_29, r_Model_atom_30, r_Model_atom_33, r_Model_atom_34, r_Model_atom_35, r_Model_atom_36, r_Model_atom_38, r_Model_atom_39, r_Model_atom_42, r_Model_atom_44, r_Model_atom_46, r_Model_atom_47, r_Model_atom_50, r_Model_atom_53, r_Model_atom_54, r_Model_atom_57, r_Model_atom_59, r_Model_atom_60, r_Model_atom_62, r_Model_atom_63, r_Model_atom_64, r_Model_atom_67, r_Model_atom_69, r_Model_atom_71, r_Model_atom_74, r_Model_atom_76, r_Model_atom_78, r_Model_atom_79, r_Model_atom_81, r_Model_atom_82, r_Model_atom_84, r_Model_atom_85, r_Model_atom_87, r_Model_atom_88, r_Model_atom_89, r_Model_atom_92, r_Model_atom_93, r_Model_atom_94, r_Model_atom_96, r_Model_atom_99, r_Model_atom_100, r_Model_atom_101, r_Model_atom_104, r_Model_atom_106, r_Model_atom_107, r_Model_atom_110, r_Model_atom_113, r_Model_atom_115, r_Model_atom_116, r_Model_atom_119, r_Model_atom_120, r_Model_atom_121, r_Model_atom_124, r_Model_atom_126, r_Model_atom_128, r_Model_atom_131, r_Model_atom_133, r_Model_atom_134, r_Model_atom_135, r_Model_atom_138, r_Model_atom_140, r_Model_atom_142, r_Model_atom_143, r_Model_atom_144, r_Model_atom_145, r_Model_atom_148, r_Model_atom_150, r_Model_atom_151, r_Model_atom_154, r_Model_atom_157, r_Model_atom_160, r_Model_atom_161, r_Model_atom_162, r_Model_atom_165, r_Model_atom_166, r_Model_atom_169, r_Model_atom_170, r_Model_atom_171, r_Model_atom_174, r_Model_atom_176, r_Model_atom_177, r_Model_atom_180, r_Model_atom_182, r_Model_atom_183, r_Model_atom_184, ai_aload, ai_iload, ai_callv2, am_push, am_few, ai_istore, am_cut_0, am_cut_s, am_c1, ai_getf, ai_iflt, ai_iret, ai_iald, ai_const, ai_cmpne, ai_goto, ai_cmpge, ai_cmpeq, ai_imul, ai_bin, ai_iadd, ai_isub, ai_callv3, ai_cmple, ai_iinc, ai_ifeq, ai_ineg, ai_iast, kd_0, fd_0_0, fd_0_1, fd_0_2, fd_0_3, fd_0_4, kd_1, fd_1_0, fd_1_1, ln_2, kd_3, fd_3_0, fd_3_1, fd_3_2, fd_3_3, fd_3_4, fd_3_5, fd_3_6, fd_3_7, fd_3_8, fd_3_9, ln_4, ln_5, ln_6, ln_7, ln_8, ln_9, ln_10, kd_11, fd_11_0, fd_11_1, fd_11_2, fd_11_3, fd_11_4, kd_12, fd_12_0, fd_12_1, fd_12_2, fd_12_3, ln_13, ln_14, ln_15, kd_16, fd_16_0, fd_16_1, fd_16_2, ln_17, kd_18, fd_18_0, fd_18_1, kd_19, fd_19_0, fd_19_1, fd_19_2, fd_19_3, fd_19_4, fd_19_5, fd_19_6, fd_19_7, fd_19_8, fd_19_9, fd_19_10, fd_19_11, fd_19_12, fd_19_13, fd_19_14, fd_19_15, fd_19_16, fd_19_17, fd_19_18, fd_19_19, fd_19_20, ln_20, ln_21, ln_22, ln_23, ln_24, ln_25, ln_26, ln_27, ln_28, ln_29, ln_30, ln_31, ln_32, List.getElem?_cons_zero, List.getElem?_cons_succ, List.set_cons_zero, List.set_cons_succ, true_and, and_true, ↓reduceIte, Int32.reduceLT, Int32.reduceLE, li_10, or_true, true_or, ↓sp_Model_node, hc, hnd, z]
      exact h
    rw [if_neg c] at h
    have hx : mN M < 200 := by have := hc.2; omega
    have hnd : m_nd M k = (nI (mN M), m_new M k) := by unfold m_nd; rw [if_neg c]
    have n4 : m_new M k 19 4 < 0 := hf
    have n3 : m_new M k 19 3 = nI (m_pl M) := p1
    have n2 : m_new M k 19 2 = nI (m_e M) := p2
    have n20 : m_new M k 20 = M 20 := rfl
    have n22 : m_new M k 22 (mN M) = nI 0 := by
      unfold m_new
      simp only [am_up_ap, ↓reduceIte, Nat.reduceEqDiff]
      rfl
    have vp : vp_in (nI (m_pl M)) 400 := vp_in_nI (by omega) (by decide)
    have cp : (nI (m_pl M)).toNatClampNeg = m_pl M := nI_clamp (by omega)
    have hmi : ∀ mi : Int32, (mi = if M 20 (m_pl M) = 45 then 1 else 0) → am_X G Y_Model_atom 2 K 44 [some (.ref 19), some (.int k), some (.int (nI (mN M))), some (.int mi), some (.int 0), some (.int (nI (m_pl M))), none] [] (m_new M k) := by
      intro mi hmi
      unfold m_atmM at h
      rcases hk with hk | ⟨hk, hk2⟩ | ⟨hk, hk2⟩
      · subst hk
        rw [if_pos rfl] at h
        unfold m_val at h
        have e : mi = b2 (decide (M 20 (m_pl M) = 45)) := by
          rw [hmi]
          by_cases q : M 20 (m_pl M) = 45
          · rw [if_pos q, decide_eq_true q]; rfl
          · rw [if_neg q, decide_eq_false q]; rfl
        rw [e]
        refine lp_Model_atom1 hG (x := mN M) (e := m_e M) (o6 := none) hx n2 (by omega) (m_e M - m_pl M) (m_pl M) 0 none (by omega) ?_
        rw [n20]
        simp only [decide_eq_true_eq]
        exact h
      · subst hk
        rw [if_neg (by decide), if_pos rfl] at h
        exact lp_Model_atom2 hG (x := mN M) (e := m_e M) hx (by omega) (m_e M - m_pl M) (m_pl M) 0 _ none n20 n2 (by omega) n22 (by omega) h
      · subst hk
        rw [if_neg (by decide), if_neg (by decide)] at h
        have z1 : am_X G Y_Model_atom 2 K 44 [some (.ref 19), some (.int 3), some (.int (nI (mN M))), some (.int mi), some (.int 0), some (.int (nI (m_pl M + 1))), some (.int (M 20 (m_pl M)))] [] (m_new M 3) :=
          lp_Model_atom3 hG (t := M 20) (x := mN M) (e := m_e M) (N := m_tl M) (pl := m_pl M) hx h400 p4 20 (m_pl M + 1) 0 _ _ n20 n2 n3 (by omega) (by omega) n22 rfl hk2 h
        have e1 : nI (m_pl M) < m_new M 3 19 2 := by rw [n2]; exact nI_lt p3 (by omega)
        have e2 : ¬ m_new M 3 19 3 < nI (m_pl M) := by rw [n3]; exact nI_nlt (by omega) (by omega)
        have l31 : ((3 : Int32) = 1) = False := eq_false (by decide)
        refine am_from (tb_Model_atom (ok_Model_node hG) (by decide) (ok_Model_letter hG) (by decide)) k_Model_atom 400 ?_
        simp only [q_Model_atom_44, r_Model_atom_0, r_Model_atom_1, r_Model_atom_2, r_Model_atom_5, r_Model_atom_6, r_Model_atom_7, r_Model_atom_10, r_Model_atom_13, r_Model_atom_14, r_Model_atom_15, r_Model_atom_16, r_Model_atom_19, r_Model_atom_20, r_Model_atom_23, r_Model_atom_24, r_Model_atom_26, r_Model_atom_29, r_Model_atom_30, r_Model_atom_33, r_Model_atom_34, r_Model_atom_35, r_Model_atom_36, r_Model_atom_38, r_Model_atom_39, r_Model_atom_42, r_Model_atom_44, r_Model_atom_46, r_Model_atom_47, r_Model_atom_50, r_Model_atom_53, r_Model_atom_54, r_Model_atom_57, r_Model_atom_59, r_Model_atom_60, r_Model_atom_62, r_Model_atom_63, r_Model_atom_64, r_Model_atom_67, r_Model_atom_69, r_Model_atom_71, r_Model_atom_74, r_Model_atom_76, r_Model_atom_78, r_Model_atom_79, r_Model_atom_81, r_Model_atom_82, r_Model_atom_84, r_Model_atom_85, r_Model_atom_87, r_Model_atom_88, r_Model_atom_89, r_Model_atom_92, r_Model_atom_93, r_Model_atom_94, r_Model_atom_96, r_Model_atom_99, r_Model_atom_100, r_Model_atom_101, r_Model_atom_104, r_Model_atom_106, r_Model_atom_107, r_Model_atom_110, r_Model_atom_113, r_Model_atom_115, r_Model_atom_116, r_Model_atom_119, r_Model_atom_120, r_Model_atom_121, r_Model_atom_124, r_Model_atom_126, r_Model_atom_128, r_Model_atom_131, r_Model_atom_133, r_Model_atom_134, r_Model_atom_135, r_Model_atom_138, r_Model_atom_140, r_Model_atom_142, r_Model_atom_143, r_Model_atom_144, r_Model_atom_145, r_Model_atom_148, r_Model_atom_150, r_Model_atom_151, r_Model_atom_154, r_Model_atom_157, r_Model_atom_160, r_Model_atom_161, r_Model_atom_162, r_Model_atom_165, r_Model_atom_166, r_Model_atom_169, r_Model_atom_170, r_Model_atom_171, r_Model_atom_174, r_Model_atom_176, r_Model_atom_177, r_Model_atom_180, r_Model_atom_182, r_Model_atom_183, r_Model_atom_184, ai_aload, ai_iload, ai_callv2, am_push, am_few, ai_istore, am_cut_0, am_cut_s, am_c1, ai_getf, ai_iflt, ai_iret, ai_iald, ai_const, ai_cmpne, ai_goto, ai_cmpge, ai_cmpeq, ai_imul, ai_bin, ai_iadd, ai_isub, ai_callv3, ai_cmple, ai_iinc, ai_ifeq, ai_ineg, ai_iast, kd_0, fd_0_0, fd_0_1, fd_0_2, fd_0_3, fd_0_4, kd_1, fd_1_0, fd_1_1, ln_2, kd_3, fd_3_0, fd_3_1, fd_3_2, fd_3_3, fd_3_4, fd_3_5, fd_3_6, fd_3_7, fd_3_8, fd_3_9, ln_4, ln_5, ln_6, ln_7, ln_8, ln_9, ln_10, kd_11, fd_11_0, fd_11_1, fd_11_2, fd_11_3, fd_11_4, kd_12, fd_12_0, fd_12_1, fd_12_2, fd_12_3, ln_13, ln_14, ln_15, kd_16, fd_16_0, fd_16_1, fd_16_2, ln_17, kd_18, fd_18_0, fd_18_1, kd_19, fd_19_0, fd_19_1, fd_19_2, fd_19_3, fd_19_4, fd_19_5, fd_19_6, fd_19_7, fd_19_8, fd_19_9, fd_19_10, fd_19_11, fd_19_12, fd_19_13, fd_19_14, fd_19_15, fd_19_16, fd_19_17, fd_19_18, fd_19_19, fd_19_20, ln_20, ln_21, ln_22, ln_23, ln_24, ln_25, ln_26, ln_27, ln_28, ln_29, ln_30, ln_31, ln_32, List.getElem?_cons_zero, List.getElem?_cons_succ, List.set_cons_zero, List.set_cons_succ, true_and, and_true, ↓reduceIte, Int32.reduceLT, Int32.reduceLE, li_10, or_true, true_or, e1, vp, cp, l31, li_32, e2, nI_1, n20]
        exact z1
    by_cases q : M 20 (m_pl M) = 45
    · have q' : (M 20 (m_pl M) = 45) = True := eq_true q
      refine am_entry hG (by decide +kernel) (Nat.le_of_ble_eq_true rfl) ?_
      refine am_go (cuts := k_Model_atom) (tb_Model_atom (ok_Model_node hG) (by decide) (ok_Model_letter hG) (by decide)) 400 _ _ _ _ ?_
      change am_run _ _ _ _ _ _ [some (.ref 19), some (.int k), none, none, none, none, none] [] _
      simp only [q_Model_atom_44, r_Model_atom_0, r_Model_atom_1, r_Model_atom_2, r_Model_atom_5, r_Model_atom_6, r_Model_atom_7, r_Model_atom_10, r_Model_atom_13, r_Model_atom_14, r_Model_atom_15, r_Model_atom_16, r_Model_atom_19, r_Model_atom_20, r_Model_atom_23, r_Model_atom_24, r_Model_atom_26, r_Model_atom_29, r_Model_atom_30, r_Model_atom_33, r_Model_atom_34, r_Model_atom_35, r_Model_atom_36, r_Model_atom_38, r_Model_atom_39, r_Model_atom_42, r_Model_atom_44, r_Model_atom_46, r_Model_atom_47, r_Model_atom_50, r_Model_atom_53, r_Model_atom_54, r_Model_atom_57, r_Model_atom_59, r_Model_atom_60, r_Model_atom_62, r_Model_atom_63, r_Model_atom_64, r_Model_atom_67, r_Model_atom_69, r_Model_atom_71, r_Model_atom_74, r_Model_atom_76, r_Model_atom_78, r_Model_atom_79, r_Model_atom_81, r_Model_atom_82, r_Model_atom_84, r_Model_atom_85, r_Model_atom_87, r_Model_atom_88, r_Model_atom_89, r_Model_atom_92, r_Model_atom_93, r_Model_atom_94, r_Model_atom_96, r_Model_atom_99, r_Model_atom_100, r_Model_atom_101, r_Model_atom_104, r_Model_atom_106, r_Model_atom_107, r_Model_atom_110, r_Model_atom_113, r_Model_atom_115, r_Model_atom_116, r_Model_atom_119, r_Model_atom_120, r_Model_atom_121, r_Model_atom_124, r_Model_atom_126, r_Model_atom_128, r_Model_atom_131, r_Model_atom_133, r_Model_atom_134, r_Model_atom_135, r_Model_atom_138, r_Model_atom_140, r_Model_atom_142, r_Model_atom_143, r_Model_atom_144, r_Model_atom_145, r_Model_atom_148, r_Model_atom_150, r_Model_atom_151, r_Model_atom_154, r_Model_atom_157, r_Model_atom_160, r_Model_atom_161, r_Model_atom_162, r_Model_atom_165, r_Model_atom_166, r_Model_atom_169, r_Model_atom_170, r_Model_atom_171, r_Model_atom_174, r_Model_atom_176, r_Model_atom_177, r_Model_atom_180, r_Model_atom_182, r_Model_atom_183, r_Model_atom_184, ai_aload, ai_iload, ai_callv2, am_push, am_few, ai_istore, am_cut_0, am_cut_s, am_c1, ai_getf, ai_iflt, ai_iret, ai_iald, ai_const, ai_cmpne, ai_goto, ai_cmpge, ai_cmpeq, ai_imul, ai_bin, ai_iadd, ai_isub, ai_callv3, ai_cmple, ai_iinc, ai_ifeq, ai_ineg, ai_iast, kd_0, fd_0_0, fd_0_1, fd_0_2, fd_0_3, fd_0_4, kd_1, fd_1_0, fd_1_1, ln_2, kd_3, fd_3_0, fd_3_1, fd_3_2, fd_3_3, fd_3_4, fd_3_5, fd_3_6, fd_3_7, fd_3_8, fd_3_9, ln_4, ln_5, ln_6, ln_7, ln_8, ln_9, ln_10, kd_11, fd_11_0, fd_11_1, fd_11_2, fd_11_3, fd_11_4, kd_12, fd_12_0, fd_12_1, fd_12_2, fd_12_3, ln_13, ln_14, ln_15, kd_16, fd_16_0, fd_16_1, fd_16_2, ln_17, kd_18, fd_18_0, fd_18_1, kd_19, fd_19_0, fd_19_1, fd_19_2, fd_19_3, fd_19_4, fd_19_5, fd_19_6, fd_19_7, fd_19_8, fd_19_9, fd_19_10, fd_19_11, fd_19_12, fd_19_13, fd_19_14, fd_19_15, fd_19_16, fd_19_17, fd_19_18, fd_19_19, fd_19_20, ln_20, ln_21, ln_22, ln_23, ln_24, ln_25, ln_26, ln_27, ln_28, ln_29, ln_30, ln_31, ln_32, List.getElem?_cons_zero, List.getElem?_cons_succ, List.set_cons_zero, List.set_cons_succ, true_and, and_true, ↓reduceIte, Int32.reduceLT, Int32.reduceLE, li_10, or_true, true_or, ↓sp_Model_node, hc, hnd, n4, n3, n20, vp, cp, q']
      exact hmi 1 (by rw [if_pos q])
    · refine am_entry hG (by decide +kernel) (Nat.le_of_ble_eq_true rfl) ?_
      refine am_go (cuts := k_Model_atom) (tb_Model_atom (ok_Model_node hG) (by decide) (ok_Model_letter hG) (by decide)) 400 _ _ _ _ ?_
      change am_run _ _ _ _ _ _ [some (.ref 19), some (.int k), none, none, none, none, none] [] _
      simp only [q_Model_atom_44, r_Model_atom_0, r_Model_atom_1, r_Model_atom_2, r_Model_atom_5, r_Model_atom_6, r_Model_atom_7, r_Model_atom_10, r_Model_atom_13, r_Model_atom_14, r_Model_atom_15, r_Model_atom_16, r_Model_atom_19, r_Model_atom_20, r_Model_atom_23, r_Model_atom_24, r_Model_atom_26, r_Model_atom_29, r_Model_atom_30, r_Model_atom_33, r_Model_atom_34, r_Model_atom_35, r_Model_atom_36, r_Model_atom_38, r_Model_atom_39, r_Model_atom_42, r_Model_atom_44, r_Model_atom_46, r_Model_atom_47, r_Model_atom_50, r_Model_atom_53, r_Model_atom_54, r_Model_atom_57, r_Model_atom_59, r_Model_atom_60, r_Model_atom_62, r_Model_atom_63, r_Model_atom_64, r_Model_atom_67, r_Model_atom_69, r_Model_atom_71, r_Model_atom_74, r_Model_atom_76, r_Model_atom_78, r_Model_atom_79, r_Model_atom_81, r_Model_atom_82, r_Model_atom_84, r_Model_atom_85, r_Model_atom_87, r_Model_atom_88, r_Model_atom_89, r_Model_atom_92, r_Model_atom_93, r_Model_atom_94, r_Model_atom_96, r_Model_atom_99, r_Model_atom_100, r_Model_atom_101, r_Model_atom_104, r_Model_atom_106, r_Model_atom_107, r_Model_atom_110, r_Model_atom_113, r_Model_atom_115, r_Model_atom_116, r_Model_atom_119, r_Model_atom_120, r_Model_atom_121, r_Model_atom_124, r_Model_atom_126, r_Model_atom_128, r_Model_atom_131, r_Model_atom_133, r_Model_atom_134, r_Model_atom_135, r_Model_atom_138, r_Model_atom_140, r_Model_atom_142, r_Model_atom_143, r_Model_atom_144, r_Model_atom_145, r_Model_atom_148, r_Model_atom_150, r_Model_atom_151, r_Model_atom_154, r_Model_atom_157, r_Model_atom_160, r_Model_atom_161, r_Model_atom_162, r_Model_atom_165, r_Model_atom_166, r_Model_atom_169, r_Model_atom_170, r_Model_atom_171, r_Model_atom_174, r_Model_atom_176, r_Model_atom_177, r_Model_atom_180, r_Model_atom_182, r_Model_atom_183, r_Model_atom_184, ai_aload, ai_iload, ai_callv2, am_push, am_few, ai_istore, am_cut_0, am_cut_s, am_c1, ai_getf, ai_iflt, ai_iret, ai_iald, ai_const, ai_cmpne, ai_goto, ai_cmpge, ai_cmpeq, ai_imul, ai_bin, ai_iadd, ai_isub, ai_callv3, ai_cmple, ai_iinc, ai_ifeq, ai_ineg, ai_iast, kd_0, fd_0_0, fd_0_1, fd_0_2, fd_0_3, fd_0_4, kd_1, fd_1_0, fd_1_1, ln_2, kd_3, fd_3_0, fd_3_1, fd_3_2, fd_3_3, fd_3_4, fd_3_5, fd_3_6, fd_3_7, fd_3_8, fd_3_9, ln_4, ln_5, ln_6, ln_7, ln_8, ln_9, ln_10, kd_11, fd_11_0, fd_11_1, fd_11_2, fd_11_3, fd_11_4, kd_12, fd_12_0, fd_12_1, fd_12_2, fd_12_3, ln_13, ln_14, ln_15, kd_16, fd_16_0, fd_16_1, fd_16_2, ln_17, kd_18, fd_18_0, fd_18_1, kd_19, fd_19_0, fd_19_1, fd_19_2, fd_19_3, fd_19_4, fd_19_5, fd_19_6, fd_19_7, fd_19_8, fd_19_9, fd_19_10, fd_19_11, fd_19_12, fd_19_13, fd_19_14, fd_19_15, fd_19_16, fd_19_17, fd_19_18, fd_19_19, fd_19_20, ln_20, ln_21, ln_22, ln_23, ln_24, ln_25, ln_26, ln_27, ln_28, ln_29, ln_30, ln_31, ln_32, List.getElem?_cons_zero, List.getElem?_cons_succ, List.set_cons_zero, List.set_cons_succ, true_and, and_true, ↓reduceIte, Int32.reduceLT, Int32.reduceLE, li_10, or_true, true_or, ↓sp_Model_node, hc, hnd, n4, n3, n20, vp, cp, q]
      exact hmi 0 (by rw [if_neg q])
  · cases h
def mO (M : aM) : Nat := cl (M 19 13)
def op_ok (M : aM) : Prop := M 19 13 = nI (mO M) ∧ mO M ≤ 15
def ls_ok (M : aM) : Prop := ∀ o, o < mO M → ¬ M 29 o = 0 → vp_in (M 28 o) 200
def m_begP (M : aM) (o : Nat) (p : Int32 × aM) : aM := if M 29 o = 0 then am_up (am_up (am_up p.2 27 o p.1) 28 o p.1) 29 o 1 else am_up (am_up (am_up p.2 25 (cl (M 28 o)) p.1) 28 o p.1) 29 o 1
def m_beg (M : aM) : aM := if mO M = 0 then M else if M 29 (mO M - 1) = 3 then failM M (M 19 3) else if M 29 (mO M - 1) < 2 then m_begP M (mO M - 1) (m_nd M 4) else M
def sp_Model_begin : aS := fun as M K => match as with
  | [.ref a] => a = 19 ∧ (mc_ok M ∧ op_ok M ∧ ls_ok M) ∧ K none (m_beg M)
  | _ => False
theorem m_nd_of (M : aM) (k : Int32) (i : Nat) (h1 : ¬ i = 21) (h2 : ¬ i = 22) (h4 : ¬ i = 24) (h5 : ¬ i = 25) (h9 : ¬ i = 19) : (m_nd M k).2 i = M i := by
  unfold m_nd
  split
  · unfold failM
    funext j
    simp only [am_up_ap, h9, ↓reduceIte]
  · unfold m_new
    funext j
    simp only [am_up_ap, h1, h2, h4, h5, h9, ↓reduceIte]
set_option maxRecDepth 100000 in
set_option maxHeartbeats 4000000 in
theorem ok_Model_begin {G : aG} (hG : am_ok G) : am_Sp G Y_Model_begin 2 sp_Model_begin := by
  intro as M K h
  unfold sp_Model_begin at h
  split at h
  · next a =>
    obtain ⟨rfl, ⟨hc, ho, hl⟩, h⟩ := h
    unfold m_beg at h
    by_cases c0 : mO M = 0
    · rw [if_pos c0] at h
      have e0 : (M 19 13 = 0) = True := eq_true (by rw [ho.1, c0]; rfl)
      refine am_entry hG (by decide +kernel) (Nat.le_of_ble_eq_true rfl) ?_
      refine am_go (cuts := k_Model_begin) (tb_Model_begin (ok_Model_fail hG) (by decide) (ok_Model_node hG) (by decide)) 400 _ _ _ _ ?_
      change am_run _ _ _ _ _ _ [some (.ref 19), none, none] [] _
      simp only [r_Model_begin_0, r_Model_begin_1, r_Model_begin_4, r_Model_begin_7, r_Model_begin_8, r_Model_begin_9, r_Model_begin_12, r_Model_begin_13, r_Model_begin_14, r_Model_begin_15, r_Model_begin_16, r_Model_begin_19, r_Model_begin_20, r_Model_begin_21, r_Model_begin_22, r_Model_begin_25, r_Model_begin_26, r_Model_begin_27, r_Model_begin_30, r_Model_begin_33, r_Model_begin_36, r_Model_begin_37, r_Model_begin_40, r_Model_begin_41, r_Model_begin_42, r_Model_begin_43, r_Model_begin_46, r_Model_begin_47, r_Model_begin_48, r_Model_begin_51, r_Model_begin_52, r_Model_begin_53, r_Model_begin_56, r_Model_begin_57, r_Model_begin_58, r_Model_begin_61, r_Model_begin_62, r_Model_begin_65, r_Model_begin_66, r_Model_begin_67, r_Model_begin_68, r_Model_begin_71, r_Model_begin_72, r_Model_begin_75, r_Model_begin_76, r_Model_begin_79, r_Model_begin_80, r_Model_begin_81, r_Model_begin_82, r_Model_begin_83, r_Model_begin_84, r_Model_begin_87, r_Model_begin_88, r_Model_begin_89, r_Model_begin_90, r_Model_begin_91, r_Model_begin_94, r_Model_begin_95, r_Model_begin_96, r_Model_begin_97, ai_aload, ai_getf, ai_ifne, ai_vret, ai_const, ai_isub, ai_bin, ai_istore, am_cut_0, am_cut_s, am_c1, ai_iload, ai_iald, ai_cmpne, ai_callv2, am_push, am_few, ai_goto, ai_cmpge, ai_iast, kd_0, fd_0_0, fd_0_1, fd_0_2, fd_0_3, fd_0_4, kd_1, fd_1_0, fd_1_1, ln_2, kd_3, fd_3_0, fd_3_1, fd_3_2, fd_3_3, fd_3_4, fd_3_5, fd_3_6, fd_3_7, fd_3_8, fd_3_9, ln_4, ln_5, ln_6, ln_7, ln_8, ln_9, ln_10, kd_11, fd_11_0, fd_11_1, fd_11_2, fd_11_3, fd_11_4, kd_12, fd_12_0, fd_12_1, fd_12_2, fd_12_3, ln_13, ln_14, ln_15, kd_16, fd_16_0, fd_16_1, fd_16_2, ln_17, kd_18, fd_18_0, fd_18_1, kd_19, fd_19_0, fd_19_1, fd_19_2, fd_19_3, fd_19_4, fd_19_5, fd_19_6, fd_19_7, fd_19_8, fd_19_9, fd_19_10, fd_19_11, fd_19_12, fd_19_13, fd_19_14, fd_19_15, fd_19_16, fd_19_17, fd_19_18, fd_19_19, fd_19_20, ln_20, ln_21, ln_22, ln_23, ln_24, ln_25, ln_26, ln_27, ln_28, ln_29, ln_30, ln_31, ln_32, List.getElem?_cons_zero, List.getElem?_cons_succ, List.set_cons_zero, List.set_cons_succ, true_and, and_true, ↓reduceIte, Int32.reduceLT, Int32.reduceLE, li_10, or_true, true_or, ↓sp_Model_node, e0]
      exact h
    rw [if_neg c0] at h
    have h15 := ho.2
    have e0 : ¬ M 19 13 = 0 := by rw [ho.1]; exact nI_ne0 (by omega) (by omega)
    have e1 : M 19 13 - 1 = nI (mO M - 1) := by rw [ho.1]; exact pk_sub (b := 1) (by omega)
    have vo : vp_in (nI (mO M - 1)) 15 := vp_in_nI (by omega) (by decide)
    have co : (nI (mO M - 1)).toNatClampNeg = mO M - 1 := nI_clamp (by omega)
    by_cases c3 : M 29 (mO M - 1) = 3
    · rw [if_pos c3] at h
      have c3' : (M 29 (mO M - 1) = 3) = True := eq_true c3
      refine am_entry hG (by decide +kernel) (Nat.le_of_ble_eq_true rfl) ?_
      refine am_go (cuts := k_Model_begin) (tb_Model_begin (ok_Model_fail hG) (by decide) (ok_Model_node hG) (by decide)) 400 _ _ _ _ ?_
      change am_run _ _ _ _ _ _ [some (.ref 19), none, none] [] _
      simp only [r_Model_begin_0, r_Model_begin_1, r_Model_begin_4, r_Model_begin_7, r_Model_begin_8, r_Model_begin_9, r_Model_begin_12, r_Model_begin_13, r_Model_begin_14, r_Model_begin_15, r_Model_begin_16, r_Model_begin_19, r_Model_begin_20, r_Model_begin_21, r_Model_begin_22, r_Model_begin_25, r_Model_begin_26, r_Model_begin_27, r_Model_begin_30, r_Model_begin_33, r_Model_begin_36, r_Model_begin_37, r_Model_begin_40, r_Model_begin_41, r_Model_begin_42, r_Model_begin_43, r_Model_begin_46, r_Model_begin_47, r_Model_begin_48, r_Model_begin_51, r_Model_begin_52, r_Model_begin_53, r_Model_begin_56, r_Model_begin_57, r_Model_begin_58, r_Model_begin_61, r_Model_begin_62, r_Model_begin_65, r_Model_begin_66, r_Model_begin_67, r_Model_begin_68, r_Model_begin_71, r_Model_begin_72, r_Model_begin_75, r_Model_begin_76, r_Model_begin_79, r_Model_begin_80, r_Model_begin_81, r_Model_begin_82, r_Model_begin_83, r_Model_begin_84, r_Model_begin_87, r_Model_begin_88, r_Model_begin_89, r_Model_begin_90, r_Model_begin_91, r_Model_begin_94, r_Model_begin_95, r_Model_begin_96, r_Model_begin_97, ai_aload, ai_getf, ai_ifne, ai_vret, ai_const, ai_isub, ai_bin, ai_istore, am_cut_0, am_cut_s, am_c1, ai_iload, ai_iald, ai_cmpne, ai_callv2, am_push, am_few, ai_goto, ai_cmpge, ai_iast, kd_0, fd_0_0, fd_0_1, fd_0_2, fd_0_3, fd_0_4, kd_1, fd_1_0, fd_1_1, ln_2, kd_3, fd_3_0, fd_3_1, fd_3_2, fd_3_3, fd_3_4, fd_3_5, fd_3_6, fd_3_7, fd_3_8, fd_3_9, ln_4, ln_5, ln_6, ln_7, ln_8, ln_9, ln_10, kd_11, fd_11_0, fd_11_1, fd_11_2, fd_11_3, fd_11_4, kd_12, fd_12_0, fd_12_1, fd_12_2, fd_12_3, ln_13, ln_14, ln_15, kd_16, fd_16_0, fd_16_1, fd_16_2, ln_17, kd_18, fd_18_0, fd_18_1, kd_19, fd_19_0, fd_19_1, fd_19_2, fd_19_3, fd_19_4, fd_19_5, fd_19_6, fd_19_7, fd_19_8, fd_19_9, fd_19_10, fd_19_11, fd_19_12, fd_19_13, fd_19_14, fd_19_15, fd_19_16, fd_19_17, fd_19_18, fd_19_19, fd_19_20, ln_20, ln_21, ln_22, ln_23, ln_24, ln_25, ln_26, ln_27, ln_28, ln_29, ln_30, ln_31, ln_32, List.getElem?_cons_zero, List.getElem?_cons_succ, List.set_cons_zero, List.set_cons_succ, true_and, and_true, ↓reduceIte, Int32.reduceLT, Int32.reduceLE, li_10, or_true, true_or, ↓sp_Model_fail, e0, e1, vo, co, c3']
      exact h
    rw [if_neg c3] at h
    by_cases c2 : M 29 (mO M - 1) < 2
    · rw [if_pos c2] at h
      have q29 : (m_nd M 4).2 29 = M 29 := m_nd_of M 4 29 (by decide) (by decide) (by decide) (by decide) (by decide)
      have q28 : (m_nd M 4).2 28 = M 28 := m_nd_of M 4 28 (by decide) (by decide) (by decide) (by decide) (by decide)
      unfold m_begP at h
      by_cases c5 : M 29 (mO M - 1) = 0
      · rw [if_pos c5] at h
        have c5' : (M 29 (mO M - 1) = 0) = True := eq_true c5
        refine am_entry hG (by decide +kernel) (Nat.le_of_ble_eq_true rfl) ?_
        refine am_go (cuts := k_Model_begin) (tb_Model_begin (ok_Model_fail hG) (by decide) (ok_Model_node hG) (by decide)) 400 _ _ _ _ ?_
        change am_run _ _ _ _ _ _ [some (.ref 19), none, none] [] _
        simp only [r_Model_begin_0, r_Model_begin_1, r_Model_begin_4, r_Model_begin_7, r_Model_begin_8, r_Model_begin_9, r_Model_begin_12, r_Model_begin_13, r_Model_begin_14, r_Model_begin_15, r_Model_begin_16, r_Model_begin_19, r_Model_begin_20, r_Model_begin_21, r_Model_begin_22, r_Model_begin_25, r_Model_begin_26, r_Model_begin_27, r_Model_begin_30, r_Model_begin_33, r_Model_begin_36, r_Model_begin_37, r_Model_begin_40, r_Model_begin_41, r_Model_begin_42, r_Model_begin_43, r_Model_begin_46, r_Model_begin_47, r_Model_begin_48, r_Model_begin_51, r_Model_begin_52, r_Model_begin_53, r_Model_begin_56, r_Model_begin_57, r_Model_begin_58, r_Model_begin_61, r_Model_begin_62, r_Model_begin_65, r_Model_begin_66, r_Model_begin_67, r_Model_begin_68, r_Model_begin_71, r_Model_begin_72, r_Model_begin_75, r_Model_begin_76, r_Model_begin_79, r_Model_begin_80, r_Model_begin_81, r_Model_begin_82, r_Model_begin_83, r_Model_begin_84, r_Model_begin_87, r_Model_begin_88, r_Model_begin_89, r_Model_begin_90, r_Model_begin_91, r_Model_begin_94, r_Model_begin_95, r_Model_begin_96, r_Model_begin_97, ai_aload, ai_getf, ai_ifne, ai_vret, ai_const, ai_isub, ai_bin, ai_istore, am_cut_0, am_cut_s, am_c1, ai_iload, ai_iald, ai_cmpne, ai_callv2, am_push, am_few, ai_goto, ai_cmpge, ai_iast, kd_0, fd_0_0, fd_0_1, fd_0_2, fd_0_3, fd_0_4, kd_1, fd_1_0, fd_1_1, ln_2, kd_3, fd_3_0, fd_3_1, fd_3_2, fd_3_3, fd_3_4, fd_3_5, fd_3_6, fd_3_7, fd_3_8, fd_3_9, ln_4, ln_5, ln_6, ln_7, ln_8, ln_9, ln_10, kd_11, fd_11_0, fd_11_1, fd_11_2, fd_11_3, fd_11_4, kd_12, fd_12_0, fd_12_1, fd_12_2, fd_12_3, ln_13, ln_14, ln_15, kd_16, fd_16_0, fd_16_1, fd_16_2, ln_17, kd_18, fd_18_0, fd_18_1, kd_19, fd_19_0, fd_19_1, fd_19_2, fd_19_3, fd_19_4, fd_19_5, fd_19_6, fd_19_7, fd_19_8, fd_19_9, fd_19_10, fd_19_11, fd_19_12, fd_19_13, fd_19_14, fd_19_15, fd_19_16, fd_19_17, fd_19_18, fd_19_19, fd_19_20, ln_20, ln_21, ln_22, ln_23, ln_24, ln_25, ln_26, ln_27, ln_28, ln_29, ln_30, ln_31, ln_32, List.getElem?_cons_zero, List.getElem?_cons_succ, List.set_cons_zero, List.set_cons_succ, true_and, and_true, ↓reduceIte, Int32.reduceLT, Int32.reduceLE, li_10, or_true, true_or, ↓sp_Model_node, hc, e0, e1, vo, co, c3, c2, q29, c5', am_up_ap, Nat.reduceEqDiff]
        exact h
      · rw [if_neg c5] at h
        have vl := hl (mO M - 1) (by omega) c5
        refine am_entry hG (by decide +kernel) (Nat.le_of_ble_eq_true rfl) ?_
        refine am_go (cuts := k_Model_begin) (tb_Model_begin (ok_Model_fail hG) (by decide) (ok_Model_node hG) (by decide)) 400 _ _ _ _ ?_
        change am_run _ _ _ _ _ _ [some (.ref 19), none, none] [] _
        simp only [r_Model_begin_0, r_Model_begin_1, r_Model_begin_4, r_Model_begin_7, r_Model_begin_8, r_Model_begin_9, r_Model_begin_12, r_Model_begin_13, r_Model_begin_14, r_Model_begin_15, r_Model_begin_16, r_Model_begin_19, r_Model_begin_20, r_Model_begin_21, r_Model_begin_22, r_Model_begin_25, r_Model_begin_26, r_Model_begin_27, r_Model_begin_30, r_Model_begin_33, r_Model_begin_36, r_Model_begin_37, r_Model_begin_40, r_Model_begin_41, r_Model_begin_42, r_Model_begin_43, r_Model_begin_46, r_Model_begin_47, r_Model_begin_48, r_Model_begin_51, r_Model_begin_52, r_Model_begin_53, r_Model_begin_56, r_Model_begin_57, r_Model_begin_58, r_Model_begin_61, r_Model_begin_62, r_Model_begin_65, r_Model_begin_66, r_Model_begin_67, r_Model_begin_68, r_Model_begin_71, r_Model_begin_72, r_Model_begin_75, r_Model_begin_76, r_Model_begin_79, r_Model_begin_80, r_Model_begin_81, r_Model_begin_82, r_Model_begin_83, r_Model_begin_84, r_Model_begin_87, r_Model_begin_88, r_Model_begin_89, r_Model_begin_90, r_Model_begin_91, r_Model_begin_94, r_Model_begin_95, r_Model_begin_96, r_Model_begin_97, ai_aload, ai_getf, ai_ifne, ai_vret, ai_const, ai_isub, ai_bin, ai_istore, am_cut_0, am_cut_s, am_c1, ai_iload, ai_iald, ai_cmpne, ai_callv2, am_push, am_few, ai_goto, ai_cmpge, ai_iast, kd_0, fd_0_0, fd_0_1, fd_0_2, fd_0_3, fd_0_4, kd_1, fd_1_0, fd_1_1, ln_2, kd_3, fd_3_0, fd_3_1, fd_3_2, fd_3_3, fd_3_4, fd_3_5, fd_3_6, fd_3_7, fd_3_8, fd_3_9, ln_4, ln_5, ln_6, ln_7, ln_8, ln_9, ln_10, kd_11, fd_11_0, fd_11_1, fd_11_2, fd_11_3, fd_11_4, kd_12, fd_12_0, fd_12_1, fd_12_2, fd_12_3, ln_13, ln_14, ln_15, kd_16, fd_16_0, fd_16_1, fd_16_2, ln_17, kd_18, fd_18_0, fd_18_1, kd_19, fd_19_0, fd_19_1, fd_19_2, fd_19_3, fd_19_4, fd_19_5, fd_19_6, fd_19_7, fd_19_8, fd_19_9, fd_19_10, fd_19_11, fd_19_12, fd_19_13, fd_19_14, fd_19_15, fd_19_16, fd_19_17, fd_19_18, fd_19_19, fd_19_20, ln_20, ln_21, ln_22, ln_23, ln_24, ln_25, ln_26, ln_27, ln_28, ln_29, ln_30, ln_31, ln_32, List.getElem?_cons_zero, List.getElem?_cons_succ, List.set_cons_zero, List.set_cons_succ, true_and, and_true, ↓reduceIte, Int32.reduceLT, Int32.reduceLE, li_10, or_true, true_or, ↓sp_Model_node, hc, e0, e1, vo, co, c3, c2, q29, q28, c5, vl, am_up_ap, Nat.reduceEqDiff]
        exact h
    · rw [if_neg c2] at h
      refine am_entry hG (by decide +kernel) (Nat.le_of_ble_eq_true rfl) ?_
      refine am_go (cuts := k_Model_begin) (tb_Model_begin (ok_Model_fail hG) (by decide) (ok_Model_node hG) (by decide)) 400 _ _ _ _ ?_
      change am_run _ _ _ _ _ _ [some (.ref 19), none, none] [] _
      simp only [r_Model_begin_0, r_Model_begin_1, r_Model_begin_4, r_Model_begin_7, r_Model_begin_8, r_Model_begin_9, r_Model_begin_12, r_Model_begin_13, r_Model_begin_14, r_Model_begin_15, r_Model_begin_16, r_Model_begin_19, r_Model_begin_20, r_Model_begin_21, r_Model_begin_22, r_Model_begin_25, r_Model_begin_26, r_Model_begin_27, r_Model_begin_30, r_Model_begin_33, r_Model_begin_36, r_Model_begin_37, r_Model_begin_40, r_Model_begin_41, r_Model_begin_42, r_Model_begin_43, r_Model_begin_46, r_Model_begin_47, r_Model_begin_48, r_Model_begin_51, r_Model_begin_52, r_Model_begin_53, r_Model_begin_56, r_Model_begin_57, r_Model_begin_58, r_Model_begin_61, r_Model_begin_62, r_Model_begin_65, r_Model_begin_66, r_Model_begin_67, r_Model_begin_68, r_Model_begin_71, r_Model_begin_72, r_Model_begin_75, r_Model_begin_76, r_Model_begin_79, r_Model_begin_80, r_Model_begin_81, r_Model_begin_82, r_Model_begin_83, r_Model_begin_84, r_Model_begin_87, r_Model_begin_88, r_Model_begin_89, r_Model_begin_90, r_Model_begin_91, r_Model_begin_94, r_Model_begin_95, r_Model_begin_96, r_Model_begin_97, ai_aload, ai_getf, ai_ifne, ai_vret, ai_const, ai_isub, ai_bin, ai_istore, am_cut_0, am_cut_s, am_c1, ai_iload, ai_iald, ai_cmpne, ai_callv2, am_push, am_few, ai_goto, ai_cmpge, ai_iast, kd_0, fd_0_0, fd_0_1, fd_0_2, fd_0_3, fd_0_4, kd_1, fd_1_0, fd_1_1, ln_2, kd_3, fd_3_0, fd_3_1, fd_3_2, fd_3_3, fd_3_4, fd_3_5, fd_3_6, fd_3_7, fd_3_8, fd_3_9, ln_4, ln_5, ln_6, ln_7, ln_8, ln_9, ln_10, kd_11, fd_11_0, fd_11_1, fd_11_2, fd_11_3, fd_11_4, kd_12, fd_12_0, fd_12_1, fd_12_2, fd_12_3, ln_13, ln_14, ln_15, kd_16, fd_16_0, fd_16_1, fd_16_2, ln_17, kd_18, fd_18_0, fd_18_1, kd_19, fd_19_0, fd_19_1, fd_19_2, fd_19_3, fd_19_4, fd_19_5, fd_19_6, fd_19_7, fd_19_8, fd_19_9, fd_19_10, fd_19_11, fd_19_12, fd_19_13, fd_19_14, fd_19_15, fd_19_16, fd_19_17, fd_19_18, fd_19_19, fd_19_20, ln_20, ln_21, ln_22, ln_23, ln_24, ln_25, ln_26, ln_27, ln_28, ln_29, ln_30, ln_31, ln_32, List.getElem?_cons_zero, List.getElem?_cons_succ, List.set_cons_zero, List.set_cons_succ, true_and, and_true, ↓reduceIte, Int32.reduceLT, Int32.reduceLE, li_10, or_true, true_or, ↓sp_Model_node, e0, e1, vo, co, c3, c2]
      exact h
  · cases h
def m_endQ (M : aM) (n : Int32) : aM := am_up (am_up (m_nd (am_up M 24 (cl (M 28 (mO M - 1))) n) 5).2 25 (cl (M 28 (mO M - 1))) (m_nd (am_up M 24 (cl (M 28 (mO M - 1))) n) 5).1) 19 13 (nI (mO M - 1))
def m_end : Nat → Int32 → aM → aM
  | 0, _, M => M
  | f + 1, n, M => if 0 ≤ M 19 4 then M else if mO M = 0 then am_up (am_up M 26 (mD M) n) 19 11 (nI (mD M + 1)) else if M 29 (mO M - 1) = 4 then m_end f (M 27 (mO M - 1)) (m_endQ M n) else if M 29 (mO M - 1) = 2 then am_up (am_up M 25 (cl (M 28 (mO M - 1))) n) 29 (mO M - 1) 3 else am_up M 24 (cl (M 28 (mO M - 1))) n
def es_ok (M : aM) : Prop := ∀ o, o < mO M → vp_in (M 28 o) 200
def en_ok (M : aM) : Prop := mc_ok M ∧ op_ok M ∧ es_ok M ∧ md_ok M ∧ mD M < 200
def sp_Model_end : aS := fun as M K => match as with
  | [.ref a, .int n] => a = 19 ∧ (0 ≤ M 19 4 ∨ en_ok M) ∧ K none (m_end (mO M + 1) n M)
  | _ => False
theorem mc_nd {M : aM} {k : Int32} (h : mc_ok M) : mc_ok (m_nd M k).2 := by
  unfold m_nd
  have h2 := h.2
  split
  · exact h
  · next c =>
    have e : mN (m_new M k) = mN M + 1 := nI_clamp (by omega)
    refine ⟨?_, by rw [e]; omega⟩
    rw [e]
    rfl
theorem nd_19 (M : aM) (k : Int32) (j : Nat) (h4 : ¬ j = 4) (h5 : ¬ j = 5) : (m_nd M k).2 19 j = M 19 j := by
  unfold m_nd
  split
  · unfold failM
    simp only [am_up_ap, h4, ↓reduceIte]
  · unfold m_new
    simp only [am_up_ap, h5, ↓reduceIte, Nat.reduceEqDiff]
set_option maxRecDepth 100000 in
set_option maxHeartbeats 4000000 in
theorem lp_Model_end {G : aG} (hG : am_ok G) {K : aR} {n0 : Int32} : ∀ (f : Nat) (n : Int32) (M : aM), mO M < f → (0 ≤ M 19 4 ∨ en_ok M) → K none (m_end f n M) → am_X G Y_Model_end 2 K 4 [some (.ref 19), some (.int n0), some (.int n), some (.int 1)] [] M := by
  intro f
  have Z : ∀ (n : Int32) (M : aM), K none M → am_X G Y_Model_end 2 K 4 [some (.ref 19), some (.int n0), some (.int n), some (.int 0)] [] M := by
    intro n M h
    refine am_from (tb_Model_end (ok_Model_node hG) (by decide)) k_Model_end 400 ?_
    simp only [q_Model_end_4, r_Model_end_0, r_Model_end_1, r_Model_end_2, r_Model_end_3, r_Model_end_4, r_Model_end_5, r_Model_end_8, r_Model_end_9, r_Model_end_12, r_Model_end_15, r_Model_end_16, r_Model_end_17, r_Model_end_18, r_Model_end_21, r_Model_end_24, r_Model_end_25, r_Model_end_28, r_Model_end_29, r_Model_end_32, r_Model_end_33, r_Model_end_34, r_Model_end_35, r_Model_end_36, r_Model_end_39, r_Model_end_40, r_Model_end_41, r_Model_end_44, r_Model_end_47, r_Model_end_48, r_Model_end_51, r_Model_end_52, r_Model_end_55, r_Model_end_56, r_Model_end_57, r_Model_end_58, r_Model_end_59, r_Model_end_62, r_Model_end_63, r_Model_end_66, r_Model_end_67, r_Model_end_70, r_Model_end_71, r_Model_end_74, r_Model_end_75, r_Model_end_76, r_Model_end_77, r_Model_end_78, r_Model_end_79, r_Model_end_80, r_Model_end_83, r_Model_end_84, r_Model_end_87, r_Model_end_88, r_Model_end_91, r_Model_end_92, r_Model_end_93, r_Model_end_94, r_Model_end_95, r_Model_end_96, r_Model_end_99, r_Model_end_100, r_Model_end_101, r_Model_end_102, r_Model_end_105, r_Model_end_106, r_Model_end_107, r_Model_end_110, r_Model_end_111, r_Model_end_114, r_Model_end_115, r_Model_end_118, r_Model_end_119, r_Model_end_120, r_Model_end_121, r_Model_end_122, r_Model_end_125, r_Model_end_126, r_Model_end_129, r_Model_end_130, r_Model_end_133, r_Model_end_134, r_Model_end_135, r_Model_end_136, r_Model_end_137, r_Model_end_140, r_Model_end_141, r_Model_end_144, r_Model_end_145, r_Model_end_148, r_Model_end_149, r_Model_end_152, r_Model_end_153, r_Model_end_154, r_Model_end_155, r_Model_end_156, r_Model_end_157, r_Model_end_158, r_Model_end_161, r_Model_end_162, r_Model_end_165, r_Model_end_166, r_Model_end_167, r_Model_end_168, r_Model_end_169, r_Model_end_172, r_Model_end_173, r_Model_end_176, r_Model_end_177, r_Model_end_180, r_Model_end_181, r_Model_end_184, r_Model_end_185, r_Model_end_186, r_Model_end_187, r_Model_end_188, r_Model_end_189, r_Model_end_192, ai_iload, ai_istore, am_cut_0, am_cut_s, am_c1, ai_const, ai_ifeq, ai_aload, ai_getf, ai_ifge, ai_ifne, ai_iast, ai_iadd, ai_bin, ai_putf, ai_goto, ai_isub, ai_iald, ai_cmpne, ai_callv2, am_push, am_few, ai_vret, kd_0, fd_0_0, fd_0_1, fd_0_2, fd_0_3, fd_0_4, kd_1, fd_1_0, fd_1_1, ln_2, kd_3, fd_3_0, fd_3_1, fd_3_2, fd_3_3, fd_3_4, fd_3_5, fd_3_6, fd_3_7, fd_3_8, fd_3_9, ln_4, ln_5, ln_6, ln_7, ln_8, ln_9, ln_10, kd_11, fd_11_0, fd_11_1, fd_11_2, fd_11_3, fd_11_4, kd_12, fd_12_0, fd_12_1, fd_12_2, fd_12_3, ln_13, ln_14, ln_15, kd_16, fd_16_0, fd_16_1, fd_16_2, ln_17, kd_18, fd_18_0, fd_18_1, kd_19, fd_19_0, fd_19_1, fd_19_2, fd_19_3, fd_19_4, fd_19_5, fd_19_6, fd_19_7, fd_19_8, fd_19_9, fd_19_10, fd_19_11, fd_19_12, fd_19_13, fd_19_14, fd_19_15, fd_19_16, fd_19_17, fd_19_18, fd_19_19, fd_19_20, ln_20, ln_21, ln_22, ln_23, ln_24, ln_25, ln_26, ln_27, ln_28, ln_29, ln_30, ln_31, ln_32, List.getElem?_cons_zero, List.getElem?_cons_succ, List.set_cons_zero, List.set_cons_succ, true_and, and_true, ↓reduceIte, Int32.reduceLT, Int32.reduceLE, li_10, or_true, true_or]
    exact h
  induction f with
  | zero =>
    intro n M hf
    omega
  | succ f ih =>
    intro n M hf hen h
    rw [m_end] at h
    by_cases c0 : 0 ≤ M 19 4
    · rw [if_pos c0] at h
      refine am_from (tb_Model_end (ok_Model_node hG) (by decide)) k_Model_end 400 ?_
      simp only [q_Model_end_4, r_Model_end_0, r_Model_end_1, r_Model_end_2, r_Model_end_3, r_Model_end_4, r_Model_end_5, r_Model_end_8, r_Model_end_9, r_Model_end_12, r_Model_end_15, r_Model_end_16, r_Model_end_17, r_Model_end_18, r_Model_end_21, r_Model_end_24, r_Model_end_25, r_Model_end_28, r_Model_end_29, r_Model_end_32, r_Model_end_33, r_Model_end_34, r_Model_end_35, r_Model_end_36, r_Model_end_39, r_Model_end_40, r_Model_end_41, r_Model_end_44, r_Model_end_47, r_Model_end_48, r_Model_end_51, r_Model_end_52, r_Model_end_55, r_Model_end_56, r_Model_end_57, r_Model_end_58, r_Model_end_59, r_Model_end_62, r_Model_end_63, r_Model_end_66, r_Model_end_67, r_Model_end_70, r_Model_end_71, r_Model_end_74, r_Model_end_75, r_Model_end_76, r_Model_end_77, r_Model_end_78, r_Model_end_79, r_Model_end_80, r_Model_end_83, r_Model_end_84, r_Model_end_87, r_Model_end_88, r_Model_end_91, r_Model_end_92, r_Model_end_93, r_Model_end_94, r_Model_end_95, r_Model_end_96, r_Model_end_99, r_Model_end_100, r_Model_end_101, r_Model_end_102, r_Model_end_105, r_Model_end_106, r_Model_end_107, r_Model_end_110, r_Model_end_111, r_Model_end_114, r_Model_end_115, r_Model_end_118, r_Model_end_119, r_Model_end_120, r_Model_end_121, r_Model_end_122, r_Model_end_125, r_Model_end_126, r_Model_end_129, r_Model_end_130, r_Model_end_133, r_Model_end_134, r_Model_end_135, r_Model_end_136, r_Model_end_137, r_Model_end_140, r_Model_end_141, r_Model_end_144, r_Model_end_145, r_Model_end_148, r_Model_end_149, r_Model_end_152, r_Model_end_153, r_Model_end_154, r_Model_end_155, r_Model_end_156, r_Model_end_157, r_Model_end_158, r_Model_end_161, r_Model_end_162, r_Model_end_165, r_Model_end_166, r_Model_end_167, r_Model_end_168, r_Model_end_169, r_Model_end_172, r_Model_end_173, r_Model_end_176, r_Model_end_177, r_Model_end_180, r_Model_end_181, r_Model_end_184, r_Model_end_185, r_Model_end_186, r_Model_end_187, r_Model_end_188, r_Model_end_189, r_Model_end_192, ai_iload, ai_istore, am_cut_0, am_cut_s, am_c1, ai_const, ai_ifeq, ai_aload, ai_getf, ai_ifge, ai_ifne, ai_iast, ai_iadd, ai_bin, ai_putf, ai_goto, ai_isub, ai_iald, ai_cmpne, ai_callv2, am_push, am_few, ai_vret, kd_0, fd_0_0, fd_0_1, fd_0_2, fd_0_3, fd_0_4, kd_1, fd_1_0, fd_1_1, ln_2, kd_3, fd_3_0, fd_3_1, fd_3_2, fd_3_3, fd_3_4, fd_3_5, fd_3_6, fd_3_7, fd_3_8, fd_3_9, ln_4, ln_5, ln_6, ln_7, ln_8, ln_9, ln_10, kd_11, fd_11_0, fd_11_1, fd_11_2, fd_11_3, fd_11_4, kd_12, fd_12_0, fd_12_1, fd_12_2, fd_12_3, ln_13, ln_14, ln_15, kd_16, fd_16_0, fd_16_1, fd_16_2, ln_17, kd_18, fd_18_0, fd_18_1, kd_19, fd_19_0, fd_19_1, fd_19_2, fd_19_3, fd_19_4, fd_19_5, fd_19_6, fd_19_7, fd_19_8, fd_19_9, fd_19_10, fd_19_11, fd_19_12, fd_19_13, fd_19_14, fd_19_15, fd_19_16, fd_19_17, fd_19_18, fd_19_19, fd_19_20, ln_20, ln_21, ln_22, ln_23, ln_24, ln_25, ln_26, ln_27, ln_28, ln_29, ln_30, ln_31, ln_32, List.getElem?_cons_zero, List.getElem?_cons_succ, List.set_cons_zero, List.set_cons_succ, true_and, and_true, ↓reduceIte, Int32.reduceLT, Int32.reduceLE, li_10, or_true, true_or, c0]
      exact h
    rw [if_neg c0] at h
    obtain ⟨hc, ho, hs, hd, hd2⟩ := hen.resolve_left c0
    by_cases c1 : mO M = 0
    · rw [if_pos c1] at h
      have e0 : (M 19 13 = 0) = True := eq_true (by rw [ho.1, c1]; rfl)
      have vd : vp_in (M 19 11) 200 := by rw [hd.1]; exact vp_in_nI hd2 (by decide)
      have cd : (M 19 11).toNatClampNeg = mD M := rfl
      have e2 : M 19 11 + 1 = nI (mD M + 1) := by rw [← nI_1, ← hd.1]
      refine am_from (tb_Model_end (ok_Model_node hG) (by decide)) k_Model_end 400 ?_
      simp only [q_Model_end_4, r_Model_end_0, r_Model_end_1, r_Model_end_2, r_Model_end_3, r_Model_end_4, r_Model_end_5, r_Model_end_8, r_Model_end_9, r_Model_end_12, r_Model_end_15, r_Model_end_16, r_Model_end_17, r_Model_end_18, r_Model_end_21, r_Model_end_24, r_Model_end_25, r_Model_end_28, r_Model_end_29, r_Model_end_32, r_Model_end_33, r_Model_end_34, r_Model_end_35, r_Model_end_36, r_Model_end_39, r_Model_end_40, r_Model_end_41, r_Model_end_44, r_Model_end_47, r_Model_end_48, r_Model_end_51, r_Model_end_52, r_Model_end_55, r_Model_end_56, r_Model_end_57, r_Model_end_58, r_Model_end_59, r_Model_end_62, r_Model_end_63, r_Model_end_66, r_Model_end_67, r_Model_end_70, r_Model_end_71, r_Model_end_74, r_Model_end_75, r_Model_end_76, r_Model_end_77, r_Model_end_78, r_Model_end_79, r_Model_end_80, r_Model_end_83, r_Model_end_84, r_Model_end_87, r_Model_end_88, r_Model_end_91, r_Model_end_92, r_Model_end_93, r_Model_end_94, r_Model_end_95, r_Model_end_96, r_Model_end_99, r_Model_end_100, r_Model_end_101, r_Model_end_102, r_Model_end_105, r_Model_end_106, r_Model_end_107, r_Model_end_110, r_Model_end_111, r_Model_end_114, r_Model_end_115, r_Model_end_118, r_Model_end_119, r_Model_end_120, r_Model_end_121, r_Model_end_122, r_Model_end_125, r_Model_end_126, r_Model_end_129, r_Model_end_130, r_Model_end_133, r_Model_end_134, r_Model_end_135, r_Model_end_136, r_Model_end_137, r_Model_end_140, r_Model_end_141, r_Model_end_144, r_Model_end_145, r_Model_end_148, r_Model_end_149, r_Model_end_152, r_Model_end_153, r_Model_end_154, r_Model_end_155, r_Model_end_156, r_Model_end_157, r_Model_end_158, r_Model_end_161, r_Model_end_162, r_Model_end_165, r_Model_end_166, r_Model_end_167, r_Model_end_168, r_Model_end_169, r_Model_end_172, r_Model_end_173, r_Model_end_176, r_Model_end_177, r_Model_end_180, r_Model_end_181, r_Model_end_184, r_Model_end_185, r_Model_end_186, r_Model_end_187, r_Model_end_188, r_Model_end_189, r_Model_end_192, ai_iload, ai_istore, am_cut_0, am_cut_s, am_c1, ai_const, ai_ifeq, ai_aload, ai_getf, ai_ifge, ai_ifne, ai_iast, ai_iadd, ai_bin, ai_putf, ai_goto, ai_isub, ai_iald, ai_cmpne, ai_callv2, am_push, am_few, ai_vret, kd_0, fd_0_0, fd_0_1, fd_0_2, fd_0_3, fd_0_4, kd_1, fd_1_0, fd_1_1, ln_2, kd_3, fd_3_0, fd_3_1, fd_3_2, fd_3_3, fd_3_4, fd_3_5, fd_3_6, fd_3_7, fd_3_8, fd_3_9, ln_4, ln_5, ln_6, ln_7, ln_8, ln_9, ln_10, kd_11, fd_11_0, fd_11_1, fd_11_2, fd_11_3, fd_11_4, kd_12, fd_12_0, fd_12_1, fd_12_2, fd_12_3, ln_13, ln_14, ln_15, kd_16, fd_16_0, fd_16_1, fd_16_2, ln_17, kd_18, fd_18_0, fd_18_1, kd_19, fd_19_0, fd_19_1, fd_19_2, fd_19_3, fd_19_4, fd_19_5, fd_19_6, fd_19_7, fd_19_8, fd_19_9, fd_19_10, fd_19_11, fd_19_12, fd_19_13, fd_19_14, fd_19_15, fd_19_16, fd_19_17, fd_19_18, fd_19_19, fd_19_20, ln_20, ln_21, ln_22, ln_23, ln_24, ln_25, ln_26, ln_27, ln_28, ln_29, ln_30, ln_31, ln_32, List.getElem?_cons_zero, List.getElem?_cons_succ, List.set_cons_zero, List.set_cons_succ, true_and, and_true, ↓reduceIte, Int32.reduceLT, Int32.reduceLE, li_10, or_true, true_or, c0, e0, vd, am_up_ap, Nat.reduceEqDiff, cd, e2]
      exact Z _ _ h
    rw [if_neg c1] at h
    have h15 := ho.2
    have e0 : ¬ M 19 13 = 0 := by rw [ho.1]; exact nI_ne0 (by omega) (by omega)
    have e1 : M 19 13 - 1 = nI (mO M - 1) := by rw [ho.1]; exact pk_sub (b := 1) (by omega)
    have vo : vp_in (nI (mO M - 1)) 15 := vp_in_nI (by omega) (by decide)
    have co : (nI (mO M - 1)).toNatClampNeg = mO M - 1 := nI_clamp (by omega)
    have vl := hs (mO M - 1) (by omega)
    by_cases c4 : M 29 (mO M - 1) = 4
    · rw [if_pos c4] at h
      have c4' : (M 29 (mO M - 1) = 4) = True := eq_true c4
      have hc2 : mc_ok (am_up M 24 (cl (M 28 (mO M - 1))) n) := hc
      have q13 : (m_nd (am_up M 24 (cl (M 28 (mO M - 1))) n) 5).2 19 13 = M 19 13 := nd_19 _ _ 13 (by decide) (by decide)
      have q27 : (m_nd (am_up M 24 (cl (M 28 (mO M - 1))) n) 5).2 27 = M 27 := m_nd_of (am_up M 24 (cl (M 28 (mO M - 1))) n) 5 27 (by decide) (by decide) (by decide) (by decide) (by decide)
      have q28 : (m_nd (am_up M 24 (cl (M 28 (mO M - 1))) n) 5).2 28 = M 28 := m_nd_of (am_up M 24 (cl (M 28 (mO M - 1))) n) 5 28 (by decide) (by decide) (by decide) (by decide) (by decide)
      have hO : mO (m_endQ M n) = mO M - 1 := nI_clamp (by omega)
      have hX : am_X G Y_Model_end 2 K 4 [some (.ref 19), some (.int n0), some (.int (M 27 (mO M - 1))), some (.int 1)] [] (m_endQ M n) := by
        refine ih _ _ (by rw [hO]; omega) ?_ h
        by_cases cf : 0 ≤ m_endQ M n 19 4
        · exact Or.inl cf
        · refine Or.inr ⟨mc_nd hc2, ⟨by rw [hO]; rfl, by rw [hO]; omega⟩, ?_, ?_, ?_⟩
          · intro o hoo
            rw [hO] at hoo
            have e28 : m_endQ M n 28 = (m_nd (am_up M 24 (cl (M 28 (mO M - 1))) n) 5).2 28 := rfl
            rw [e28, q28]
            exact hs o (by omega)
          · have e11 : m_endQ M n 19 11 = M 19 11 := by
              have : m_endQ M n 19 11 = (m_nd (am_up M 24 (cl (M 28 (mO M - 1))) n) 5).2 19 11 := rfl
              rw [this]
              exact nd_19 _ _ 11 (by decide) (by decide)
            unfold md_ok mD
            rw [e11]
            exact hd
          · have e11 : m_endQ M n 19 11 = M 19 11 := by
              have : m_endQ M n 19 11 = (m_nd (am_up M 24 (cl (M 28 (mO M - 1))) n) 5).2 19 11 := rfl
              rw [this]
              exact nd_19 _ _ 11 (by decide) (by decide)
            unfold mD
            rw [e11]
            exact hd2
      refine am_from (tb_Model_end (ok_Model_node hG) (by decide)) k_Model_end 400 ?_
      simp only [q_Model_end_4, r_Model_end_0, r_Model_end_1, r_Model_end_2, r_Model_end_3, r_Model_end_4, r_Model_end_5, r_Model_end_8, r_Model_end_9, r_Model_end_12, r_Model_end_15, r_Model_end_16, r_Model_end_17, r_Model_end_18, r_Model_end_21, r_Model_end_24, r_Model_end_25, r_Model_end_28, r_Model_end_29, r_Model_end_32, r_Model_end_33, r_Model_end_34, r_Model_end_35, r_Model_end_36, r_Model_end_39, r_Model_end_40, r_Model_end_41, r_Model_end_44, r_Model_end_47, r_Model_end_48, r_Model_end_51, r_Model_end_52, r_Model_end_55, r_Model_end_56, r_Model_end_57, r_Model_end_58, r_Model_end_59, r_Model_end_62, r_Model_end_63, r_Model_end_66, r_Model_end_67, r_Model_end_70, r_Model_end_71, r_Model_end_74, r_Model_end_75, r_Model_end_76, r_Model_end_77, r_Model_end_78, r_Model_end_79, r_Model_end_80, r_Model_end_83, r_Model_end_84, r_Model_end_87, r_Model_end_88, r_Model_end_91, r_Model_end_92, r_Model_end_93, r_Model_end_94, r_Model_end_95, r_Model_end_96, r_Model_end_99, r_Model_end_100, r_Model_end_101, r_Model_end_102, r_Model_end_105, r_Model_end_106, r_Model_end_107, r_Model_end_110, r_Model_end_111, r_Model_end_114, r_Model_end_115, r_Model_end_118, r_Model_end_119, r_Model_end_120, r_Model_end_121, r_Model_end_122, r_Model_end_125, r_Model_end_126, r_Model_end_129, r_Model_end_130, r_Model_end_133, r_Model_end_134, r_Model_end_135, r_Model_end_136, r_Model_end_137, r_Model_end_140, r_Model_end_141, r_Model_end_144, r_Model_end_145, r_Model_end_148, r_Model_end_149, r_Model_end_152, r_Model_end_153, r_Model_end_154, r_Model_end_155, r_Model_end_156, r_Model_end_157, r_Model_end_158, r_Model_end_161, r_Model_end_162, r_Model_end_165, r_Model_end_166, r_Model_end_167, r_Model_end_168, r_Model_end_169, r_Model_end_172, r_Model_end_173, r_Model_end_176, r_Model_end_177, r_Model_end_180, r_Model_end_181, r_Model_end_184, r_Model_end_185, r_Model_end_186, r_Model_end_187, r_Model_end_188, r_Model_end_189, r_Model_end_192, ai_iload, ai_istore, am_cut_0, am_cut_s, am_c1, ai_const, ai_ifeq, ai_aload, ai_getf, ai_ifge, ai_ifne, ai_iast, ai_iadd, ai_bin, ai_putf, ai_goto, ai_isub, ai_iald, ai_cmpne, ai_callv2, am_push, am_few, ai_vret, kd_0, fd_0_0, fd_0_1, fd_0_2, fd_0_3, fd_0_4, kd_1, fd_1_0, fd_1_1, ln_2, kd_3, fd_3_0, fd_3_1, fd_3_2, fd_3_3, fd_3_4, fd_3_5, fd_3_6, fd_3_7, fd_3_8, fd_3_9, ln_4, ln_5, ln_6, ln_7, ln_8, ln_9, ln_10, kd_11, fd_11_0, fd_11_1, fd_11_2, fd_11_3, fd_11_4, kd_12, fd_12_0, fd_12_1, fd_12_2, fd_12_3, ln_13, ln_14, ln_15, kd_16, fd_16_0, fd_16_1, fd_16_2, ln_17, kd_18, fd_18_0, fd_18_1, kd_19, fd_19_0, fd_19_1, fd_19_2, fd_19_3, fd_19_4, fd_19_5, fd_19_6, fd_19_7, fd_19_8, fd_19_9, fd_19_10, fd_19_11, fd_19_12, fd_19_13, fd_19_14, fd_19_15, fd_19_16, fd_19_17, fd_19_18, fd_19_19, fd_19_20, ln_20, ln_21, ln_22, ln_23, ln_24, ln_25, ln_26, ln_27, ln_28, ln_29, ln_30, ln_31, ln_32, List.getElem?_cons_zero, List.getElem?_cons_succ, List.set_cons_zero, List.set_cons_succ, true_and, and_true, ↓reduceIte, Int32.reduceLT, Int32.reduceLE, li_10, or_true, true_or, ↓sp_Model_node, hc2, c0, e0, e1, vo, co, c4', vl, am_up_ap, Nat.reduceEqDiff, q13, q27]
      exact hX
    rw [if_neg c4] at h
    by_cases c2 : M 29 (mO M - 1) = 2
    · rw [if_pos c2] at h
      have c2' : (M 29 (mO M - 1) = 2) = True := eq_true c2
      refine am_from (tb_Model_end (ok_Model_node hG) (by decide)) k_Model_end 400 ?_
      simp only [q_Model_end_4, r_Model_end_0, r_Model_end_1, r_Model_end_2, r_Model_end_3, r_Model_end_4, r_Model_end_5, r_Model_end_8, r_Model_end_9, r_Model_end_12, r_Model_end_15, r_Model_end_16, r_Model_end_17, r_Model_end_18, r_Model_end_21, r_Model_end_24, r_Model_end_25, r_Model_end_28, r_Model_end_29, r_Model_end_32, r_Model_end_33, r_Model_end_34, r_Model_end_35, r_Model_end_36, r_Model_end_39, r_Model_end_40, r_Model_end_41, r_Model_end_44, r_Model_end_47, r_Model_end_48, r_Model_end_51, r_Model_end_52, r_Model_end_55, r_Model_end_56, r_Model_end_57, r_Model_end_58, r_Model_end_59, r_Model_end_62, r_Model_end_63, r_Model_end_66, r_Model_end_67, r_Model_end_70, r_Model_end_71, r_Model_end_74, r_Model_end_75, r_Model_end_76, r_Model_end_77, r_Model_end_78, r_Model_end_79, r_Model_end_80, r_Model_end_83, r_Model_end_84, r_Model_end_87, r_Model_end_88, r_Model_end_91, r_Model_end_92, r_Model_end_93, r_Model_end_94, r_Model_end_95, r_Model_end_96, r_Model_end_99, r_Model_end_100, r_Model_end_101, r_Model_end_102, r_Model_end_105, r_Model_end_106, r_Model_end_107, r_Model_end_110, r_Model_end_111, r_Model_end_114, r_Model_end_115, r_Model_end_118, r_Model_end_119, r_Model_end_120, r_Model_end_121, r_Model_end_122, r_Model_end_125, r_Model_end_126, r_Model_end_129, r_Model_end_130, r_Model_end_133, r_Model_end_134, r_Model_end_135, r_Model_end_136, r_Model_end_137, r_Model_end_140, r_Model_end_141, r_Model_end_144, r_Model_end_145, r_Model_end_148, r_Model_end_149, r_Model_end_152, r_Model_end_153, r_Model_end_154, r_Model_end_155, r_Model_end_156, r_Model_end_157, r_Model_end_158, r_Model_end_161, r_Model_end_162, r_Model_end_165, r_Model_end_166, r_Model_end_167, r_Model_end_168, r_Model_end_169, r_Model_end_172, r_Model_end_173, r_Model_end_176, r_Model_end_177, r_Model_end_180, r_Model_end_181, r_Model_end_184, r_Model_end_185, r_Model_end_186, r_Model_end_187, r_Model_end_188, r_Model_end_189, r_Model_end_192, ai_iload, ai_istore, am_cut_0, am_cut_s, am_c1, ai_const, ai_ifeq, ai_aload, ai_getf, ai_ifge, ai_ifne, ai_iast, ai_iadd, ai_bin, ai_putf, ai_goto, ai_isub, ai_iald, ai_cmpne, ai_callv2, am_push, am_few, ai_vret, kd_0, fd_0_0, fd_0_1, fd_0_2, fd_0_3, fd_0_4, kd_1, fd_1_0, fd_1_1, ln_2, kd_3, fd_3_0, fd_3_1, fd_3_2, fd_3_3, fd_3_4, fd_3_5, fd_3_6, fd_3_7, fd_3_8, fd_3_9, ln_4, ln_5, ln_6, ln_7, ln_8, ln_9, ln_10, kd_11, fd_11_0, fd_11_1, fd_11_2, fd_11_3, fd_11_4, kd_12, fd_12_0, fd_12_1, fd_12_2, fd_12_3, ln_13, ln_14, ln_15, kd_16, fd_16_0, fd_16_1, fd_16_2, ln_17, kd_18, fd_18_0, fd_18_1, kd_19, fd_19_0, fd_19_1, fd_19_2, fd_19_3, fd_19_4, fd_19_5, fd_19_6, fd_19_7, fd_19_8, fd_19_9, fd_19_10, fd_19_11, fd_19_12, fd_19_13, fd_19_14, fd_19_15, fd_19_16, fd_19_17, fd_19_18, fd_19_19, fd_19_20, ln_20, ln_21, ln_22, ln_23, ln_24, ln_25, ln_26, ln_27, ln_28, ln_29, ln_30, ln_31, ln_32, List.getElem?_cons_zero, List.getElem?_cons_succ, List.set_cons_zero, List.set_cons_succ, true_and, and_true, ↓reduceIte, Int32.reduceLT, Int32.reduceLE, li_10, or_true, true_or, c0, e0, e1, vo, co, c4, c2', vl, am_up_ap, Nat.reduceEqDiff]
      exact Z _ _ h
    · rw [if_neg c2] at h
      refine am_from (tb_Model_end (ok_Model_node hG) (by decide)) k_Model_end 400 ?_
      simp only [q_Model_end_4, r_Model_end_0, r_Model_end_1, r_Model_end_2, r_Model_end_3, r_Model_end_4, r_Model_end_5, r_Model_end_8, r_Model_end_9, r_Model_end_12, r_Model_end_15, r_Model_end_16, r_Model_end_17, r_Model_end_18, r_Model_end_21, r_Model_end_24, r_Model_end_25, r_Model_end_28, r_Model_end_29, r_Model_end_32, r_Model_end_33, r_Model_end_34, r_Model_end_35, r_Model_end_36, r_Model_end_39, r_Model_end_40, r_Model_end_41, r_Model_end_44, r_Model_end_47, r_Model_end_48, r_Model_end_51, r_Model_end_52, r_Model_end_55, r_Model_end_56, r_Model_end_57, r_Model_end_58, r_Model_end_59, r_Model_end_62, r_Model_end_63, r_Model_end_66, r_Model_end_67, r_Model_end_70, r_Model_end_71, r_Model_end_74, r_Model_end_75, r_Model_end_76, r_Model_end_77, r_Model_end_78, r_Model_end_79, r_Model_end_80, r_Model_end_83, r_Model_end_84, r_Model_end_87, r_Model_end_88, r_Model_end_91, r_Model_end_92, r_Model_end_93, r_Model_end_94, r_Model_end_95, r_Model_end_96, r_Model_end_99, r_Model_end_100, r_Model_end_101, r_Model_end_102, r_Model_end_105, r_Model_end_106, r_Model_end_107, r_Model_end_110, r_Model_end_111, r_Model_end_114, r_Model_end_115, r_Model_end_118, r_Model_end_119, r_Model_end_120, r_Model_end_121, r_Model_end_122, r_Model_end_125, r_Model_end_126, r_Model_end_129, r_Model_end_130, r_Model_end_133, r_Model_end_134, r_Model_end_135, r_Model_end_136, r_Model_end_137, r_Model_end_140, r_Model_end_141, r_Model_end_144, r_Model_end_145, r_Model_end_148, r_Model_end_149, r_Model_end_152, r_Model_end_153, r_Model_end_154, r_Model_end_155, r_Model_end_156, r_Model_end_157, r_Model_end_158, r_Model_end_161, r_Model_end_162, r_Model_end_165, r_Model_end_166, r_Model_end_167, r_Model_end_168, r_Model_end_169, r_Model_end_172, r_Model_end_173, r_Model_end_176, r_Model_end_177, r_Model_end_180, r_Model_end_181, r_Model_end_184, r_Model_end_185, r_Model_end_186, r_Model_end_187, r_Model_end_188, r_Model_end_189, r_Model_end_192, ai_iload, ai_istore, am_cut_0, am_cut_s, am_c1, ai_const, ai_ifeq, ai_aload, ai_getf, ai_ifge, ai_ifne, ai_iast, ai_iadd, ai_bin, ai_putf, ai_goto, ai_isub, ai_iald, ai_cmpne, ai_callv2, am_push, am_few, ai_vret, kd_0, fd_0_0, fd_0_1, fd_0_2, fd_0_3, fd_0_4, kd_1, fd_1_0, fd_1_1, ln_2, kd_3, fd_3_0, fd_3_1, fd_3_2, fd_3_3, fd_3_4, fd_3_5, fd_3_6, fd_3_7, fd_3_8, fd_3_9, ln_4, ln_5, ln_6, ln_7, ln_8, ln_9, ln_10, kd_11, fd_11_0, fd_11_1, fd_11_2, fd_11_3, fd_11_4, kd_12, fd_12_0, fd_12_1, fd_12_2, fd_12_3, ln_13, ln_14, ln_15, kd_16, fd_16_0, fd_16_1, fd_16_2, ln_17, kd_18, fd_18_0, fd_18_1, kd_19, fd_19_0, fd_19_1, fd_19_2, fd_19_3, fd_19_4, fd_19_5, fd_19_6, fd_19_7, fd_19_8, fd_19_9, fd_19_10, fd_19_11, fd_19_12, fd_19_13, fd_19_14, fd_19_15, fd_19_16, fd_19_17, fd_19_18, fd_19_19, fd_19_20, ln_20, ln_21, ln_22, ln_23, ln_24, ln_25, ln_26, ln_27, ln_28, ln_29, ln_30, ln_31, ln_32, List.getElem?_cons_zero, List.getElem?_cons_succ, List.set_cons_zero, List.set_cons_succ, true_and, and_true, ↓reduceIte, Int32.reduceLT, Int32.reduceLE, li_10, or_true, true_or, c0, e0, e1, vo, co, c4, c2, vl, am_up_ap, Nat.reduceEqDiff]
      exact Z _ _ h
set_option maxRecDepth 100000 in
set_option maxHeartbeats 4000000 in
theorem ok_Model_end {G : aG} (hG : am_ok G) : am_Sp G Y_Model_end 2 sp_Model_end := by
  intro as M K h
  unfold sp_Model_end at h
  split at h
  · next a n =>
    obtain ⟨rfl, hen, h⟩ := h
    refine am_entry hG (by decide +kernel) (Nat.le_of_ble_eq_true rfl) ?_
    refine am_go (cuts := k_Model_end) (tb_Model_end (ok_Model_node hG) (by decide)) 400 _ _ _ _ ?_
    change am_run _ _ _ _ _ _ [some (.ref 19), some (.int n), none, none] [] _
    simp only [q_Model_end_4, r_Model_end_0, r_Model_end_1, r_Model_end_2, r_Model_end_3, r_Model_end_4, r_Model_end_5, r_Model_end_8, r_Model_end_9, r_Model_end_12, r_Model_end_15, r_Model_end_16, r_Model_end_17, r_Model_end_18, r_Model_end_21, r_Model_end_24, r_Model_end_25, r_Model_end_28, r_Model_end_29, r_Model_end_32, r_Model_end_33, r_Model_end_34, r_Model_end_35, r_Model_end_36, r_Model_end_39, r_Model_end_40, r_Model_end_41, r_Model_end_44, r_Model_end_47, r_Model_end_48, r_Model_end_51, r_Model_end_52, r_Model_end_55, r_Model_end_56, r_Model_end_57, r_Model_end_58, r_Model_end_59, r_Model_end_62, r_Model_end_63, r_Model_end_66, r_Model_end_67, r_Model_end_70, r_Model_end_71, r_Model_end_74, r_Model_end_75, r_Model_end_76, r_Model_end_77, r_Model_end_78, r_Model_end_79, r_Model_end_80, r_Model_end_83, r_Model_end_84, r_Model_end_87, r_Model_end_88, r_Model_end_91, r_Model_end_92, r_Model_end_93, r_Model_end_94, r_Model_end_95, r_Model_end_96, r_Model_end_99, r_Model_end_100, r_Model_end_101, r_Model_end_102, r_Model_end_105, r_Model_end_106, r_Model_end_107, r_Model_end_110, r_Model_end_111, r_Model_end_114, r_Model_end_115, r_Model_end_118, r_Model_end_119, r_Model_end_120, r_Model_end_121, r_Model_end_122, r_Model_end_125, r_Model_end_126, r_Model_end_129, r_Model_end_130, r_Model_end_133, r_Model_end_134, r_Model_end_135, r_Model_end_136, r_Model_end_137, r_Model_end_140, r_Model_end_141, r_Model_end_144, r_Model_end_145, r_Model_end_148, r_Model_end_149, r_Model_end_152, r_Model_end_153, r_Model_end_154, r_Model_end_155, r_Model_end_156, r_Model_end_157, r_Model_end_158, r_Model_end_161, r_Model_end_162, r_Model_end_165, r_Model_end_166, r_Model_end_167, r_Model_end_168, r_Model_end_169, r_Model_end_172, r_Model_end_173, r_Model_end_176, r_Model_end_177, r_Model_end_180, r_Model_end_181, r_Model_end_184, r_Model_end_185, r_Model_end_186, r_Model_end_187, r_Model_end_188, r_Model_end_189, r_Model_end_192, ai_iload, ai_istore, am_cut_0, am_cut_s, am_c1, ai_const, ai_ifeq, ai_aload, ai_getf, ai_ifge, ai_ifne, ai_iast, ai_iadd, ai_bin, ai_putf, ai_goto, ai_isub, ai_iald, ai_cmpne, ai_callv2, am_push, am_few, ai_vret, kd_0, fd_0_0, fd_0_1, fd_0_2, fd_0_3, fd_0_4, kd_1, fd_1_0, fd_1_1, ln_2, kd_3, fd_3_0, fd_3_1, fd_3_2, fd_3_3, fd_3_4, fd_3_5, fd_3_6, fd_3_7, fd_3_8, fd_3_9, ln_4, ln_5, ln_6, ln_7, ln_8, ln_9, ln_10, kd_11, fd_11_0, fd_11_1, fd_11_2, fd_11_3, fd_11_4, kd_12, fd_12_0, fd_12_1, fd_12_2, fd_12_3, ln_13, ln_14, ln_15, kd_16, fd_16_0, fd_16_1, fd_16_2, ln_17, kd_18, fd_18_0, fd_18_1, kd_19, fd_19_0, fd_19_1, fd_19_2, fd_19_3, fd_19_4, fd_19_5, fd_19_6, fd_19_7, fd_19_8, fd_19_9, fd_19_10, fd_19_11, fd_19_12, fd_19_13, fd_19_14, fd_19_15, fd_19_16, fd_19_17, fd_19_18, fd_19_19, fd_19_20, ln_20, ln_21, ln_22, ln_23, ln_24, ln_25, ln_26, ln_27, ln_28, ln_29, ln_30, ln_31, ln_32, List.getElem?_cons_zero, List.getElem?_cons_succ, List.set_cons_zero, List.set_cons_succ, true_and, and_true, ↓reduceIte, Int32.reduceLT, Int32.reduceLE, li_10, or_true, true_or]
    exact lp_Model_end hG _ _ _ (Nat.lt_succ_self _) hen h
  · cases h
end
