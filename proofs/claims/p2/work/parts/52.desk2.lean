/-! THE DESK: put and fetch -/
def pb (v : Int64) (k : Nat) : Int32 := ((v.toUInt64 >>> ((8 * nI k).toInt64.toUInt64 &&& Int64.toUInt64 63)).toInt64).toInt32 &&& 255
def d_putL (v : Int64) : Nat → aM → aM
  | 0, M => M
  | k + 1, M => d_putL v k (apd M (pb v k))
def d_putOk (M : aM) (n : Int32) : Bool := !(decide (n < 1)) && !(decide (8 < n)) && !(decide (400 < M 1 1 + n))
def sp_Desk_put : aS := fun as M K => match as with
  | [.ref a, .long v, .int n] => a = 0 ∧ tx_ok M ∧ K (some (.int (b2 (d_putOk M n)))) (if d_putOk M n = true then d_putL v (cl n) M else M)
  | _ => False
theorem apd_tl {M : aM} {b : Int32} (h : tl M < 400) : tl (apd M b) = tl M + 1 := by
  unfold tl apd
  simp only [am_up_ap, Nat.reduceEqDiff, ↓reduceIte]
  exact nI_clamp (by have : tl M = cl (M 1 1) := rfl; omega)
theorem apd_ok {M : aM} {b : Int32} (h : tl M < 400) : tx_ok (apd M b) := by
  refine ⟨?_, by rw [apd_tl h]; omega⟩
  rw [apd_tl h]
  unfold apd
  simp only [am_up_ap, Nat.reduceEqDiff, ↓reduceIte]
set_option maxRecDepth 100000 in
set_option maxHeartbeats 4000000 in
theorem lp_Desk_put {G : aG} (hG : am_ok G) {K : aR} {v : Int64} {n : Int32} : ∀ (k : Nat) (M : aM), tx_ok M → tl M + k ≤ 400 → K (some (.int 1)) (d_putL v k M) → am_X G Y_Desk_put 1 K 33 [some (.ref 0), some (.long v), none, some (.int n), some (.int (nI k - 1))] [] M := by
  intro k
  induction k with
  | zero =>
    intro M ht hk h
    have e1 : nI 0 - 1 < 0 := by decide
    refine am_from (tb_Desk_put (ok_Text_append hG) (by decide)) k_Desk_put 400 ?_
    simp only [q_Desk_put_33, r_Desk_put_0, r_Desk_put_1, r_Desk_put_2, r_Desk_put_5, r_Desk_put_6, r_Desk_put_8, r_Desk_put_11, r_Desk_put_12, r_Desk_put_15, r_Desk_put_18, r_Desk_put_19, r_Desk_put_20, r_Desk_put_23, r_Desk_put_26, r_Desk_put_27, r_Desk_put_28, r_Desk_put_29, r_Desk_put_30, r_Desk_put_31, r_Desk_put_33, r_Desk_put_35, r_Desk_put_38, r_Desk_put_39, r_Desk_put_42, r_Desk_put_43, r_Desk_put_45, r_Desk_put_47, r_Desk_put_48, r_Desk_put_49, r_Desk_put_50, r_Desk_put_53, r_Desk_put_54, r_Desk_put_57, r_Desk_put_60, r_Desk_put_63, r_Desk_put_64, ai_iload, ai_const, ai_cmplt, ai_cmpgt, ai_aload, ai_getf, ai_iadd, ai_bin, ai_cmple, ai_zret, ai_isub, ai_istore, am_cut_0, am_cut_s, am_c1, ai_iflt, ai_lload, ai_imul, ai_lushr, ai_l2i, ai_iand, ai_callv2, am_push, am_few, ai_iinc, ai_goto, kd_0, fd_0_0, fd_0_1, fd_0_2, fd_0_3, fd_0_4, kd_1, fd_1_0, fd_1_1, ln_2, kd_3, fd_3_0, fd_3_1, fd_3_2, fd_3_3, fd_3_4, fd_3_5, fd_3_6, fd_3_7, fd_3_8, fd_3_9, ln_4, ln_5, ln_6, ln_7, ln_8, ln_9, ln_10, kd_11, fd_11_0, fd_11_1, fd_11_2, fd_11_3, fd_11_4, kd_12, fd_12_0, fd_12_1, fd_12_2, fd_12_3, ln_13, ln_14, ln_15, kd_16, fd_16_0, fd_16_1, fd_16_2, ln_17, kd_18, fd_18_0, fd_18_1, kd_19, fd_19_0, fd_19_1, fd_19_2, fd_19_3, fd_19_4, fd_19_5, fd_19_6, fd_19_7, fd_19_8, fd_19_9, fd_19_10, fd_19_11, fd_19_12, fd_19_13, fd_19_14, fd_19_15, fd_19_16, fd_19_17, fd_19_18, fd_19_19, fd_19_20, ln_20, ln_21, ln_22, ln_23, ln_24, ln_25, ln_26, ln_27, ln_28, ln_29, ln_30, ln_31, ln_32, List.getElem?_cons_zero, List.getElem?_cons_succ, List.set_cons_zero, List.set_cons_succ, true_and, and_true, ↓reduceIte, Int32.reduceLT, Int32.reduceLE, li_10, or_true, true_or, e1]
    exact h
  | succ k ih =>
    intro M ht hk h
    have e1 : ¬ nI k < 0 := nI_pos (by omega)
    have e2 : tl M < 400 := by omega
    have en : nI k + (-1) = nI k - 1 := (Int32.sub_eq_add_neg _ _).symm
    rw [nI_pred]
    refine am_from (tb_Desk_put (ok_Text_append hG) (by decide)) k_Desk_put 400 ?_
    simp only [q_Desk_put_33, r_Desk_put_0, r_Desk_put_1, r_Desk_put_2, r_Desk_put_5, r_Desk_put_6, r_Desk_put_8, r_Desk_put_11, r_Desk_put_12, r_Desk_put_15, r_Desk_put_18, r_Desk_put_19, r_Desk_put_20, r_Desk_put_23, r_Desk_put_26, r_Desk_put_27, r_Desk_put_28, r_Desk_put_29, r_Desk_put_30, r_Desk_put_31, r_Desk_put_33, r_Desk_put_35, r_Desk_put_38, r_Desk_put_39, r_Desk_put_42, r_Desk_put_43, r_Desk_put_45, r_Desk_put_47, r_Desk_put_48, r_Desk_put_49, r_Desk_put_50, r_Desk_put_53, r_Desk_put_54, r_Desk_put_57, r_Desk_put_60, r_Desk_put_63, r_Desk_put_64, ai_iload, ai_const, ai_cmplt, ai_cmpgt, ai_aload, ai_getf, ai_iadd, ai_bin, ai_cmple, ai_zret, ai_isub, ai_istore, am_cut_0, am_cut_s, am_c1, ai_iflt, ai_lload, ai_imul, ai_lushr, ai_l2i, ai_iand, ai_callv2, am_push, am_few, ai_iinc, ai_goto, kd_0, fd_0_0, fd_0_1, fd_0_2, fd_0_3, fd_0_4, kd_1, fd_1_0, fd_1_1, ln_2, kd_3, fd_3_0, fd_3_1, fd_3_2, fd_3_3, fd_3_4, fd_3_5, fd_3_6, fd_3_7, fd_3_8, fd_3_9, ln_4, ln_5, ln_6, ln_7, ln_8, ln_9, ln_10, kd_11, fd_11_0, fd_11_1, fd_11_2, fd_11_3, fd_11_4, kd_12, fd_12_0, fd_12_1, fd_12_2, fd_12_3, ln_13, ln_14, ln_15, kd_16, fd_16_0, fd_16_1, fd_16_2, ln_17, kd_18, fd_18_0, fd_18_1, kd_19, fd_19_0, fd_19_1, fd_19_2, fd_19_3, fd_19_4, fd_19_5, fd_19_6, fd_19_7, fd_19_8, fd_19_9, fd_19_10, fd_19_11, fd_19_12, fd_19_13, fd_19_14, fd_19_15, fd_19_16, fd_19_17, fd_19_18, fd_19_19, fd_19_20, ln_20, ln_21, ln_22, ln_23, ln_24, ln_25, ln_26, ln_27, ln_28, ln_29, ln_30, ln_31, ln_32, List.getElem?_cons_zero, List.getElem?_cons_succ, List.set_cons_zero, List.set_cons_succ, true_and, and_true, ↓reduceIte, Int32.reduceLT, Int32.reduceLE, li_10, or_true, true_or, ↓sp_Text_append, e1, ht, e2, en]
    exact ih (apd M (pb v k)) (apd_ok e2) (by rw [apd_tl e2]; omega) h
set_option maxRecDepth 100000 in
set_option maxHeartbeats 4000000 in
theorem ok_Desk_put {G : aG} (hG : am_ok G) : am_Sp G Y_Desk_put 1 sp_Desk_put := by
  intro as M K h
  unfold sp_Desk_put at h
  split at h
  · next a v n =>
    obtain ⟨rfl, ht, h⟩ := h
    unfold d_putOk at h
    by_cases c1 : n < 1
    · refine am_entry hG (by decide +kernel) (Nat.le_of_ble_eq_true rfl) ?_
      refine am_go (cuts := k_Desk_put) (tb_Desk_put (ok_Text_append hG) (by decide)) 400 _ _ _ _ ?_
      change am_run _ _ _ _ _ _ [some (.ref 0), some (.long v), none, some (.int n), none] [] _
      simp only [q_Desk_put_33, r_Desk_put_0, r_Desk_put_1, r_Desk_put_2, r_Desk_put_5, r_Desk_put_6, r_Desk_put_8, r_Desk_put_11, r_Desk_put_12, r_Desk_put_15, r_Desk_put_18, r_Desk_put_19, r_Desk_put_20, r_Desk_put_23, r_Desk_put_26, r_Desk_put_27, r_Desk_put_28, r_Desk_put_29, r_Desk_put_30, r_Desk_put_31, r_Desk_put_33, r_Desk_put_35, r_Desk_put_38, r_Desk_put_39, r_Desk_put_42, r_Desk_put_43, r_Desk_put_45, r_Desk_put_47, r_Desk_put_48, r_Desk_put_49, r_Desk_put_50, r_Desk_put_53, r_Desk_put_54, r_Desk_put_57, r_Desk_put_60, r_Desk_put_63, r_Desk_put_64, ai_iload, ai_const, ai_cmplt, ai_cmpgt, ai_aload, ai_getf, ai_iadd, ai_bin, ai_cmple, ai_zret, ai_isub, ai_istore, am_cut_0, am_cut_s, am_c1, ai_iflt, ai_lload, ai_imul, ai_lushr, ai_l2i, ai_iand, ai_callv2, am_push, am_few, ai_iinc, ai_goto, kd_0, fd_0_0, fd_0_1, fd_0_2, fd_0_3, fd_0_4, kd_1, fd_1_0, fd_1_1, ln_2, kd_3, fd_3_0, fd_3_1, fd_3_2, fd_3_3, fd_3_4, fd_3_5, fd_3_6, fd_3_7, fd_3_8, fd_3_9, ln_4, ln_5, ln_6, ln_7, ln_8, ln_9, ln_10, kd_11, fd_11_0, fd_11_1, fd_11_2, fd_11_3, fd_11_4, kd_12, fd_12_0, fd_12_1, fd_12_2, fd_12_3, ln_13, ln_14, ln_15, kd_16, fd_16_0, fd_16_1, fd_16_2, ln_17, kd_18, fd_18_0, fd_18_1, kd_19, fd_19_0, fd_19_1, fd_19_2, fd_19_3, fd_19_4, fd_19_5, fd_19_6, fd_19_7, fd_19_8, fd_19_9, fd_19_10, fd_19_11, fd_19_12, fd_19_13, fd_19_14, fd_19_15, fd_19_16, fd_19_17, fd_19_18, fd_19_19, fd_19_20, ln_20, ln_21, ln_22, ln_23, ln_24, ln_25, ln_26, ln_27, ln_28, ln_29, ln_30, ln_31, ln_32, List.getElem?_cons_zero, List.getElem?_cons_succ, List.set_cons_zero, List.set_cons_succ, true_and, and_true, ↓reduceIte, Int32.reduceLT, Int32.reduceLE, li_10, or_true, true_or, c1]
      simp [c1, b2] at h
      exact h
    by_cases c2 : 8 < n
    · refine am_entry hG (by decide +kernel) (Nat.le_of_ble_eq_true rfl) ?_
      refine am_go (cuts := k_Desk_put) (tb_Desk_put (ok_Text_append hG) (by decide)) 400 _ _ _ _ ?_
      change am_run _ _ _ _ _ _ [some (.ref 0), some (.long v), none, some (.int n), none] [] _
      simp only [q_Desk_put_33, r_Desk_put_0, r_Desk_put_1, r_Desk_put_2, r_Desk_put_5, r_Desk_put_6, r_Desk_put_8, r_Desk_put_11, r_Desk_put_12, r_Desk_put_15, r_Desk_put_18, r_Desk_put_19, r_Desk_put_20, r_Desk_put_23, r_Desk_put_26, r_Desk_put_27, r_Desk_put_28, r_Desk_put_29, r_Desk_put_30, r_Desk_put_31, r_Desk_put_33, r_Desk_put_35, r_Desk_put_38, r_Desk_put_39, r_Desk_put_42, r_Desk_put_43, r_Desk_put_45, r_Desk_put_47, r_Desk_put_48, r_Desk_put_49, r_Desk_put_50, r_Desk_put_53, r_Desk_put_54, r_Desk_put_57, r_Desk_put_60, r_Desk_put_63, r_Desk_put_64, ai_iload, ai_const, ai_cmplt, ai_cmpgt, ai_aload, ai_getf, ai_iadd, ai_bin, ai_cmple, ai_zret, ai_isub, ai_istore, am_cut_0, am_cut_s, am_c1, ai_iflt, ai_lload, ai_imul, ai_lushr, ai_l2i, ai_iand, ai_callv2, am_push, am_few, ai_iinc, ai_goto, kd_0, fd_0_0, fd_0_1, fd_0_2, fd_0_3, fd_0_4, kd_1, fd_1_0, fd_1_1, ln_2, kd_3, fd_3_0, fd_3_1, fd_3_2, fd_3_3, fd_3_4, fd_3_5, fd_3_6, fd_3_7, fd_3_8, fd_3_9, ln_4, ln_5, ln_6, ln_7, ln_8, ln_9, ln_10, kd_11, fd_11_0, fd_11_1, fd_11_2, fd_11_3, fd_11_4, kd_12, fd_12_0, fd_12_1, fd_12_2, fd_12_3, ln_13, ln_14, ln_15, kd_16, fd_16_0, fd_16_1, fd_16_2, ln_17, kd_18, fd_18_0, fd_18_1, kd_19, fd_19_0, fd_19_1, fd_19_2, fd_19_3, fd_19_4, fd_19_5, fd_19_6, fd_19_7, fd_19_8, fd_19_9, fd_19_10, fd_19_11, fd_19_12, fd_19_13, fd_19_14, fd_19_15, fd_19_16, fd_19_17, fd_19_18, fd_19_19, fd_19_20, ln_20, ln_21, ln_22, ln_23, ln_24, ln_25, ln_26, ln_27, ln_28, ln_29, ln_30, ln_31, ln_32, List.getElem?_cons_zero, List.getElem?_cons_succ, List.set_cons_zero, List.set_cons_succ, true_and, and_true, ↓reduceIte, Int32.reduceLT, Int32.reduceLE, li_10, or_true, true_or, c1, c2]
      simp [c2, b2] at h
      exact h
    by_cases c3 : 400 < M 1 1 + n
    · refine am_entry hG (by decide +kernel) (Nat.le_of_ble_eq_true rfl) ?_
      refine am_go (cuts := k_Desk_put) (tb_Desk_put (ok_Text_append hG) (by decide)) 400 _ _ _ _ ?_
      change am_run _ _ _ _ _ _ [some (.ref 0), some (.long v), none, some (.int n), none] [] _
      simp only [q_Desk_put_33, r_Desk_put_0, r_Desk_put_1, r_Desk_put_2, r_Desk_put_5, r_Desk_put_6, r_Desk_put_8, r_Desk_put_11, r_Desk_put_12, r_Desk_put_15, r_Desk_put_18, r_Desk_put_19, r_Desk_put_20, r_Desk_put_23, r_Desk_put_26, r_Desk_put_27, r_Desk_put_28, r_Desk_put_29, r_Desk_put_30, r_Desk_put_31, r_Desk_put_33, r_Desk_put_35, r_Desk_put_38, r_Desk_put_39, r_Desk_put_42, r_Desk_put_43, r_Desk_put_45, r_Desk_put_47, r_Desk_put_48, r_Desk_put_49, r_Desk_put_50, r_Desk_put_53, r_Desk_put_54, r_Desk_put_57, r_Desk_put_60, r_Desk_put_63, r_Desk_put_64, ai_iload, ai_const, ai_cmplt, ai_cmpgt, ai_aload, ai_getf, ai_iadd, ai_bin, ai_cmple, ai_zret, ai_isub, ai_istore, am_cut_0, am_cut_s, am_c1, ai_iflt, ai_lload, ai_imul, ai_lushr, ai_l2i, ai_iand, ai_callv2, am_push, am_few, ai_iinc, ai_goto, kd_0, fd_0_0, fd_0_1, fd_0_2, fd_0_3, fd_0_4, kd_1, fd_1_0, fd_1_1, ln_2, kd_3, fd_3_0, fd_3_1, fd_3_2, fd_3_3, fd_3_4, fd_3_5, fd_3_6, fd_3_7, fd_3_8, fd_3_9, ln_4, ln_5, ln_6, ln_7, ln_8, ln_9, ln_10, kd_11, fd_11_0, fd_11_1, fd_11_2, fd_11_3, fd_11_4, kd_12, fd_12_0, fd_12_1, fd_12_2, fd_12_3, ln_13, ln_14, ln_15, kd_16, fd_16_0, fd_16_1, fd_16_2, ln_17, kd_18, fd_18_0, fd_18_1, kd_19, fd_19_0, fd_19_1, fd_19_2, fd_19_3, fd_19_4, fd_19_5, fd_19_6, fd_19_7, fd_19_8, fd_19_9, fd_19_10, fd_19_11, fd_19_12, fd_19_13, fd_19_14, fd_19_15, fd_19_16, fd_19_17, fd_19_18, fd_19_19, fd_19_20, ln_20, ln_21, ln_22, ln_23, ln_24, ln_25, ln_26, ln_27, ln_28, ln_29, ln_30, ln_31, ln_32, List.getElem?_cons_zero, List.getElem?_cons_succ, List.set_cons_zero, List.set_cons_succ, true_and, and_true, ↓reduceIte, Int32.reduceLT, Int32.reduceLE, li_10, or_true, true_or, c1, c2, c3]
      simp [c3, b2] at h
      exact h
    refine am_entry hG (by decide +kernel) (Nat.le_of_ble_eq_true rfl) ?_
    refine am_go (cuts := k_Desk_put) (tb_Desk_put (ok_Text_append hG) (by decide)) 400 _ _ _ _ ?_
    change am_run _ _ _ _ _ _ [some (.ref 0), some (.long v), none, some (.int n), none] [] _
    simp only [q_Desk_put_33, r_Desk_put_0, r_Desk_put_1, r_Desk_put_2, r_Desk_put_5, r_Desk_put_6, r_Desk_put_8, r_Desk_put_11, r_Desk_put_12, r_Desk_put_15, r_Desk_put_18, r_Desk_put_19, r_Desk_put_20, r_Desk_put_23, r_Desk_put_26, r_Desk_put_27, r_Desk_put_28, r_Desk_put_29, r_Desk_put_30, r_Desk_put_31, r_Desk_put_33, r_Desk_put_35, r_Desk_put_38, r_Desk_put_39, r_Desk_put_42, r_Desk_put_43, r_Desk_put_45, r_Desk_put_47, r_Desk_put_48, r_Desk_put_49, r_Desk_put_50, r_Desk_put_53, r_Desk_put_54, r_Desk_put_57, r_Desk_put_60, r_Desk_put_63, r_Desk_put_64, ai_iload, ai_const, ai_cmplt, ai_cmpgt, ai_aload, ai_getf, ai_iadd, ai_bin, ai_cmple, ai_zret, ai_isub, ai_istore, am_cut_0, am_cut_s, am_c1, ai_iflt, ai_lload, ai_imul, ai_lushr, ai_l2i, ai_iand, ai_callv2, am_push, am_few, ai_iinc, ai_goto, kd_0, fd_0_0, fd_0_1, fd_0_2, fd_0_3, fd_0_4, kd_1, fd_1_0, fd_1_1, ln_2, kd_3, fd_3_0, fd_3_1, fd_3_2, fd_3_3, fd_3_4, fd_3_5, fd_3_6, fd_3_7, fd_3_8, fd_3_9, ln_4, ln_5, ln_6, ln_7, ln_8, ln_9, ln_10, kd_11, fd_11_0, fd_11_1, fd_11_2, fd_11_3, fd_11_4, kd_12, fd_12_0, fd_12_1, fd_12_2, fd_12_3, ln_13, ln_14, ln_15, kd_16, fd_16_0, fd_16_1, fd_16_2, ln_17, kd_18, fd_18_0, fd_18_1, kd_19, fd_19_0, fd_19_1, fd_19_2, fd_19_3, fd_19_4, fd_19_5, fd_19_6, fd_19_7, fd_19_8, fd_19_9, fd_19_10, fd_19_11, fd_19_12, fd_19_13, fd_19_14, fd_19_15, fd_19_16, fd_19_17, fd_19_18, fd_19_19, fd_19_20, ln_20, ln_21, ln_22, ln_23, ln_24, ln_25, ln_26, ln_27, ln_28, ln_29, ln_30, ln_31, ln_32, List.getElem?_cons_zero, List.getElem?_cons_succ, List.set_cons_zero, List.set_cons_succ, true_and, and_true, ↓reduceIte, Int32.reduceLT, Int32.reduceLE, li_10, or_true, true_or, c1, c2, c3]
    simp only [c1, c2, c3, decide_false, Bool.not_false, Bool.and_self, ↓reduceIte] at h
    have h1 : ¬ n < 0 := fun q => c1 (Int32.lt_trans q (by decide))
    obtain ⟨j, hj, rfl⟩ := nI_of h1
    rw [show cl (nI j) = j from nI_clamp hj] at h
    have h8 : j ≤ 8 := by
      apply Nat.le_of_not_lt
      intro q
      exact c2 (nI_lt (a := 8) q hj)
    have h4 : tl M + j ≤ 400 := by
      apply Nat.le_of_not_lt
      intro q
      apply c3
      rw [ht.1, nI_add]
      exact nI_lt (a := 400) q (by have := ht.2; omega)
    exact lp_Desk_put hG j M ht h4 h
  · cases h
def sh8 (v : Int64) : Int64 := v <<< ((8 : Int32).toInt64 &&& 63)
def d_ft (n : Nat) : Nat → Nat → Int64 → aM → Int64 × aM
  | 0, _, v, M => (v, M)
  | r + 1, k, v, M => if k < n then d_ft n r (k + 1) (sh8 v ||| (M 17 (wf M)).toInt64) (takM M) else d_ft n r (k + 1) (sh8 v ||| (0 : Int32).toInt64) M
def d_fn (M : aM) : Nat := if 7 < ww M then 7 else ww M
def sp_Desk_fetch : aS := fun as M K => match as with
  | [.ref a] => a = 0 ∧ wt_ok M ∧ K (some (.long (d_ft (d_fn M) 7 0 (nI (d_fn M)).toInt64 M).1)) (d_ft (d_fn M) 7 0 (nI (d_fn M)).toInt64 M).2
  | _ => False
theorem takM_ww {M : aM} (h : wt_ok M) : ww (takM M) = ww M - 1 := by
  unfold ww takM
  simp only [am_up_ap, Nat.reduceEqDiff, ↓reduceIte]
  exact nI_clamp (by have := h.2.2.2; omega)
theorem takM_ok {M : aM} (h : wt_ok M) : wt_ok (takM M) := by
  have e1 : wf (takM M) = if wf M + 1 < 500 then wf M + 1 else 0 := by
    show cl (takM M 16 1) = _
    unfold takM
    simp only [am_up_ap, Nat.reduceEqDiff, ↓reduceIte]
    exact nI_clamp (by have := h.2.1; split <;> omega)
  refine ⟨?_, ?_, ?_, ?_⟩
  · rw [e1]; unfold takM; simp only [am_up_ap, Nat.reduceEqDiff, ↓reduceIte]
  · rw [e1]; have := h.2.1; split <;> omega
  · rw [takM_ww h]; unfold takM; simp only [am_up_ap, Nat.reduceEqDiff, ↓reduceIte]
  · rw [takM_ww h]; have := h.2.2.2; omega
set_option maxRecDepth 100000 in
set_option maxHeartbeats 4000000 in
theorem lp_Desk_fetch {G : aG} (hG : am_ok G) {K : aR} {n : Nat} (hn : n ≤ 7) : ∀ (r k : Nat) (v : Int64) (M : aM), k + r = 7 → wt_ok M → n ≤ ww M + k → K (some (.long (d_ft n r k v M).1)) (d_ft n r k v M).2 → am_X G Y_Desk_fetch 1 K 19 [some (.ref 0), some (.int (nI n)), some (.long v), none, some (.int (nI k))] [] M := by
  intro r
  induction r with
  | zero =>
    intro k v M hk hw hm h
    have e1 : ¬ nI k < 7 := nI_nlt (b := 7) (a := k) (by omega) (by omega)
    refine am_from (tb_Desk_fetch (ok_Waiting_take hG) (by decide) (by decide)) k_Desk_fetch 400 ?_
    simp only [q_Desk_fetch_19, r_Desk_fetch_0, r_Desk_fetch_1, r_Desk_fetch_4, r_Desk_fetch_7, r_Desk_fetch_9, r_Desk_fetch_12, r_Desk_fetch_13, r_Desk_fetch_14, r_Desk_fetch_15, r_Desk_fetch_16, r_Desk_fetch_17, r_Desk_fetch_19, r_Desk_fetch_21, r_Desk_fetch_23, r_Desk_fetch_26, r_Desk_fetch_27, r_Desk_fetch_29, r_Desk_fetch_30, r_Desk_fetch_32, r_Desk_fetch_33, r_Desk_fetch_36, r_Desk_fetch_37, r_Desk_fetch_40, r_Desk_fetch_43, r_Desk_fetch_46, r_Desk_fetch_47, r_Desk_fetch_48, r_Desk_fetch_49, r_Desk_fetch_50, r_Desk_fetch_53, r_Desk_fetch_56, r_Desk_fetch_57, ai_aload, ai_getf, ai_const, ai_min, am_few, ai_istore, am_cut_0, am_cut_s, am_c1, ai_iload, ai_i2l, ai_lstore, ai_cmpge, ai_lload, ai_lshl, ai_callv1, am_push, ai_goto, ai_lor, ai_lbin, ai_iinc, ai_lret, kd_0, fd_0_0, fd_0_1, fd_0_2, fd_0_3, fd_0_4, kd_1, fd_1_0, fd_1_1, ln_2, kd_3, fd_3_0, fd_3_1, fd_3_2, fd_3_3, fd_3_4, fd_3_5, fd_3_6, fd_3_7, fd_3_8, fd_3_9, ln_4, ln_5, ln_6, ln_7, ln_8, ln_9, ln_10, kd_11, fd_11_0, fd_11_1, fd_11_2, fd_11_3, fd_11_4, kd_12, fd_12_0, fd_12_1, fd_12_2, fd_12_3, ln_13, ln_14, ln_15, kd_16, fd_16_0, fd_16_1, fd_16_2, ln_17, kd_18, fd_18_0, fd_18_1, kd_19, fd_19_0, fd_19_1, fd_19_2, fd_19_3, fd_19_4, fd_19_5, fd_19_6, fd_19_7, fd_19_8, fd_19_9, fd_19_10, fd_19_11, fd_19_12, fd_19_13, fd_19_14, fd_19_15, fd_19_16, fd_19_17, fd_19_18, fd_19_19, fd_19_20, ln_20, ln_21, ln_22, ln_23, ln_24, ln_25, ln_26, ln_27, ln_28, ln_29, ln_30, ln_31, ln_32, List.getElem?_cons_zero, List.getElem?_cons_succ, List.set_cons_zero, List.set_cons_succ, true_and, and_true, ↓reduceIte, Int32.reduceLT, Int32.reduceLE, li_10, or_true, true_or, e1]
    exact h
  | succ r ih =>
    intro k v M hk hw hm h
    have e1 : nI k < 7 := nI_lt (b := 7) (by omega) (by decide)
    simp only [d_ft] at h
    by_cases c : k < n
    · rw [if_pos c] at h
      have e2 : nI k < nI n := nI_lt c (by omega)
      have e3 : 0 < ww M := by omega
      refine am_from (tb_Desk_fetch (ok_Waiting_take hG) (by decide) (by decide)) k_Desk_fetch 400 ?_
      simp only [q_Desk_fetch_19, r_Desk_fetch_0, r_Desk_fetch_1, r_Desk_fetch_4, r_Desk_fetch_7, r_Desk_fetch_9, r_Desk_fetch_12, r_Desk_fetch_13, r_Desk_fetch_14, r_Desk_fetch_15, r_Desk_fetch_16, r_Desk_fetch_17, r_Desk_fetch_19, r_Desk_fetch_21, r_Desk_fetch_23, r_Desk_fetch_26, r_Desk_fetch_27, r_Desk_fetch_29, r_Desk_fetch_30, r_Desk_fetch_32, r_Desk_fetch_33, r_Desk_fetch_36, r_Desk_fetch_37, r_Desk_fetch_40, r_Desk_fetch_43, r_Desk_fetch_46, r_Desk_fetch_47, r_Desk_fetch_48, r_Desk_fetch_49, r_Desk_fetch_50, r_Desk_fetch_53, r_Desk_fetch_56, r_Desk_fetch_57, ai_aload, ai_getf, ai_const, ai_min, am_few, ai_istore, am_cut_0, am_cut_s, am_c1, ai_iload, ai_i2l, ai_lstore, ai_cmpge, ai_lload, ai_lshl, ai_callv1, am_push, ai_goto, ai_lor, ai_lbin, ai_iinc, ai_lret, kd_0, fd_0_0, fd_0_1, fd_0_2, fd_0_3, fd_0_4, kd_1, fd_1_0, fd_1_1, ln_2, kd_3, fd_3_0, fd_3_1, fd_3_2, fd_3_3, fd_3_4, fd_3_5, fd_3_6, fd_3_7, fd_3_8, fd_3_9, ln_4, ln_5, ln_6, ln_7, ln_8, ln_9, ln_10, kd_11, fd_11_0, fd_11_1, fd_11_2, fd_11_3, fd_11_4, kd_12, fd_12_0, fd_12_1, fd_12_2, fd_12_3, ln_13, ln_14, ln_15, kd_16, fd_16_0, fd_16_1, fd_16_2, ln_17, kd_18, fd_18_0, fd_18_1, kd_19, fd_19_0, fd_19_1, fd_19_2, fd_19_3, fd_19_4, fd_19_5, fd_19_6, fd_19_7, fd_19_8, fd_19_9, fd_19_10, fd_19_11, fd_19_12, fd_19_13, fd_19_14, fd_19_15, fd_19_16, fd_19_17, fd_19_18, fd_19_19, fd_19_20, ln_20, ln_21, ln_22, ln_23, ln_24, ln_25, ln_26, ln_27, ln_28, ln_29, ln_30, ln_31, ln_32, List.getElem?_cons_zero, List.getElem?_cons_succ, List.set_cons_zero, List.set_cons_succ, true_and, and_true, ↓reduceIte, Int32.reduceLT, Int32.reduceLE, li_10, or_true, true_or, ↓sp_Waiting_take, e1, e2, hw, e3, nI_1]
      exact ih (k + 1) _ _ (by omega) (takM_ok hw) (by rw [takM_ww hw]; omega) h
    · rw [if_neg c] at h
      have e2 : ¬ nI k < nI n := nI_nlt (by omega) (by omega)
      refine am_from (tb_Desk_fetch (ok_Waiting_take hG) (by decide) (by decide)) k_Desk_fetch 400 ?_
      simp only [q_Desk_fetch_19, r_Desk_fetch_0, r_Desk_fetch_1, r_Desk_fetch_4, r_Desk_fetch_7, r_Desk_fetch_9, r_Desk_fetch_12, r_Desk_fetch_13, r_Desk_fetch_14, r_Desk_fetch_15, r_Desk_fetch_16, r_Desk_fetch_17, r_Desk_fetch_19, r_Desk_fetch_21, r_Desk_fetch_23, r_Desk_fetch_26, r_Desk_fetch_27, r_Desk_fetch_29, r_Desk_fetch_30, r_Desk_fetch_32, r_Desk_fetch_33, r_Desk_fetch_36, r_Desk_fetch_37, r_Desk_fetch_40, r_Desk_fetch_43, r_Desk_fetch_46, r_Desk_fetch_47, r_Desk_fetch_48, r_Desk_fetch_49, r_Desk_fetch_50, r_Desk_fetch_53, r_Desk_fetch_56, r_Desk_fetch_57, ai_aload, ai_getf, ai_const, ai_min, am_few, ai_istore, am_cut_0, am_cut_s, am_c1, ai_iload, ai_i2l, ai_lstore, ai_cmpge, ai_lload, ai_lshl, ai_callv1, am_push, ai_goto, ai_lor, ai_lbin, ai_iinc, ai_lret, kd_0, fd_0_0, fd_0_1, fd_0_2, fd_0_3, fd_0_4, kd_1, fd_1_0, fd_1_1, ln_2, kd_3, fd_3_0, fd_3_1, fd_3_2, fd_3_3, fd_3_4, fd_3_5, fd_3_6, fd_3_7, fd_3_8, fd_3_9, ln_4, ln_5, ln_6, ln_7, ln_8, ln_9, ln_10, kd_11, fd_11_0, fd_11_1, fd_11_2, fd_11_3, fd_11_4, kd_12, fd_12_0, fd_12_1, fd_12_2, fd_12_3, ln_13, ln_14, ln_15, kd_16, fd_16_0, fd_16_1, fd_16_2, ln_17, kd_18, fd_18_0, fd_18_1, kd_19, fd_19_0, fd_19_1, fd_19_2, fd_19_3, fd_19_4, fd_19_5, fd_19_6, fd_19_7, fd_19_8, fd_19_9, fd_19_10, fd_19_11, fd_19_12, fd_19_13, fd_19_14, fd_19_15, fd_19_16, fd_19_17, fd_19_18, fd_19_19, fd_19_20, ln_20, ln_21, ln_22, ln_23, ln_24, ln_25, ln_26, ln_27, ln_28, ln_29, ln_30, ln_31, ln_32, List.getElem?_cons_zero, List.getElem?_cons_succ, List.set_cons_zero, List.set_cons_succ, true_and, and_true, ↓reduceIte, Int32.reduceLT, Int32.reduceLE, li_10, or_true, true_or, e1, e2, nI_1]
      exact ih (k + 1) _ _ (by omega) hw (by omega) h
set_option maxRecDepth 100000 in
set_option maxHeartbeats 4000000 in
theorem ok_Desk_fetch {G : aG} (hG : am_ok G) : am_Sp G Y_Desk_fetch 1 sp_Desk_fetch := by
  intro as M K h
  unfold sp_Desk_fetch at h
  split at h
  · next a =>
    obtain ⟨rfl, hw, h⟩ := h
    have h7 : d_fn M ≤ 7 ∧ d_fn M ≤ ww M := by unfold d_fn; split <;> omega
    have ew : 7 < M 16 2 ↔ 7 < ww M := by rw [hw.2.2.1]; exact nI_ltI (a := 7) (by decide) (by have := hw.2.2.2; omega)
    by_cases c : 7 < M 16 2
    · refine am_entry hG (by decide +kernel) (Nat.le_of_ble_eq_true rfl) ?_
      refine am_go (cuts := k_Desk_fetch) (tb_Desk_fetch (ok_Waiting_take hG) (by decide) (by decide)) 400 _ _ _ _ ?_
      change am_run _ _ _ _ _ _ [some (.ref 0), none, none, none, none] [] _
      simp only [q_Desk_fetch_19, r_Desk_fetch_0, r_Desk_fetch_1, r_Desk_fetch_4, r_Desk_fetch_7, r_Desk_fetch_9, r_Desk_fetch_12, r_Desk_fetch_13, r_Desk_fetch_14, r_Desk_fetch_15, r_Desk_fetch_16, r_Desk_fetch_17, r_Desk_fetch_19, r_Desk_fetch_21, r_Desk_fetch_23, r_Desk_fetch_26, r_Desk_fetch_27, r_Desk_fetch_29, r_Desk_fetch_30, r_Desk_fetch_32, r_Desk_fetch_33, r_Desk_fetch_36, r_Desk_fetch_37, r_Desk_fetch_40, r_Desk_fetch_43, r_Desk_fetch_46, r_Desk_fetch_47, r_Desk_fetch_48, r_Desk_fetch_49, r_Desk_fetch_50, r_Desk_fetch_53, r_Desk_fetch_56, r_Desk_fetch_57, ai_aload, ai_getf, ai_const, ai_min, am_few, ai_istore, am_cut_0, am_cut_s, am_c1, ai_iload, ai_i2l, ai_lstore, ai_cmpge, ai_lload, ai_lshl, ai_callv1, am_push, ai_goto, ai_lor, ai_lbin, ai_iinc, ai_lret, kd_0, fd_0_0, fd_0_1, fd_0_2, fd_0_3, fd_0_4, kd_1, fd_1_0, fd_1_1, ln_2, kd_3, fd_3_0, fd_3_1, fd_3_2, fd_3_3, fd_3_4, fd_3_5, fd_3_6, fd_3_7, fd_3_8, fd_3_9, ln_4, ln_5, ln_6, ln_7, ln_8, ln_9, ln_10, kd_11, fd_11_0, fd_11_1, fd_11_2, fd_11_3, fd_11_4, kd_12, fd_12_0, fd_12_1, fd_12_2, fd_12_3, ln_13, ln_14, ln_15, kd_16, fd_16_0, fd_16_1, fd_16_2, ln_17, kd_18, fd_18_0, fd_18_1, kd_19, fd_19_0, fd_19_1, fd_19_2, fd_19_3, fd_19_4, fd_19_5, fd_19_6, fd_19_7, fd_19_8, fd_19_9, fd_19_10, fd_19_11, fd_19_12, fd_19_13, fd_19_14, fd_19_15, fd_19_16, fd_19_17, fd_19_18, fd_19_19, fd_19_20, ln_20, ln_21, ln_22, ln_23, ln_24, ln_25, ln_26, ln_27, ln_28, ln_29, ln_30, ln_31, ln_32, List.getElem?_cons_zero, List.getElem?_cons_succ, List.set_cons_zero, List.set_cons_succ, true_and, and_true, ↓reduceIte, Int32.reduceLT, Int32.reduceLE, li_10, or_true, true_or, c]
      have e : d_fn M = 7 := by unfold d_fn; rw [if_pos (ew.mp c)]
      rw [e] at h h7
      exact lp_Desk_fetch hG (n := 7) (by omega) 7 0 _ M rfl hw (by omega) h
    · refine am_entry hG (by decide +kernel) (Nat.le_of_ble_eq_true rfl) ?_
      refine am_go (cuts := k_Desk_fetch) (tb_Desk_fetch (ok_Waiting_take hG) (by decide) (by decide)) 400 _ _ _ _ ?_
      change am_run _ _ _ _ _ _ [some (.ref 0), none, none, none, none] [] _
      simp only [q_Desk_fetch_19, r_Desk_fetch_0, r_Desk_fetch_1, r_Desk_fetch_4, r_Desk_fetch_7, r_Desk_fetch_9, r_Desk_fetch_12, r_Desk_fetch_13, r_Desk_fetch_14, r_Desk_fetch_15, r_Desk_fetch_16, r_Desk_fetch_17, r_Desk_fetch_19, r_Desk_fetch_21, r_Desk_fetch_23, r_Desk_fetch_26, r_Desk_fetch_27, r_Desk_fetch_29, r_Desk_fetch_30, r_Desk_fetch_32, r_Desk_fetch_33, r_Desk_fetch_36, r_Desk_fetch_37, r_Desk_fetch_40, r_Desk_fetch_43, r_Desk_fetch_46, r_Desk_fetch_47, r_Desk_fetch_48, r_Desk_fetch_49, r_Desk_fetch_50, r_Desk_fetch_53, r_Desk_fetch_56, r_Desk_fetch_57, ai_aload, ai_getf, ai_const, ai_min, am_few, ai_istore, am_cut_0, am_cut_s, am_c1, ai_iload, ai_i2l, ai_lstore, ai_cmpge, ai_lload, ai_lshl, ai_callv1, am_push, ai_goto, ai_lor, ai_lbin, ai_iinc, ai_lret, kd_0, fd_0_0, fd_0_1, fd_0_2, fd_0_3, fd_0_4, kd_1, fd_1_0, fd_1_1, ln_2, kd_3, fd_3_0, fd_3_1, fd_3_2, fd_3_3, fd_3_4, fd_3_5, fd_3_6, fd_3_7, fd_3_8, fd_3_9, ln_4, ln_5, ln_6, ln_7, ln_8, ln_9, ln_10, kd_11, fd_11_0, fd_11_1, fd_11_2, fd_11_3, fd_11_4, kd_12, fd_12_0, fd_12_1, fd_12_2, fd_12_3, ln_13, ln_14, ln_15, kd_16, fd_16_0, fd_16_1, fd_16_2, ln_17, kd_18, fd_18_0, fd_18_1, kd_19, fd_19_0, fd_19_1, fd_19_2, fd_19_3, fd_19_4, fd_19_5, fd_19_6, fd_19_7, fd_19_8, fd_19_9, fd_19_10, fd_19_11, fd_19_12, fd_19_13, fd_19_14, fd_19_15, fd_19_16, fd_19_17, fd_19_18, fd_19_19, fd_19_20, ln_20, ln_21, ln_22, ln_23, ln_24, ln_25, ln_26, ln_27, ln_28, ln_29, ln_30, ln_31, ln_32, List.getElem?_cons_zero, List.getElem?_cons_succ, List.set_cons_zero, List.set_cons_succ, true_and, and_true, ↓reduceIte, Int32.reduceLT, Int32.reduceLE, li_10, or_true, true_or, c]
      have e : d_fn M = ww M := by unfold d_fn; rw [if_neg (fun q => c (ew.mpr q))]
      rw [e] at h h7
      rw [hw.2.2.1]
      exact lp_Desk_fetch hG (n := ww M) (by omega) 7 0 _ M rfl hw (by omega) h
  · cases h
