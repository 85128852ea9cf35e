/-! READING A TEXT, and the desk's own methods -/
def rdL : Nat → aM → aM
  | 0, M => M
  | r + 1, M => if tkS M = 10 then M else if (rdD 15 M).1 = -1 then clrM (rdD 15 M).2 else rdL r (r_nx (n_addD (rdD 15 M).2 (rdD 15 M).1))
def rd0 (M : aM) : aM := am_up (am_up (scanM (clrM M) 401 0 0 (am_up (clrM M) 12 3 0)) 11 4 (-1)) 11 3 0
def rdT (M : aM) : aM := rdL 401 (rd0 M)
def sp_Reader_readText : aS := fun as M K => match as with
  | [.ref a] => a = 11 ∧ tx_ok M ∧ K none (rdT M)
  | _ => False
set_option maxRecDepth 100000 in
set_option maxHeartbeats 4000000 in
theorem lp_Reader_readText {G : aG} (hG : am_ok G) {K : aR} : ∀ (r k : Nat) (M : aM) (o2 : Option Value), k + r = 401 → K none (rdL r M) → am_X G Y_Reader_readText 50 K 30 [some (.ref 11), some (.int (nI k)), o2] [] M := by
  intro r
  have e0 : ((0 : Int32) = nI (15 - 15)) = True := eq_true rfl
  have e5 : (15 ≤ 15) = True := eq_true (Nat.le_refl 15)
  induction r with
  | zero =>
    intro k M o2 hk h
    have e1 : 400 < nI k := by
      have : k = 401 := by omega
      subst this; decide
    refine am_from (tb_Reader_readText (ok_Nodes_clear hG) (by decide) (ok_Tokens_scan hG) (by decide) (ok_Tokens_sortOf hG) (by decide) (ok_Reader_readDatum hG 15) (by decide) (ok_Nodes_addDatum hG) (by decide)) k_Reader_readText 400 ?_
    simp only [q_Reader_readText_30, r_Reader_readText_0, r_Reader_readText_1, r_Reader_readText_4, r_Reader_readText_7, r_Reader_readText_8, r_Reader_readText_11, r_Reader_readText_12, r_Reader_readText_15, r_Reader_readText_18, r_Reader_readText_19, r_Reader_readText_20, r_Reader_readText_23, r_Reader_readText_24, r_Reader_readText_25, r_Reader_readText_28, r_Reader_readText_29, r_Reader_readText_30, r_Reader_readText_31, r_Reader_readText_34, r_Reader_readText_37, r_Reader_readText_38, r_Reader_readText_41, r_Reader_readText_42, r_Reader_readText_45, r_Reader_readText_48, r_Reader_readText_50, r_Reader_readText_53, r_Reader_readText_54, r_Reader_readText_55, r_Reader_readText_58, r_Reader_readText_59, r_Reader_readText_60, r_Reader_readText_61, r_Reader_readText_64, r_Reader_readText_65, r_Reader_readText_68, r_Reader_readText_71, r_Reader_readText_72, r_Reader_readText_73, r_Reader_readText_76, r_Reader_readText_77, r_Reader_readText_80, r_Reader_readText_81, r_Reader_readText_82, r_Reader_readText_85, r_Reader_readText_86, r_Reader_readText_87, r_Reader_readText_90, r_Reader_readText_93, r_Reader_readText_96, ai_aload, ai_getf, ai_callv1, am_push, am_few, ai_callv2, ai_const, ai_putf, ai_istore, am_cut_0, am_cut_s, am_c1, ai_iload, ai_cmpgt, ai_cmpeq, ai_cmpne, ai_vret, ai_dup, ai_iadd, ai_bin, ai_iinc, ai_goto, kd_0, fd_0_0, fd_0_1, fd_0_2, fd_0_3, fd_0_4, kd_1, fd_1_0, fd_1_1, ln_2, kd_3, fd_3_0, fd_3_1, fd_3_2, fd_3_3, fd_3_4, fd_3_5, fd_3_6, fd_3_7, fd_3_8, fd_3_9, ln_4, ln_5, ln_6, ln_7, ln_8, ln_9, ln_10, kd_11, fd_11_0, fd_11_1, fd_11_2, fd_11_3, fd_11_4, kd_12, fd_12_0, fd_12_1, fd_12_2, fd_12_3, ln_13, ln_14, ln_15, kd_16, fd_16_0, fd_16_1, fd_16_2, ln_17, kd_18, fd_18_0, fd_18_1, kd_19, fd_19_0, fd_19_1, fd_19_2, fd_19_3, fd_19_4, fd_19_5, fd_19_6, fd_19_7, fd_19_8, fd_19_9, fd_19_10, fd_19_11, fd_19_12, fd_19_13, fd_19_14, fd_19_15, fd_19_16, fd_19_17, fd_19_18, fd_19_19, fd_19_20, ln_20, ln_21, ln_22, ln_23, ln_24, ln_25, ln_26, ln_27, ln_28, ln_29, ln_30, ln_31, ln_32, List.getElem?_cons_zero, List.getElem?_cons_succ, List.set_cons_zero, List.set_cons_succ, true_and, and_true, ↓reduceIte, Int32.reduceLT, Int32.reduceLE, li_10, or_true, true_or, e1]
    exact h
  | succ r ih =>
    intro k M o2 hk h
    have e1 : ¬ 400 < nI k := by
      have h1 : nI k < 401 := nI_lt (b := 401) (by omega) (by decide)
      intro q
      rw [Int32.lt_iff_toInt_lt] at h1 q
      have e1 : (400 : Int32).toInt = 400 := rfl
      have e2 : (401 : Int32).toInt = 401 := rfl
      omega
    simp only [rdL] at h
    by_cases c1 : tkS M = 10
    · rw [if_pos c1] at h
      have c1' : (tkS M = 10) = True := eq_true c1
      refine am_from (tb_Reader_readText (ok_Nodes_clear hG) (by decide) (ok_Tokens_scan hG) (by decide) (ok_Tokens_sortOf hG) (by decide) (ok_Reader_readDatum hG 15) (by decide) (ok_Nodes_addDatum hG) (by decide)) k_Reader_readText 400 ?_
      simp only [q_Reader_readText_30, r_Reader_readText_0, r_Reader_readText_1, r_Reader_readText_4, r_Reader_readText_7, r_Reader_readText_8, r_Reader_readText_11, r_Reader_readText_12, r_Reader_readText_15, r_Reader_readText_18, r_Reader_readText_19, r_Reader_readText_20, r_Reader_readText_23, r_Reader_readText_24, r_Reader_readText_25, r_Reader_readText_28, r_Reader_readText_29, r_Reader_readText_30, r_Reader_readText_31, r_Reader_readText_34, r_Reader_readText_37, r_Reader_readText_38, r_Reader_readText_41, r_Reader_readText_42, r_Reader_readText_45, r_Reader_readText_48, r_Reader_readText_50, r_Reader_readText_53, r_Reader_readText_54, r_Reader_readText_55, r_Reader_readText_58, r_Reader_readText_59, r_Reader_readText_60, r_Reader_readText_61, r_Reader_readText_64, r_Reader_readText_65, r_Reader_readText_68, r_Reader_readText_71, r_Reader_readText_72, r_Reader_readText_73, r_Reader_readText_76, r_Reader_readText_77, r_Reader_readText_80, r_Reader_readText_81, r_Reader_readText_82, r_Reader_readText_85, r_Reader_readText_86, r_Reader_readText_87, r_Reader_readText_90, r_Reader_readText_93, r_Reader_readText_96, ai_aload, ai_getf, ai_callv1, am_push, am_few, ai_callv2, ai_const, ai_putf, ai_istore, am_cut_0, am_cut_s, am_c1, ai_iload, ai_cmpgt, ai_cmpeq, ai_cmpne, ai_vret, ai_dup, ai_iadd, ai_bin, ai_iinc, ai_goto, kd_0, fd_0_0, fd_0_1, fd_0_2, fd_0_3, fd_0_4, kd_1, fd_1_0, fd_1_1, ln_2, kd_3, fd_3_0, fd_3_1, fd_3_2, fd_3_3, fd_3_4, fd_3_5, fd_3_6, fd_3_7, fd_3_8, fd_3_9, ln_4, ln_5, ln_6, ln_7, ln_8, ln_9, ln_10, kd_11, fd_11_0, fd_11_1, fd_11_2, fd_11_3, fd_11_4, kd_12, fd_12_0, fd_12_1, fd_12_2, fd_12_3, ln_13, ln_14, ln_15, kd_16, fd_16_0, fd_16_1, fd_16_2, ln_17, kd_18, fd_18_0, fd_18_1, kd_19, fd_19_0, fd_19_1, fd_19_2, fd_19_3, fd_19_4, fd_19_5, fd_19_6, fd_19_7, fd_19_8, fd_19_9, fd_19_10, fd_19_11, fd_19_12, fd_19_13, fd_19_14, fd_19_15, fd_19_16, fd_19_17, fd_19_18, fd_19_19, fd_19_20, ln_20, ln_21, ln_22, ln_23, ln_24, ln_25, ln_26, ln_27, ln_28, ln_29, ln_30, ln_31, ln_32, List.getElem?_cons_zero, List.getElem?_cons_succ, List.set_cons_zero, List.set_cons_succ, true_and, and_true, ↓reduceIte, Int32.reduceLT, Int32.reduceLE, li_10, or_true, true_or, ↓sp_Tokens_sortOf, e1, f_tkS, c1']
      exact h
    · rw [if_neg c1] at h
      by_cases c2 : (rdD 15 M).1 = -1
      · rw [if_pos c2] at h
        have c2' : ((rdD 15 M).1 = -1) = True := eq_true c2
        refine am_from (tb_Reader_readText (ok_Nodes_clear hG) (by decide) (ok_Tokens_scan hG) (by decide) (ok_Tokens_sortOf hG) (by decide) (ok_Reader_readDatum hG 15) (by decide) (ok_Nodes_addDatum hG) (by decide)) k_Reader_readText 400 ?_
        simp only [q_Reader_readText_30, r_Reader_readText_0, r_Reader_readText_1, r_Reader_readText_4, r_Reader_readText_7, r_Reader_readText_8, r_Reader_readText_11, r_Reader_readText_12, r_Reader_readText_15, r_Reader_readText_18, r_Reader_readText_19, r_Reader_readText_20, r_Reader_readText_23, r_Reader_readText_24, r_Reader_readText_25, r_Reader_readText_28, r_Reader_readText_29, r_Reader_readText_30, r_Reader_readText_31, r_Reader_readText_34, r_Reader_readText_37, r_Reader_readText_38, r_Reader_readText_41, r_Reader_readText_42, r_Reader_readText_45, r_Reader_readText_48, r_Reader_readText_50, r_Reader_readText_53, r_Reader_readText_54, r_Reader_readText_55, r_Reader_readText_58, r_Reader_readText_59, r_Reader_readText_60, r_Reader_readText_61, r_Reader_readText_64, r_Reader_readText_65, r_Reader_readText_68, r_Reader_readText_71, r_Reader_readText_72, r_Reader_readText_73, r_Reader_readText_76, r_Reader_readText_77, r_Reader_readText_80, r_Reader_readText_81, r_Reader_readText_82, r_Reader_readText_85, r_Reader_readText_86, r_Reader_readText_87, r_Reader_readText_90, r_Reader_readText_93, r_Reader_readText_96, ai_aload, ai_getf, ai_callv1, am_push, am_few, ai_callv2, ai_const, ai_putf, ai_istore, am_cut_0, am_cut_s, am_c1, ai_iload, ai_cmpgt, ai_cmpeq, ai_cmpne, ai_vret, ai_dup, ai_iadd, ai_bin, ai_iinc, ai_goto, kd_0, fd_0_0, fd_0_1, fd_0_2, fd_0_3, fd_0_4, kd_1, fd_1_0, fd_1_1, ln_2, kd_3, fd_3_0, fd_3_1, fd_3_2, fd_3_3, fd_3_4, fd_3_5, fd_3_6, fd_3_7, fd_3_8, fd_3_9, ln_4, ln_5, ln_6, ln_7, ln_8, ln_9, ln_10, kd_11, fd_11_0, fd_11_1, fd_11_2, fd_11_3, fd_11_4, kd_12, fd_12_0, fd_12_1, fd_12_2, fd_12_3, ln_13, ln_14, ln_15, kd_16, fd_16_0, fd_16_1, fd_16_2, ln_17, kd_18, fd_18_0, fd_18_1, kd_19, fd_19_0, fd_19_1, fd_19_2, fd_19_3, fd_19_4, fd_19_5, fd_19_6, fd_19_7, fd_19_8, fd_19_9, fd_19_10, fd_19_11, fd_19_12, fd_19_13, fd_19_14, fd_19_15, fd_19_16, fd_19_17, fd_19_18, fd_19_19, fd_19_20, ln_20, ln_21, ln_22, ln_23, ln_24, ln_25, ln_26, ln_27, ln_28, ln_29, ln_30, ln_31, ln_32, List.getElem?_cons_zero, List.getElem?_cons_succ, List.set_cons_zero, List.set_cons_succ, true_and, and_true, ↓reduceIte, Int32.reduceLT, Int32.reduceLE, li_10, or_true, true_or, ↓sp_Tokens_sortOf, ↓sp_Reader_readDatum, ↓sp_Nodes_clear, e1, f_tkS, c1, e0, e5, c2']
        exact h
      · rw [if_neg c2] at h
        refine am_from (tb_Reader_readText (ok_Nodes_clear hG) (by decide) (ok_Tokens_scan hG) (by decide) (ok_Tokens_sortOf hG) (by decide) (ok_Reader_readDatum hG 15) (by decide) (ok_Nodes_addDatum hG) (by decide)) k_Reader_readText 400 ?_
        simp only [q_Reader_readText_30, r_Reader_readText_0, r_Reader_readText_1, r_Reader_readText_4, r_Reader_readText_7, r_Reader_readText_8, r_Reader_readText_11, r_Reader_readText_12, r_Reader_readText_15, r_Reader_readText_18, r_Reader_readText_19, r_Reader_readText_20, r_Reader_readText_23, r_Reader_readText_24, r_Reader_readText_25, r_Reader_readText_28, r_Reader_readText_29, r_Reader_readText_30, r_Reader_readText_31, r_Reader_readText_34, r_Reader_readText_37, r_Reader_readText_38, r_Reader_readText_41, r_Reader_readText_42, r_Reader_readText_45, r_Reader_readText_48, r_Reader_readText_50, r_Reader_readText_53, r_Reader_readText_54, r_Reader_readText_55, r_Reader_readText_58, r_Reader_readText_59, r_Reader_readText_60, r_Reader_readText_61, r_Reader_readText_64, r_Reader_readText_65, r_Reader_readText_68, r_Reader_readText_71, r_Reader_readText_72, r_Reader_readText_73, r_Reader_readText_76, r_Reader_readText_77, r_Reader_readText_80, r_Reader_readText_81, r_Reader_readText_82, r_Reader_readText_85, r_Reader_readText_86, r_Reader_readText_87, r_Reader_readText_90, r_Reader_readText_93, r_Reader_readText_96, ai_aload, ai_getf, ai_callv1, am_push, am_few, ai_callv2, ai_const, ai_putf, ai_istore, am_cut_0, am_cut_s, am_c1, ai_iload, ai_cmpgt, ai_cmpeq, ai_cmpne, ai_vret, ai_dup, ai_iadd, ai_bin, ai_iinc, ai_goto, kd_0, fd_0_0, fd_0_1, fd_0_2, fd_0_3, fd_0_4, kd_1, fd_1_0, fd_1_1, ln_2, kd_3, fd_3_0, fd_3_1, fd_3_2, fd_3_3, fd_3_4, fd_3_5, fd_3_6, fd_3_7, fd_3_8, fd_3_9, ln_4, ln_5, ln_6, ln_7, ln_8, ln_9, ln_10, kd_11, fd_11_0, fd_11_1, fd_11_2, fd_11_3, fd_11_4, kd_12, fd_12_0, fd_12_1, fd_12_2, fd_12_3, ln_13, ln_14, ln_15, kd_16, fd_16_0, fd_16_1, fd_16_2, ln_17, kd_18, fd_18_0, fd_18_1, kd_19, fd_19_0, fd_19_1, fd_19_2, fd_19_3, fd_19_4, fd_19_5, fd_19_6, fd_19_7, fd_19_8, fd_19_9, fd_19_10, fd_19_11, fd_19_12, fd_19_13, fd_19_14, fd_19_15, fd_19_16, fd_19_17, fd_19_18, fd_19_19, fd_19_20, ln_20, ln_21, ln_22, ln_23, ln_24, ln_25, ln_26, ln_27, ln_28, ln_29, ln_30, ln_31, ln_32, List.getElem?_cons_zero, List.getElem?_cons_succ, List.set_cons_zero, List.set_cons_succ, true_and, and_true, ↓reduceIte, Int32.reduceLT, Int32.reduceLE, li_10, or_true, true_or, ↓sp_Tokens_sortOf, ↓sp_Reader_readDatum, ↓sp_Nodes_addDatum, e1, f_tkS, c1, e0, e5, c2, f_nx, nI_1]
        exact ih (k + 1) _ _ (by omega) h
set_option maxRecDepth 100000 in
set_option maxHeartbeats 4000000 in
theorem ok_Reader_readText {G : aG} (hG : am_ok G) : am_Sp G Y_Reader_readText 50 sp_Reader_readText := by
  intro as M K h
  unfold sp_Reader_readText at h
  split at h
  · next a =>
    obtain ⟨rfl, ht, h⟩ := h
    have ht2 : tx_ok (clrM M) := ht
    refine am_entry hG (by decide +kernel) (Nat.le_of_ble_eq_true rfl) ?_
    refine am_go (cuts := k_Reader_readText) (tb_Reader_readText (ok_Nodes_clear hG) (by decide) (ok_Tokens_scan hG) (by decide) (ok_Tokens_sortOf hG) (by decide) (ok_Reader_readDatum hG 15) (by decide) (ok_Nodes_addDatum hG) (by decide)) 400 _ _ _ _ ?_
    change am_run _ _ _ _ _ _ [some (.ref 11), none, none] [] _
    simp only [q_Reader_readText_30, r_Reader_readText_0, r_Reader_readText_1, r_Reader_readText_4, r_Reader_readText_7, r_Reader_readText_8, r_Reader_readText_11, r_Reader_readText_12, r_Reader_readText_15, r_Reader_readText_18, r_Reader_readText_19, r_Reader_readText_20, r_Reader_readText_23, r_Reader_readText_24, r_Reader_readText_25, r_Reader_readText_28, r_Reader_readText_29, r_Reader_readText_30, r_Reader_readText_31, r_Reader_readText_34, r_Reader_readText_37, r_Reader_readText_38, r_Reader_readText_41, r_Reader_readText_42, r_Reader_readText_45, r_Reader_readText_48, r_Reader_readText_50, r_Reader_readText_53, r_Reader_readText_54, r_Reader_readText_55, r_Reader_readText_58, r_Reader_readText_59, r_Reader_readText_60, r_Reader_readText_61, r_Reader_readText_64, r_Reader_readText_65, r_Reader_readText_68, r_Reader_readText_71, r_Reader_readText_72, r_Reader_readText_73, r_Reader_readText_76, r_Reader_readText_77, r_Reader_readText_80, r_Reader_readText_81, r_Reader_readText_82, r_Reader_readText_85, r_Reader_readText_86, r_Reader_readText_87, r_Reader_readText_90, r_Reader_readText_93, r_Reader_readText_96, ai_aload, ai_getf, ai_callv1, am_push, am_few, ai_callv2, ai_const, ai_putf, ai_istore, am_cut_0, am_cut_s, am_c1, ai_iload, ai_cmpgt, ai_cmpeq, ai_cmpne, ai_vret, ai_dup, ai_iadd, ai_bin, ai_iinc, ai_goto, kd_0, fd_0_0, fd_0_1, fd_0_2, fd_0_3, fd_0_4, kd_1, fd_1_0, fd_1_1, ln_2, kd_3, fd_3_0, fd_3_1, fd_3_2, fd_3_3, fd_3_4, fd_3_5, fd_3_6, fd_3_7, fd_3_8, fd_3_9, ln_4, ln_5, ln_6, ln_7, ln_8, ln_9, ln_10, kd_11, fd_11_0, fd_11_1, fd_11_2, fd_11_3, fd_11_4, kd_12, fd_12_0, fd_12_1, fd_12_2, fd_12_3, ln_13, ln_14, ln_15, kd_16, fd_16_0, fd_16_1, fd_16_2, ln_17, kd_18, fd_18_0, fd_18_1, kd_19, fd_19_0, fd_19_1, fd_19_2, fd_19_3, fd_19_4, fd_19_5, fd_19_6, fd_19_7, fd_19_8, fd_19_9, fd_19_10, fd_19_11, fd_19_12, fd_19_13, fd_19_14, fd_19_15, fd_19_16, fd_19_17, fd_19_18, fd_19_19, fd_19_20, ln_20, ln_21, ln_22, ln_23, ln_24, ln_25, ln_26, ln_27, ln_28, ln_29, ln_30, ln_31, ln_32, List.getElem?_cons_zero, List.getElem?_cons_succ, List.set_cons_zero, List.set_cons_succ, true_and, and_true, ↓reduceIte, Int32.reduceLT, Int32.reduceLE, li_10, or_true, true_or, ↓sp_Nodes_clear, ↓sp_Tokens_scan, ht2]
    exact lp_Reader_readText hG 401 0 _ none rfl h
  · cases h
/-! the desk -/
def sp_Desk_read : aS := fun as M K => match as with
  | [.ref a] => a = 0 ∧ tx_ok M ∧ K (some (.int (if rdT M 11 4 = -1 then rdT M 3 7 else -1))) (am_up (rdT M) 1 1 0)
  | _ => False
set_option maxRecDepth 100000 in
set_option maxHeartbeats 4000000 in
theorem ok_Desk_read {G : aG} (hG : am_ok G) : am_Sp G Y_Desk_read 51 sp_Desk_read := by
  intro as M K h
  unfold sp_Desk_read at h
  split at h
  · next a =>
    obtain ⟨rfl, ht, h⟩ := h
    refine am_entry hG (by decide +kernel) (Nat.le_of_ble_eq_true rfl) ?_
    refine am_go (cuts := k_Desk_read) (tb_Desk_read (ok_Reader_readText hG) (by decide)) 400 _ _ _ _ ?_
    change am_run _ _ _ _ _ _ [some (.ref 0)] [] _
    simp only [r_Desk_read_0, r_Desk_read_1, r_Desk_read_4, r_Desk_read_7, r_Desk_read_8, r_Desk_read_11, r_Desk_read_12, r_Desk_read_15, r_Desk_read_16, r_Desk_read_19, r_Desk_read_22, r_Desk_read_23, r_Desk_read_26, r_Desk_read_27, r_Desk_read_30, r_Desk_read_33, r_Desk_read_36, r_Desk_read_37, ai_aload, ai_getf, ai_callv1, am_push, am_few, ai_const, ai_putf, ai_cmpne, ai_goto, ai_iret, kd_0, fd_0_0, fd_0_1, fd_0_2, fd_0_3, fd_0_4, kd_1, fd_1_0, fd_1_1, ln_2, kd_3, fd_3_0, fd_3_1, fd_3_2, fd_3_3, fd_3_4, fd_3_5, fd_3_6, fd_3_7, fd_3_8, fd_3_9, ln_4, ln_5, ln_6, ln_7, ln_8, ln_9, ln_10, kd_11, fd_11_0, fd_11_1, fd_11_2, fd_11_3, fd_11_4, kd_12, fd_12_0, fd_12_1, fd_12_2, fd_12_3, ln_13, ln_14, ln_15, kd_16, fd_16_0, fd_16_1, fd_16_2, ln_17, kd_18, fd_18_0, fd_18_1, kd_19, fd_19_0, fd_19_1, fd_19_2, fd_19_3, fd_19_4, fd_19_5, fd_19_6, fd_19_7, fd_19_8, fd_19_9, fd_19_10, fd_19_11, fd_19_12, fd_19_13, fd_19_14, fd_19_15, fd_19_16, fd_19_17, fd_19_18, fd_19_19, fd_19_20, ln_20, ln_21, ln_22, ln_23, ln_24, ln_25, ln_26, ln_27, ln_28, ln_29, ln_30, ln_31, ln_32, List.getElem?_cons_zero, List.getElem?_cons_succ, List.set_cons_zero, List.set_cons_succ, true_and, and_true, ↓reduceIte, Int32.reduceLT, Int32.reduceLE, li_10, or_true, true_or, ↓sp_Reader_readText, ht, am_up_ap, Nat.reduceEqDiff]
    generalize rdT M = N at h ⊢
    by_cases c : N 11 4 = -1
    · rw [if_pos c] at h ⊢; exact h
    · rw [if_neg c] at h ⊢; exact h
  · cases h
def sp_Desk_place : aS := fun as M K => match as with
  | [.ref a] => a = 0 ∧ K (some (.int (M 11 4))) M
  | _ => False
set_option maxRecDepth 100000 in
set_option maxHeartbeats 4000000 in
theorem ok_Desk_place {G : aG} (hG : am_ok G) : am_Sp G Y_Desk_place 1 sp_Desk_place := by
  intro as M K h
  unfold sp_Desk_place at h
  split at h
  · next a =>
    obtain ⟨rfl, h⟩ := h
    refine am_entry hG (by decide +kernel) (Nat.le_of_ble_eq_true rfl) ?_
    refine am_go (cuts := k_Desk_place) tb_Desk_place 400 _ _ _ _ ?_
    change am_run _ _ _ _ _ _ [some (.ref 0)] [] _
    simp only [r_Desk_place_0, r_Desk_place_1, r_Desk_place_4, r_Desk_place_7, ai_aload, ai_getf, ai_iret, kd_0, fd_0_0, fd_0_1, fd_0_2, fd_0_3, fd_0_4, kd_1, fd_1_0, fd_1_1, ln_2, kd_3, fd_3_0, fd_3_1, fd_3_2, fd_3_3, fd_3_4, fd_3_5, fd_3_6, fd_3_7, fd_3_8, fd_3_9, ln_4, ln_5, ln_6, ln_7, ln_8, ln_9, ln_10, kd_11, fd_11_0, fd_11_1, fd_11_2, fd_11_3, fd_11_4, kd_12, fd_12_0, fd_12_1, fd_12_2, fd_12_3, ln_13, ln_14, ln_15, kd_16, fd_16_0, fd_16_1, fd_16_2, ln_17, kd_18, fd_18_0, fd_18_1, kd_19, fd_19_0, fd_19_1, fd_19_2, fd_19_3, fd_19_4, fd_19_5, fd_19_6, fd_19_7, fd_19_8, fd_19_9, fd_19_10, fd_19_11, fd_19_12, fd_19_13, fd_19_14, fd_19_15, fd_19_16, fd_19_17, fd_19_18, fd_19_19, fd_19_20, ln_20, ln_21, ln_22, ln_23, ln_24, ln_25, ln_26, ln_27, ln_28, ln_29, ln_30, ln_31, ln_32, List.getElem?_cons_zero, List.getElem?_cons_succ, List.set_cons_zero, List.set_cons_succ, true_and, and_true, ↓reduceIte, Int32.reduceLT, Int32.reduceLE, li_10, or_true, true_or]
    exact h
  · cases h
def sp_Desk_datum : aS := fun as M K => match as with
  | [.ref a, .int k] => a = 0 ∧ K (some (.int (n_data M k))) M
  | _ => False
set_option maxRecDepth 100000 in
set_option maxHeartbeats 4000000 in
theorem ok_Desk_datum {G : aG} (hG : am_ok G) : am_Sp G Y_Desk_datum 2 sp_Desk_datum := by
  intro as M K h
  unfold sp_Desk_datum at h
  split at h
  · next a k =>
    obtain ⟨rfl, h⟩ := h
    refine am_entry hG (by decide +kernel) (Nat.le_of_ble_eq_true rfl) ?_
    refine am_go (cuts := k_Desk_datum) (tb_Desk_datum (ok_Nodes_datumNode hG) (by decide)) 400 _ _ _ _ ?_
    change am_run _ _ _ _ _ _ [some (.ref 0), some (.int k)] [] _
    simp only [r_Desk_datum_0, r_Desk_datum_1, r_Desk_datum_4, r_Desk_datum_5, r_Desk_datum_8, ai_aload, ai_getf, ai_iload, ai_callv2, am_push, am_few, ai_iret, kd_0, fd_0_0, fd_0_1, fd_0_2, fd_0_3, fd_0_4, kd_1, fd_1_0, fd_1_1, ln_2, kd_3, fd_3_0, fd_3_1, fd_3_2, fd_3_3, fd_3_4, fd_3_5, fd_3_6, fd_3_7, fd_3_8, fd_3_9, ln_4, ln_5, ln_6, ln_7, ln_8, ln_9, ln_10, kd_11, fd_11_0, fd_11_1, fd_11_2, fd_11_3, fd_11_4, kd_12, fd_12_0, fd_12_1, fd_12_2, fd_12_3, ln_13, ln_14, ln_15, kd_16, fd_16_0, fd_16_1, fd_16_2, ln_17, kd_18, fd_18_0, fd_18_1, kd_19, fd_19_0, fd_19_1, fd_19_2, fd_19_3, fd_19_4, fd_19_5, fd_19_6, fd_19_7, fd_19_8, fd_19_9, fd_19_10, fd_19_11, fd_19_12, fd_19_13, fd_19_14, fd_19_15, fd_19_16, fd_19_17, fd_19_18, fd_19_19, fd_19_20, ln_20, ln_21, ln_22, ln_23, ln_24, ln_25, ln_26, ln_27, ln_28, ln_29, ln_30, ln_31, ln_32, List.getElem?_cons_zero, List.getElem?_cons_succ, List.set_cons_zero, List.set_cons_succ, true_and, and_true, ↓reduceIte, Int32.reduceLT, Int32.reduceLE, li_10, or_true, true_or, ↓sp_Nodes_datumNode]
    exact h
  · cases h
def sp_Desk_kind : aS := fun as M K => match as with
  | [.ref a, .int k] => a = 0 ∧ K (some (.int (n_kind M k))) M
  | _ => False
set_option maxRecDepth 100000 in
set_option maxHeartbeats 4000000 in
theorem ok_Desk_kind {G : aG} (hG : am_ok G) : am_Sp G Y_Desk_kind 2 sp_Desk_kind := by
  intro as M K h
  unfold sp_Desk_kind at h
  split at h
  · next a k =>
    obtain ⟨rfl, h⟩ := h
    refine am_entry hG (by decide +kernel) (Nat.le_of_ble_eq_true rfl) ?_
    refine am_go (cuts := k_Desk_kind) (tb_Desk_kind (ok_Nodes_kindOf hG) (by decide)) 400 _ _ _ _ ?_
    change am_run _ _ _ _ _ _ [some (.ref 0), some (.int k)] [] _
    simp only [r_Desk_kind_0, r_Desk_kind_1, r_Desk_kind_4, r_Desk_kind_5, r_Desk_kind_8, ai_aload, ai_getf, ai_iload, ai_callv2, am_push, am_few, ai_iret, kd_0, fd_0_0, fd_0_1, fd_0_2, fd_0_3, fd_0_4, kd_1, fd_1_0, fd_1_1, ln_2, kd_3, fd_3_0, fd_3_1, fd_3_2, fd_3_3, fd_3_4, fd_3_5, fd_3_6, fd_3_7, fd_3_8, fd_3_9, ln_4, ln_5, ln_6, ln_7, ln_8, ln_9, ln_10, kd_11, fd_11_0, fd_11_1, fd_11_2, fd_11_3, fd_11_4, kd_12, fd_12_0, fd_12_1, fd_12_2, fd_12_3, ln_13, ln_14, ln_15, kd_16, fd_16_0, fd_16_1, fd_16_2, ln_17, kd_18, fd_18_0, fd_18_1, kd_19, fd_19_0, fd_19_1, fd_19_2, fd_19_3, fd_19_4, fd_19_5, fd_19_6, fd_19_7, fd_19_8, fd_19_9, fd_19_10, fd_19_11, fd_19_12, fd_19_13, fd_19_14, fd_19_15, fd_19_16, fd_19_17, fd_19_18, fd_19_19, fd_19_20, ln_20, ln_21, ln_22, ln_23, ln_24, ln_25, ln_26, ln_27, ln_28, ln_29, ln_30, ln_31, ln_32, List.getElem?_cons_zero, List.getElem?_cons_succ, List.set_cons_zero, List.set_cons_succ, true_and, and_true, ↓reduceIte, Int32.reduceLT, Int32.reduceLE, li_10, or_true, true_or, ↓sp_Nodes_kindOf]
    exact h
  · cases h
def sp_Desk_value : aS := fun as M K => match as with
  | [.ref a, .int k] => a = 0 ∧ K (some (.int (n_amt M k))) M
  | _ => False
set_option maxRecDepth 100000 in
set_option maxHeartbeats 4000000 in
theorem ok_Desk_value {G : aG} (hG : am_ok G) : am_Sp G Y_Desk_value 2 sp_Desk_value := by
  intro as M K h
  unfold sp_Desk_value at h
  split at h
  · next a k =>
    obtain ⟨rfl, h⟩ := h
    refine am_entry hG (by decide +kernel) (Nat.le_of_ble_eq_true rfl) ?_
    refine am_go (cuts := k_Desk_value) (tb_Desk_value (ok_Nodes_amountOf hG) (by decide)) 400 _ _ _ _ ?_
    change am_run _ _ _ _ _ _ [some (.ref 0), some (.int k)] [] _
    simp only [r_Desk_value_0, r_Desk_value_1, r_Desk_value_4, r_Desk_value_5, r_Desk_value_8, ai_aload, ai_getf, ai_iload, ai_callv2, am_push, am_few, ai_iret, kd_0, fd_0_0, fd_0_1, fd_0_2, fd_0_3, fd_0_4, kd_1, fd_1_0, fd_1_1, ln_2, kd_3, fd_3_0, fd_3_1, fd_3_2, fd_3_3, fd_3_4, fd_3_5, fd_3_6, fd_3_7, fd_3_8, fd_3_9, ln_4, ln_5, ln_6, ln_7, ln_8, ln_9, ln_10, kd_11, fd_11_0, fd_11_1, fd_11_2, fd_11_3, fd_11_4, kd_12, fd_12_0, fd_12_1, fd_12_2, fd_12_3, ln_13, ln_14, ln_15, kd_16, fd_16_0, fd_16_1, fd_16_2, ln_17, kd_18, fd_18_0, fd_18_1, kd_19, fd_19_0, fd_19_1, fd_19_2, fd_19_3, fd_19_4, fd_19_5, fd_19_6, fd_19_7, fd_19_8, fd_19_9, fd_19_10, fd_19_11, fd_19_12, fd_19_13, fd_19_14, fd_19_15, fd_19_16, fd_19_17, fd_19_18, fd_19_19, fd_19_20, ln_20, ln_21, ln_22, ln_23, ln_24, ln_25, ln_26, ln_27, ln_28, ln_29, ln_30, ln_31, ln_32, List.getElem?_cons_zero, List.getElem?_cons_succ, List.set_cons_zero, List.set_cons_succ, true_and, and_true, ↓reduceIte, Int32.reduceLT, Int32.reduceLE, li_10, or_true, true_or, ↓sp_Nodes_amountOf]
    exact h
  · cases h
def sp_Desk_byteAt : aS := fun as M K => match as with
  | [.ref a, .int x, .int k] => a = 0 ∧ K (some (.int (n_byte M x k))) M
  | _ => False
set_option maxRecDepth 100000 in
set_option maxHeartbeats 4000000 in
theorem ok_Desk_byteAt {G : aG} (hG : am_ok G) : am_Sp G Y_Desk_byteAt 2 sp_Desk_byteAt := by
  intro as M K h
  unfold sp_Desk_byteAt at h
  split at h
  · next a x k =>
    obtain ⟨rfl, h⟩ := h
    refine am_entry hG (by decide +kernel) (Nat.le_of_ble_eq_true rfl) ?_
    refine am_go (cuts := k_Desk_byteAt) (tb_Desk_byteAt (ok_Nodes_byteOf hG) (by decide)) 400 _ _ _ _ ?_
    change am_run _ _ _ _ _ _ [some (.ref 0), some (.int x), some (.int k)] [] _
    simp only [r_Desk_byteAt_0, r_Desk_byteAt_1, r_Desk_byteAt_4, r_Desk_byteAt_5, r_Desk_byteAt_6, r_Desk_byteAt_9, ai_aload, ai_getf, ai_iload, ai_callv3, am_push, am_few, ai_iret, kd_0, fd_0_0, fd_0_1, fd_0_2, fd_0_3, fd_0_4, kd_1, fd_1_0, fd_1_1, ln_2, kd_3, fd_3_0, fd_3_1, fd_3_2, fd_3_3, fd_3_4, fd_3_5, fd_3_6, fd_3_7, fd_3_8, fd_3_9, ln_4, ln_5, ln_6, ln_7, ln_8, ln_9, ln_10, kd_11, fd_11_0, fd_11_1, fd_11_2, fd_11_3, fd_11_4, kd_12, fd_12_0, fd_12_1, fd_12_2, fd_12_3, ln_13, ln_14, ln_15, kd_16, fd_16_0, fd_16_1, fd_16_2, ln_17, kd_18, fd_18_0, fd_18_1, kd_19, fd_19_0, fd_19_1, fd_19_2, fd_19_3, fd_19_4, fd_19_5, fd_19_6, fd_19_7, fd_19_8, fd_19_9, fd_19_10, fd_19_11, fd_19_12, fd_19_13, fd_19_14, fd_19_15, fd_19_16, fd_19_17, fd_19_18, fd_19_19, fd_19_20, ln_20, ln_21, ln_22, ln_23, ln_24, ln_25, ln_26, ln_27, ln_28, ln_29, ln_30, ln_31, ln_32, List.getElem?_cons_zero, List.getElem?_cons_succ, List.set_cons_zero, List.set_cons_succ, true_and, and_true, ↓reduceIte, Int32.reduceLT, Int32.reduceLE, li_10, or_true, true_or, ↓sp_Nodes_byteOf]
    exact h
  · cases h
def d_part (M : aM) (x k : Int32) : Int32 := if k = 0 then n_head M x else if k = 1 then n_tail M x else -1
def sp_Desk_part : aS := fun as M K => match as with
  | [.ref a, .int x, .int k] => a = 0 ∧ K (some (.int (d_part M x k))) M
  | _ => False
set_option maxRecDepth 100000 in
set_option maxHeartbeats 4000000 in
theorem ok_Desk_part {G : aG} (hG : am_ok G) : am_Sp G Y_Desk_part 2 sp_Desk_part := by
  intro as M K h
  unfold sp_Desk_part at h
  split at h
  · next a x k =>
    obtain ⟨rfl, h⟩ := h
    unfold d_part at h
    refine am_entry hG (by decide +kernel) (Nat.le_of_ble_eq_true rfl) ?_
    refine am_go (cuts := k_Desk_part) (tb_Desk_part (ok_Nodes_headOf hG) (by decide) (ok_Nodes_tailOf hG) (by decide)) 400 _ _ _ _ ?_
    change am_run _ _ _ _ _ _ [some (.ref 0), some (.int x), some (.int k)] [] _
    simp only [r_Desk_part_0, r_Desk_part_1, r_Desk_part_4, r_Desk_part_5, r_Desk_part_8, r_Desk_part_9, r_Desk_part_12, r_Desk_part_13, r_Desk_part_14, r_Desk_part_15, r_Desk_part_18, r_Desk_part_19, r_Desk_part_22, r_Desk_part_23, r_Desk_part_26, r_Desk_part_29, r_Desk_part_30, ai_iload, ai_ifne, ai_aload, ai_getf, ai_callv2, am_push, am_few, ai_iret, ai_const, ai_cmpne, ai_goto, kd_0, fd_0_0, fd_0_1, fd_0_2, fd_0_3, fd_0_4, kd_1, fd_1_0, fd_1_1, ln_2, kd_3, fd_3_0, fd_3_1, fd_3_2, fd_3_3, fd_3_4, fd_3_5, fd_3_6, fd_3_7, fd_3_8, fd_3_9, ln_4, ln_5, ln_6, ln_7, ln_8, ln_9, ln_10, kd_11, fd_11_0, fd_11_1, fd_11_2, fd_11_3, fd_11_4, kd_12, fd_12_0, fd_12_1, fd_12_2, fd_12_3, ln_13, ln_14, ln_15, kd_16, fd_16_0, fd_16_1, fd_16_2, ln_17, kd_18, fd_18_0, fd_18_1, kd_19, fd_19_0, fd_19_1, fd_19_2, fd_19_3, fd_19_4, fd_19_5, fd_19_6, fd_19_7, fd_19_8, fd_19_9, fd_19_10, fd_19_11, fd_19_12, fd_19_13, fd_19_14, fd_19_15, fd_19_16, fd_19_17, fd_19_18, fd_19_19, fd_19_20, ln_20, ln_21, ln_22, ln_23, ln_24, ln_25, ln_26, ln_27, ln_28, ln_29, ln_30, ln_31, ln_32, List.getElem?_cons_zero, List.getElem?_cons_succ, List.set_cons_zero, List.set_cons_succ, true_and, and_true, ↓reduceIte, Int32.reduceLT, Int32.reduceLE, li_10, or_true, true_or, ↓sp_Nodes_headOf, ↓sp_Nodes_tailOf]
    by_cases c : k = 0
    · rw [if_pos c] at h ⊢; exact h
    · rw [if_neg c] at h ⊢
      by_cases c2 : k = 1
      · rw [if_pos c2] at h ⊢; exact h
      · rw [if_neg c2] at h ⊢; exact h
  · cases h
def d_like (M : aM) (x y : Int32) : Bool := hasN M x && (hasN M y && alk M 16 x y)
def sp_Desk_like : aS := fun as M K => match as with
  | [.ref a, .int x, .int y] => a = 0 ∧ K (some (.int (b2 (d_like M x y)))) M
  | _ => False
theorem b2_eq0 (b : Bool) : (b2 b = 0) = (b = false) := by cases b <;> simp [b2]
set_option maxRecDepth 100000 in
set_option maxHeartbeats 4000000 in
theorem ok_Desk_like {G : aG} (hG : am_ok G) : am_Sp G Y_Desk_like 20 sp_Desk_like := by
  intro as M K h
  unfold sp_Desk_like at h
  split at h
  · next a x y =>
    obtain ⟨rfl, h⟩ := h
    have e0 : ((0 : Int32) = nI (16 - 16)) = True := eq_true rfl
    have e5 : (16 ≤ 16) = True := eq_true (Nat.le_refl 16)
    unfold d_like at h
    refine am_entry hG (by decide +kernel) (Nat.le_of_ble_eq_true rfl) ?_
    refine am_go (cuts := k_Desk_like) (tb_Desk_like (ok_Nodes_has hG) (by decide) (ok_Nodes_alike hG 16) (by decide)) 400 _ _ _ _ ?_
    change am_run _ _ _ _ _ _ [some (.ref 0), some (.int x), some (.int y)] [] _
    simp only [r_Desk_like_0, r_Desk_like_1, r_Desk_like_4, r_Desk_like_5, r_Desk_like_8, r_Desk_like_11, r_Desk_like_12, r_Desk_like_15, r_Desk_like_16, r_Desk_like_19, r_Desk_like_22, r_Desk_like_23, r_Desk_like_26, r_Desk_like_27, r_Desk_like_28, r_Desk_like_29, r_Desk_like_32, r_Desk_like_35, r_Desk_like_36, r_Desk_like_39, r_Desk_like_40, ai_aload, ai_getf, ai_iload, ai_callv2, am_push, am_few, ai_ifeq, ai_const, ai_callv4, ai_goto, ai_zret, kd_0, fd_0_0, fd_0_1, fd_0_2, fd_0_3, fd_0_4, kd_1, fd_1_0, fd_1_1, ln_2, kd_3, fd_3_0, fd_3_1, fd_3_2, fd_3_3, fd_3_4, fd_3_5, fd_3_6, fd_3_7, fd_3_8, fd_3_9, ln_4, ln_5, ln_6, ln_7, ln_8, ln_9, ln_10, kd_11, fd_11_0, fd_11_1, fd_11_2, fd_11_3, fd_11_4, kd_12, fd_12_0, fd_12_1, fd_12_2, fd_12_3, ln_13, ln_14, ln_15, kd_16, fd_16_0, fd_16_1, fd_16_2, ln_17, kd_18, fd_18_0, fd_18_1, kd_19, fd_19_0, fd_19_1, fd_19_2, fd_19_3, fd_19_4, fd_19_5, fd_19_6, fd_19_7, fd_19_8, fd_19_9, fd_19_10, fd_19_11, fd_19_12, fd_19_13, fd_19_14, fd_19_15, fd_19_16, fd_19_17, fd_19_18, fd_19_19, fd_19_20, ln_20, ln_21, ln_22, ln_23, ln_24, ln_25, ln_26, ln_27, ln_28, ln_29, ln_30, ln_31, ln_32, List.getElem?_cons_zero, List.getElem?_cons_succ, List.set_cons_zero, List.set_cons_succ, true_and, and_true, ↓reduceIte, Int32.reduceLT, Int32.reduceLE, li_10, or_true, true_or, ↓sp_Nodes_has, ↓sp_Nodes_alike, e0, e5, b2_eq0]
    cases c1 : hasN M x
    · rw [c1] at h; simp [b2] at h ⊢; exact h
    · rw [c1] at h
      cases c2 : hasN M y
      · rw [c2] at h; simp [b2] at h ⊢; exact h
      · rw [c2] at h
        cases c3 : alk M 16 x y
        · rw [c3] at h; simp [b2] at h ⊢; exact h
        · rw [c3] at h; simp [b2] at h ⊢; exact h
  · cases h
def sp_Desk_write : aS := fun as M K => match as with
  | [.ref a, .int x] => a = 0 ∧ wt_ok M ∧ K (some (.int (b2 (hasN M x)))) (if hasN M x = true then saysM M (w_node M 16 x) else M)
  | _ => False
set_option maxRecDepth 100000 in
set_option maxHeartbeats 4000000 in
theorem ok_Desk_write {G : aG} (hG : am_ok G) : am_Sp G Y_Desk_write 37 sp_Desk_write := by
  intro as M K h
  unfold sp_Desk_write at h
  split at h
  · next a x =>
    obtain ⟨rfl, hw, h⟩ := h
    have e0 : ((0 : Int32) = nI (16 - 16)) = True := eq_true rfl
    have e5 : (16 ≤ 16) = True := eq_true (Nat.le_refl 16)
    refine am_entry hG (by decide +kernel) (Nat.le_of_ble_eq_true rfl) ?_
    refine am_go (cuts := k_Desk_write) (tb_Desk_write (ok_Nodes_has hG) (by decide) (ok_Writer_writeNode hG 16) (by decide)) 400 _ _ _ _ ?_
    change am_run _ _ _ _ _ _ [some (.ref 0), some (.int x)] [] _
    simp only [r_Desk_write_0, r_Desk_write_1, r_Desk_write_4, r_Desk_write_5, r_Desk_write_8, r_Desk_write_11, r_Desk_write_12, r_Desk_write_13, r_Desk_write_14, r_Desk_write_17, r_Desk_write_18, r_Desk_write_19, r_Desk_write_22, r_Desk_write_23, ai_aload, ai_getf, ai_iload, ai_callv2, am_push, am_few, ai_ifne, ai_const, ai_zret, ai_callv3, kd_0, fd_0_0, fd_0_1, fd_0_2, fd_0_3, fd_0_4, kd_1, fd_1_0, fd_1_1, ln_2, kd_3, fd_3_0, fd_3_1, fd_3_2, fd_3_3, fd_3_4, fd_3_5, fd_3_6, fd_3_7, fd_3_8, fd_3_9, ln_4, ln_5, ln_6, ln_7, ln_8, ln_9, ln_10, kd_11, fd_11_0, fd_11_1, fd_11_2, fd_11_3, fd_11_4, kd_12, fd_12_0, fd_12_1, fd_12_2, fd_12_3, ln_13, ln_14, ln_15, kd_16, fd_16_0, fd_16_1, fd_16_2, ln_17, kd_18, fd_18_0, fd_18_1, kd_19, fd_19_0, fd_19_1, fd_19_2, fd_19_3, fd_19_4, fd_19_5, fd_19_6, fd_19_7, fd_19_8, fd_19_9, fd_19_10, fd_19_11, fd_19_12, fd_19_13, fd_19_14, fd_19_15, fd_19_16, fd_19_17, fd_19_18, fd_19_19, fd_19_20, ln_20, ln_21, ln_22, ln_23, ln_24, ln_25, ln_26, ln_27, ln_28, ln_29, ln_30, ln_31, ln_32, List.getElem?_cons_zero, List.getElem?_cons_succ, List.set_cons_zero, List.set_cons_succ, true_and, and_true, ↓reduceIte, Int32.reduceLT, Int32.reduceLE, li_10, or_true, true_or, ↓sp_Nodes_has, ↓sp_Writer_writeNode, e0, e5, hw, b2_eq0]
    cases c1 : hasN M x
    · rw [c1] at h; simp [b2] at h ⊢; exact h
    · rw [c1] at h; simp [b2] at h ⊢; exact h
  · cases h
def d_cnt (M : aM) (w : Int32) : Int32 := if w = 0 then M 1 1 else if w = 1 then M 3 5 else if w = 2 then M 3 7 else if w = 3 then M 16 2 else -1
def sp_Desk_count : aS := fun as M K => match as with
  | [.ref a, .int w] => a = 0 ∧ K (some (.int (d_cnt M w))) M
  | _ => False
set_option maxRecDepth 100000 in
set_option maxHeartbeats 4000000 in
theorem ok_Desk_count {G : aG} (hG : am_ok G) : am_Sp G Y_Desk_count 1 sp_Desk_count := by
  intro as M K h
  unfold sp_Desk_count at h
  split at h
  · next a w =>
    obtain ⟨rfl, h⟩ := h
    unfold d_cnt at h
    refine am_entry hG (by decide +kernel) (Nat.le_of_ble_eq_true rfl) ?_
    refine am_go (cuts := k_Desk_count) tb_Desk_count 400 _ _ _ _ ?_
    change am_run _ _ _ _ _ _ [some (.ref 0), some (.int w)] [] _
    simp only [r_Desk_count_0, r_Desk_count_1, r_Desk_count_32, r_Desk_count_33, r_Desk_count_36, r_Desk_count_39, r_Desk_count_40, r_Desk_count_41, r_Desk_count_44, r_Desk_count_47, r_Desk_count_48, r_Desk_count_49, r_Desk_count_52, r_Desk_count_55, r_Desk_count_56, r_Desk_count_57, r_Desk_count_60, r_Desk_count_63, r_Desk_count_64, r_Desk_count_65, ai_iload, ai_switch, am_sw, ai_aload, ai_getf, ai_iret, ai_const, kd_0, fd_0_0, fd_0_1, fd_0_2, fd_0_3, fd_0_4, kd_1, fd_1_0, fd_1_1, ln_2, kd_3, fd_3_0, fd_3_1, fd_3_2, fd_3_3, fd_3_4, fd_3_5, fd_3_6, fd_3_7, fd_3_8, fd_3_9, ln_4, ln_5, ln_6, ln_7, ln_8, ln_9, ln_10, kd_11, fd_11_0, fd_11_1, fd_11_2, fd_11_3, fd_11_4, kd_12, fd_12_0, fd_12_1, fd_12_2, fd_12_3, ln_13, ln_14, ln_15, kd_16, fd_16_0, fd_16_1, fd_16_2, ln_17, kd_18, fd_18_0, fd_18_1, kd_19, fd_19_0, fd_19_1, fd_19_2, fd_19_3, fd_19_4, fd_19_5, fd_19_6, fd_19_7, fd_19_8, fd_19_9, fd_19_10, fd_19_11, fd_19_12, fd_19_13, fd_19_14, fd_19_15, fd_19_16, fd_19_17, fd_19_18, fd_19_19, fd_19_20, ln_20, ln_21, ln_22, ln_23, ln_24, ln_25, ln_26, ln_27, ln_28, ln_29, ln_30, ln_31, ln_32, List.getElem?_cons_zero, List.getElem?_cons_succ, List.set_cons_zero, List.set_cons_succ, true_and, and_true, ↓reduceIte, Int32.reduceLT, Int32.reduceLE, li_10, or_true, true_or]
    by_cases c : w = 0
    · rw [if_pos c] at h ⊢; exact h
    rw [if_neg c] at h ⊢
    by_cases c : w = 1
    · rw [if_pos c] at h ⊢; exact h
    rw [if_neg c] at h ⊢
    by_cases c : w = 2
    · rw [if_pos c] at h ⊢; exact h
    rw [if_neg c] at h ⊢
    by_cases c : w = 3
    · rw [if_pos c] at h ⊢; exact h
    rw [if_neg c] at h ⊢
    exact h
  · cases h
