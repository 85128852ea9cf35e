/-! THE NODES: likeness, quotes -/
def qL (M : aM) (x : Int32) : Nat → Nat → Bool
  | 0, _ => true
  | r + 1, k => decide (n_byte M x (nI k) = QF k) && qL M x r (k + 1)
def isQ (M : aM) (x : Int32) : Bool := isN M x 2 && decide (M 5 (cl x) = 5) && qL M x 5 0
def sp_Nodes_isQuoteName : aS := fun as M K => match as with
  | [.ref a, .int x] => a = 3 ∧ K (some (.int (b2 (isQ M x)))) M
  | _ => False
set_option maxRecDepth 100000 in
set_option maxHeartbeats 4000000 in
theorem lp_Nodes_isQuoteName {G : aG} (hG : am_ok G) {K : aR} {M : aM} {x : Int32} : ∀ (r k : Nat), k + r = 5 → K (some (.int (b2 (qL M x r k)))) M → am_X G Y_Nodes_isQuoteName 2 K 26 [some (.ref 3), some (.int x), some (.int (nI k))] [] M := by
  intro r
  induction r with
  | zero =>
    intro k hk h
    have e1 : ¬ nI k < Int32.ofNat 5 := nI_nlt (b := 5) (a := k) (by omega) (by omega)
    refine am_from (tb_Nodes_isQuoteName (ok_Nodes_isOf hG) (by decide) (ok_Nodes_byteOf hG) (by decide)) k_Nodes_isQuoteName 400 ?_
    simp only [q_Nodes_isQuoteName_26, r_Nodes_isQuoteName_0, r_Nodes_isQuoteName_1, r_Nodes_isQuoteName_2, r_Nodes_isQuoteName_3, r_Nodes_isQuoteName_6, r_Nodes_isQuoteName_9, r_Nodes_isQuoteName_10, r_Nodes_isQuoteName_13, r_Nodes_isQuoteName_14, r_Nodes_isQuoteName_15, r_Nodes_isQuoteName_18, r_Nodes_isQuoteName_19, r_Nodes_isQuoteName_22, r_Nodes_isQuoteName_23, r_Nodes_isQuoteName_24, r_Nodes_isQuoteName_25, r_Nodes_isQuoteName_26, r_Nodes_isQuoteName_27, r_Nodes_isQuoteName_30, r_Nodes_isQuoteName_31, r_Nodes_isQuoteName_34, r_Nodes_isQuoteName_35, r_Nodes_isQuoteName_36, r_Nodes_isQuoteName_37, r_Nodes_isQuoteName_40, r_Nodes_isQuoteName_43, r_Nodes_isQuoteName_44, r_Nodes_isQuoteName_45, r_Nodes_isQuoteName_48, r_Nodes_isQuoteName_49, r_Nodes_isQuoteName_50, r_Nodes_isQuoteName_53, r_Nodes_isQuoteName_56, r_Nodes_isQuoteName_57, ai_aload, ai_iload, ai_const, ai_callv3, am_push, am_few, ai_ifeq, ai_getf, ai_iald, ai_gets, ai_xlen, ai_cmpeq, ai_zret, ai_istore, am_cut_0, am_cut_s, am_c1, ai_cmpge, ai_xald, ai_iinc, ai_goto, kd_0, fd_0_0, fd_0_1, fd_0_2, fd_0_3, fd_0_4, kd_1, fd_1_0, fd_1_1, ln_2, kd_3, fd_3_0, fd_3_1, fd_3_2, fd_3_3, fd_3_4, fd_3_5, fd_3_6, fd_3_7, fd_3_8, fd_3_9, ln_4, ln_5, ln_6, ln_7, ln_8, ln_9, ln_10, kd_11, fd_11_0, fd_11_1, fd_11_2, fd_11_3, fd_11_4, kd_12, fd_12_0, fd_12_1, fd_12_2, fd_12_3, ln_13, ln_14, ln_15, kd_16, fd_16_0, fd_16_1, fd_16_2, ln_17, kd_18, fd_18_0, fd_18_1, kd_19, fd_19_0, fd_19_1, fd_19_2, fd_19_3, fd_19_4, fd_19_5, fd_19_6, fd_19_7, fd_19_8, fd_19_9, fd_19_10, fd_19_11, fd_19_12, fd_19_13, fd_19_14, fd_19_15, fd_19_16, fd_19_17, fd_19_18, fd_19_19, fd_19_20, ln_20, ln_21, ln_22, ln_23, ln_24, ln_25, ln_26, ln_27, ln_28, ln_29, ln_30, ln_31, ln_32, List.getElem?_cons_zero, List.getElem?_cons_succ, List.set_cons_zero, List.set_cons_succ, true_and, and_true, ↓reduceIte, Int32.reduceLT, Int32.reduceLE, li_10, or_true, true_or, e1]
    exact h
  | succ r ih =>
    intro k hk h
    have e1 : nI k < Int32.ofNat 5 := nI_lt (b := 5) (by omega) (by decide)
    have e2 : vp_in (nI k) 5 := vp_in_nI (by omega) (by decide)
    have e3 : (nI k).toNatClampNeg = k := nI_clamp (by omega)
    refine am_from (tb_Nodes_isQuoteName (ok_Nodes_isOf hG) (by decide) (ok_Nodes_byteOf hG) (by decide)) k_Nodes_isQuoteName 400 ?_
    simp only [q_Nodes_isQuoteName_26, r_Nodes_isQuoteName_0, r_Nodes_isQuoteName_1, r_Nodes_isQuoteName_2, r_Nodes_isQuoteName_3, r_Nodes_isQuoteName_6, r_Nodes_isQuoteName_9, r_Nodes_isQuoteName_10, r_Nodes_isQuoteName_13, r_Nodes_isQuoteName_14, r_Nodes_isQuoteName_15, r_Nodes_isQuoteName_18, r_Nodes_isQuoteName_19, r_Nodes_isQuoteName_22, r_Nodes_isQuoteName_23, r_Nodes_isQuoteName_24, r_Nodes_isQuoteName_25, r_Nodes_isQuoteName_26, r_Nodes_isQuoteName_27, r_Nodes_isQuoteName_30, r_Nodes_isQuoteName_31, r_Nodes_isQuoteName_34, r_Nodes_isQuoteName_35, r_Nodes_isQuoteName_36, r_Nodes_isQuoteName_37, r_Nodes_isQuoteName_40, r_Nodes_isQuoteName_43, r_Nodes_isQuoteName_44, r_Nodes_isQuoteName_45, r_Nodes_isQuoteName_48, r_Nodes_isQuoteName_49, r_Nodes_isQuoteName_50, r_Nodes_isQuoteName_53, r_Nodes_isQuoteName_56, r_Nodes_isQuoteName_57, ai_aload, ai_iload, ai_const, ai_callv3, am_push, am_few, ai_ifeq, ai_getf, ai_iald, ai_gets, ai_xlen, ai_cmpeq, ai_zret, ai_istore, am_cut_0, am_cut_s, am_c1, ai_cmpge, ai_xald, ai_iinc, ai_goto, kd_0, fd_0_0, fd_0_1, fd_0_2, fd_0_3, fd_0_4, kd_1, fd_1_0, fd_1_1, ln_2, kd_3, fd_3_0, fd_3_1, fd_3_2, fd_3_3, fd_3_4, fd_3_5, fd_3_6, fd_3_7, fd_3_8, fd_3_9, ln_4, ln_5, ln_6, ln_7, ln_8, ln_9, ln_10, kd_11, fd_11_0, fd_11_1, fd_11_2, fd_11_3, fd_11_4, kd_12, fd_12_0, fd_12_1, fd_12_2, fd_12_3, ln_13, ln_14, ln_15, kd_16, fd_16_0, fd_16_1, fd_16_2, ln_17, kd_18, fd_18_0, fd_18_1, kd_19, fd_19_0, fd_19_1, fd_19_2, fd_19_3, fd_19_4, fd_19_5, fd_19_6, fd_19_7, fd_19_8, fd_19_9, fd_19_10, fd_19_11, fd_19_12, fd_19_13, fd_19_14, fd_19_15, fd_19_16, fd_19_17, fd_19_18, fd_19_19, fd_19_20, ln_20, ln_21, ln_22, ln_23, ln_24, ln_25, ln_26, ln_27, ln_28, ln_29, ln_30, ln_31, ln_32, List.getElem?_cons_zero, List.getElem?_cons_succ, List.set_cons_zero, List.set_cons_succ, true_and, and_true, ↓reduceIte, Int32.reduceLT, Int32.reduceLE, li_10, or_true, true_or, ↓sp_Nodes_byteOf, e1, e2, e3, nI_1]
    simp only [qL] at h
    have g := ih (k + 1) (by omega)
    by_cases c : n_byte M x (nI k) = QF k
    · simp only [c, ↓reduceIte, decide_true, Bool.true_and] at h ⊢; exact g h
    · simp only [c, ↓reduceIte, decide_false, Bool.false_and] at h ⊢; exact h
set_option maxRecDepth 100000 in
set_option maxHeartbeats 4000000 in
theorem ok_Nodes_isQuoteName {G : aG} (hG : am_ok G) : am_Sp G Y_Nodes_isQuoteName 2 sp_Nodes_isQuoteName := by
  intro as M K h
  unfold sp_Nodes_isQuoteName at h
  split at h
  · next a x =>
    obtain ⟨rfl, h⟩ := h
    unfold isQ at h
    cases c : isN M x 2
    · refine am_entry hG (by decide +kernel) (Nat.le_of_ble_eq_true rfl) ?_
      refine am_go (cuts := k_Nodes_isQuoteName) (tb_Nodes_isQuoteName (ok_Nodes_isOf hG) (by decide) (ok_Nodes_byteOf hG) (by decide)) 400 _ _ _ _ ?_
      change am_run _ _ _ _ _ _ [some (.ref 3), some (.int x), none] [] _
      simp only [q_Nodes_isQuoteName_26, r_Nodes_isQuoteName_0, r_Nodes_isQuoteName_1, r_Nodes_isQuoteName_2, r_Nodes_isQuoteName_3, r_Nodes_isQuoteName_6, r_Nodes_isQuoteName_9, r_Nodes_isQuoteName_10, r_Nodes_isQuoteName_13, r_Nodes_isQuoteName_14, r_Nodes_isQuoteName_15, r_Nodes_isQuoteName_18, r_Nodes_isQuoteName_19, r_Nodes_isQuoteName_22, r_Nodes_isQuoteName_23, r_Nodes_isQuoteName_24, r_Nodes_isQuoteName_25, r_Nodes_isQuoteName_26, r_Nodes_isQuoteName_27, r_Nodes_isQuoteName_30, r_Nodes_isQuoteName_31, r_Nodes_isQuoteName_34, r_Nodes_isQuoteName_35, r_Nodes_isQuoteName_36, r_Nodes_isQuoteName_37, r_Nodes_isQuoteName_40, r_Nodes_isQuoteName_43, r_Nodes_isQuoteName_44, r_Nodes_isQuoteName_45, r_Nodes_isQuoteName_48, r_Nodes_isQuoteName_49, r_Nodes_isQuoteName_50, r_Nodes_isQuoteName_53, r_Nodes_isQuoteName_56, r_Nodes_isQuoteName_57, ai_aload, ai_iload, ai_const, ai_callv3, am_push, am_few, ai_ifeq, ai_getf, ai_iald, ai_gets, ai_xlen, ai_cmpeq, ai_zret, ai_istore, am_cut_0, am_cut_s, am_c1, ai_cmpge, ai_xald, ai_iinc, ai_goto, kd_0, fd_0_0, fd_0_1, fd_0_2, fd_0_3, fd_0_4, kd_1, fd_1_0, fd_1_1, ln_2, kd_3, fd_3_0, fd_3_1, fd_3_2, fd_3_3, fd_3_4, fd_3_5, fd_3_6, fd_3_7, fd_3_8, fd_3_9, ln_4, ln_5, ln_6, ln_7, ln_8, ln_9, ln_10, kd_11, fd_11_0, fd_11_1, fd_11_2, fd_11_3, fd_11_4, kd_12, fd_12_0, fd_12_1, fd_12_2, fd_12_3, ln_13, ln_14, ln_15, kd_16, fd_16_0, fd_16_1, fd_16_2, ln_17, kd_18, fd_18_0, fd_18_1, kd_19, fd_19_0, fd_19_1, fd_19_2, fd_19_3, fd_19_4, fd_19_5, fd_19_6, fd_19_7, fd_19_8, fd_19_9, fd_19_10, fd_19_11, fd_19_12, fd_19_13, fd_19_14, fd_19_15, fd_19_16, fd_19_17, fd_19_18, fd_19_19, fd_19_20, ln_20, ln_21, ln_22, ln_23, ln_24, ln_25, ln_26, ln_27, ln_28, ln_29, ln_30, ln_31, ln_32, List.getElem?_cons_zero, List.getElem?_cons_succ, List.set_cons_zero, List.set_cons_succ, true_and, and_true, ↓reduceIte, Int32.reduceLT, Int32.reduceLE, li_10, or_true, true_or, ↓sp_Nodes_isOf, b2_0, c]
      rw [c] at h; exact h
    · refine am_entry hG (by decide +kernel) (Nat.le_of_ble_eq_true rfl) ?_
      refine am_go (cuts := k_Nodes_isQuoteName) (tb_Nodes_isQuoteName (ok_Nodes_isOf hG) (by decide) (ok_Nodes_byteOf hG) (by decide)) 400 _ _ _ _ ?_
      change am_run _ _ _ _ _ _ [some (.ref 3), some (.int x), none] [] _
      simp only [q_Nodes_isQuoteName_26, r_Nodes_isQuoteName_0, r_Nodes_isQuoteName_1, r_Nodes_isQuoteName_2, r_Nodes_isQuoteName_3, r_Nodes_isQuoteName_6, r_Nodes_isQuoteName_9, r_Nodes_isQuoteName_10, r_Nodes_isQuoteName_13, r_Nodes_isQuoteName_14, r_Nodes_isQuoteName_15, r_Nodes_isQuoteName_18, r_Nodes_isQuoteName_19, r_Nodes_isQuoteName_22, r_Nodes_isQuoteName_23, r_Nodes_isQuoteName_24, r_Nodes_isQuoteName_25, r_Nodes_isQuoteName_26, r_Nodes_isQuoteName_27, r_Nodes_isQuoteName_30, r_Nodes_isQuoteName_31, r_Nodes_isQuoteName_34, r_Nodes_isQuoteName_35, r_Nodes_isQuoteName_36, r_Nodes_isQuoteName_37, r_Nodes_isQuoteName_40, r_Nodes_isQuoteName_43, r_Nodes_isQuoteName_44, r_Nodes_isQuoteName_45, r_Nodes_isQuoteName_48, r_Nodes_isQuoteName_49, r_Nodes_isQuoteName_50, r_Nodes_isQuoteName_53, r_Nodes_isQuoteName_56, r_Nodes_isQuoteName_57, ai_aload, ai_iload, ai_const, ai_callv3, am_push, am_few, ai_ifeq, ai_getf, ai_iald, ai_gets, ai_xlen, ai_cmpeq, ai_zret, ai_istore, am_cut_0, am_cut_s, am_c1, ai_cmpge, ai_xald, ai_iinc, ai_goto, kd_0, fd_0_0, fd_0_1, fd_0_2, fd_0_3, fd_0_4, kd_1, fd_1_0, fd_1_1, ln_2, kd_3, fd_3_0, fd_3_1, fd_3_2, fd_3_3, fd_3_4, fd_3_5, fd_3_6, fd_3_7, fd_3_8, fd_3_9, ln_4, ln_5, ln_6, ln_7, ln_8, ln_9, ln_10, kd_11, fd_11_0, fd_11_1, fd_11_2, fd_11_3, fd_11_4, kd_12, fd_12_0, fd_12_1, fd_12_2, fd_12_3, ln_13, ln_14, ln_15, kd_16, fd_16_0, fd_16_1, fd_16_2, ln_17, kd_18, fd_18_0, fd_18_1, kd_19, fd_19_0, fd_19_1, fd_19_2, fd_19_3, fd_19_4, fd_19_5, fd_19_6, fd_19_7, fd_19_8, fd_19_9, fd_19_10, fd_19_11, fd_19_12, fd_19_13, fd_19_14, fd_19_15, fd_19_16, fd_19_17, fd_19_18, fd_19_19, fd_19_20, ln_20, ln_21, ln_22, ln_23, ln_24, ln_25, ln_26, ln_27, ln_28, ln_29, ln_30, ln_31, ln_32, List.getElem?_cons_zero, List.getElem?_cons_succ, List.set_cons_zero, List.set_cons_succ, true_and, and_true, ↓reduceIte, Int32.reduceLT, Int32.reduceLE, li_10, or_true, true_or, ↓sp_Nodes_isOf, b2_0, c, Bool.true_eq_false, isN_in c]
      rw [c] at h
      by_cases c2 : M 5 (cl x) = 5
      · rw [if_pos (show M 5 (cl x) = Int32.ofNat 5 from c2)]
        simp only [c2, decide_true, Bool.true_and] at h
        exact lp_Nodes_isQuoteName hG 5 0 rfl h
      · rw [if_neg (show ¬ M 5 (cl x) = Int32.ofNat 5 from c2)]
        simp only [c2, decide_false, Bool.true_and, Bool.false_and] at h
        exact h
  · cases h
def n_quo (M : aM) (x : Int32) : Int32 := if isQ M (n_head M x) = true then (if isN M (n_tail M (n_tail M x)) 5 = true then n_head M (n_tail M x) else -1) else -1
def sp_Nodes_quotedIn : aS := fun as M K => match as with
  | [.ref a, .int x] => a = 3 ∧ K (some (.int (n_quo M x))) M
  | _ => False
set_option maxRecDepth 100000 in
set_option maxHeartbeats 4000000 in
theorem ok_Nodes_quotedIn {G : aG} (hG : am_ok G) : am_Sp G Y_Nodes_quotedIn 3 sp_Nodes_quotedIn := by
  intro as M K h
  unfold sp_Nodes_quotedIn at h
  split at h
  · next a x =>
    obtain ⟨rfl, h⟩ := h
    unfold n_quo at h
    refine am_entry hG (by decide +kernel) (Nat.le_of_ble_eq_true rfl) ?_
    refine am_go (cuts := k_Nodes_quotedIn) (tb_Nodes_quotedIn (ok_Nodes_tailOf hG) (by decide) (ok_Nodes_headOf hG) (by decide) (ok_Nodes_isQuoteName hG) (by decide) (ok_Nodes_isOf hG) (by decide)) 400 _ _ _ _ ?_
    change am_run _ _ _ _ _ _ [some (.ref 3), some (.int x), none] [] _
    simp only [r_Nodes_quotedIn_0, r_Nodes_quotedIn_1, r_Nodes_quotedIn_2, r_Nodes_quotedIn_5, r_Nodes_quotedIn_6, r_Nodes_quotedIn_7, r_Nodes_quotedIn_8, r_Nodes_quotedIn_9, r_Nodes_quotedIn_12, r_Nodes_quotedIn_15, r_Nodes_quotedIn_18, r_Nodes_quotedIn_19, r_Nodes_quotedIn_20, r_Nodes_quotedIn_21, r_Nodes_quotedIn_24, r_Nodes_quotedIn_25, r_Nodes_quotedIn_28, r_Nodes_quotedIn_31, r_Nodes_quotedIn_32, r_Nodes_quotedIn_33, r_Nodes_quotedIn_34, r_Nodes_quotedIn_35, r_Nodes_quotedIn_38, ai_aload, ai_iload, ai_callv2, am_push, am_few, ai_istore, am_cut_0, am_cut_s, am_c1, ai_ifeq, ai_const, ai_callv3, ai_ifne, ai_iret, kd_0, fd_0_0, fd_0_1, fd_0_2, fd_0_3, fd_0_4, kd_1, fd_1_0, fd_1_1, ln_2, kd_3, fd_3_0, fd_3_1, fd_3_2, fd_3_3, fd_3_4, fd_3_5, fd_3_6, fd_3_7, fd_3_8, fd_3_9, ln_4, ln_5, ln_6, ln_7, ln_8, ln_9, ln_10, kd_11, fd_11_0, fd_11_1, fd_11_2, fd_11_3, fd_11_4, kd_12, fd_12_0, fd_12_1, fd_12_2, fd_12_3, ln_13, ln_14, ln_15, kd_16, fd_16_0, fd_16_1, fd_16_2, ln_17, kd_18, fd_18_0, fd_18_1, kd_19, fd_19_0, fd_19_1, fd_19_2, fd_19_3, fd_19_4, fd_19_5, fd_19_6, fd_19_7, fd_19_8, fd_19_9, fd_19_10, fd_19_11, fd_19_12, fd_19_13, fd_19_14, fd_19_15, fd_19_16, fd_19_17, fd_19_18, fd_19_19, fd_19_20, ln_20, ln_21, ln_22, ln_23, ln_24, ln_25, ln_26, ln_27, ln_28, ln_29, ln_30, ln_31, ln_32, List.getElem?_cons_zero, List.getElem?_cons_succ, List.set_cons_zero, List.set_cons_succ, true_and, and_true, ↓reduceIte, Int32.reduceLT, Int32.reduceLE, li_10, or_true, true_or, ↓sp_Nodes_isOf, ↓sp_Nodes_tailOf, ↓sp_Nodes_headOf, ↓sp_Nodes_isQuoteName, b2_0]
    cases c1 : isQ M (n_head M x)
    · simp only [c1, Bool.false_eq_true, ↓reduceIte] at h ⊢; exact h
    · cases c2 : isN M (n_tail M (n_tail M x)) 5
      · simp only [c1, c2, Bool.false_eq_true, Bool.true_eq_false, ↓reduceIte] at h ⊢; exact h
      · simp only [c1, c2, Bool.true_eq_false, ↓reduceIte] at h ⊢; exact h
  · cases h
def sameL (M : aM) (x y : Int32) : Nat → Nat → Bool
  | 0, _ => true
  | r + 1, k => decide (n_byte M x (nI k) = n_byte M y (nI k)) && sameL M x y r (k + 1)
def n_same (M : aM) (x y : Int32) : Bool := decide (n_amt M x = n_amt M y) && (isN M x 1 || sameL M x y (cl (n_amt M x)) 0)
def sp_Nodes_sameContent : aS := fun as M K => match as with
  | [.ref a, .int x, .int y] => a = 3 ∧ K (some (.int (b2 (n_same M x y)))) M
  | _ => False
theorem cl_lt (x : Int32) : cl x < 2 ^ 31 := by
  have h := Int32.toInt_lt x
  unfold cl
  rw [Int32.toNatClampNeg]
  omega
theorem lt_cl {k : Nat} {x : Int32} (hk : k < 2 ^ 31) : (nI k < x) = (k < cl x) := by
  by_cases h0 : x < 0
  · have h1 : ¬ nI k < x := fun q => nI_pos hk (Int32.lt_trans q h0)
    have h2 : cl x = 0 := by
      have : x.toInt < 0 := by simpa [Int32.lt_iff_toInt_lt] using h0
      unfold cl
      rw [Int32.toNatClampNeg]
      omega
    simp [h1, h2]
  · obtain ⟨j, hj, rfl⟩ := nI_of h0
    rw [show cl (nI j) = j from nI_clamp hj]
    exact propext (nI_ltI hk hj)
set_option maxRecDepth 100000 in
set_option maxHeartbeats 4000000 in
theorem lp_Nodes_sameContent {G : aG} (hG : am_ok G) {K : aR} {M : aM} {x y am : Int32} : ∀ (r k : Nat), cl am - k = r → k ≤ cl am → K (some (.int (b2 (sameL M x y r k)))) M → am_X G Y_Nodes_sameContent 2 K 31 [some (.ref 3), some (.int x), some (.int y), some (.int am), some (.int (nI k))] [] M := by
  intro r
  have hcl := cl_lt am
  induction r with
  | zero =>
    intro k hk hk2 h
    have e1 : ¬ nI k < am := by rw [lt_cl (by omega)]; omega
    refine am_from (tb_Nodes_sameContent (ok_Nodes_amountOf hG) (by decide) (ok_Nodes_isOf hG) (by decide) (ok_Nodes_byteOf hG) (by decide)) k_Nodes_sameContent 400 ?_
    simp only [q_Nodes_sameContent_31, r_Nodes_sameContent_0, r_Nodes_sameContent_1, r_Nodes_sameContent_2, r_Nodes_sameContent_5, r_Nodes_sameContent_6, r_Nodes_sameContent_7, r_Nodes_sameContent_8, r_Nodes_sameContent_9, r_Nodes_sameContent_12, r_Nodes_sameContent_15, r_Nodes_sameContent_16, r_Nodes_sameContent_17, r_Nodes_sameContent_18, r_Nodes_sameContent_19, r_Nodes_sameContent_20, r_Nodes_sameContent_23, r_Nodes_sameContent_26, r_Nodes_sameContent_27, r_Nodes_sameContent_28, r_Nodes_sameContent_29, r_Nodes_sameContent_31, r_Nodes_sameContent_33, r_Nodes_sameContent_34, r_Nodes_sameContent_37, r_Nodes_sameContent_38, r_Nodes_sameContent_39, r_Nodes_sameContent_41, r_Nodes_sameContent_44, r_Nodes_sameContent_45, r_Nodes_sameContent_46, r_Nodes_sameContent_48, r_Nodes_sameContent_51, r_Nodes_sameContent_54, r_Nodes_sameContent_55, r_Nodes_sameContent_56, r_Nodes_sameContent_59, r_Nodes_sameContent_62, r_Nodes_sameContent_63, ai_aload, ai_iload, ai_callv2, am_push, am_few, ai_istore, am_cut_0, am_cut_s, am_c1, ai_cmpeq, ai_const, ai_zret, ai_callv3, ai_ifeq, ai_cmpge, ai_iinc, ai_goto, kd_0, fd_0_0, fd_0_1, fd_0_2, fd_0_3, fd_0_4, kd_1, fd_1_0, fd_1_1, ln_2, kd_3, fd_3_0, fd_3_1, fd_3_2, fd_3_3, fd_3_4, fd_3_5, fd_3_6, fd_3_7, fd_3_8, fd_3_9, ln_4, ln_5, ln_6, ln_7, ln_8, ln_9, ln_10, kd_11, fd_11_0, fd_11_1, fd_11_2, fd_11_3, fd_11_4, kd_12, fd_12_0, fd_12_1, fd_12_2, fd_12_3, ln_13, ln_14, ln_15, kd_16, fd_16_0, fd_16_1, fd_16_2, ln_17, kd_18, fd_18_0, fd_18_1, kd_19, fd_19_0, fd_19_1, fd_19_2, fd_19_3, fd_19_4, fd_19_5, fd_19_6, fd_19_7, fd_19_8, fd_19_9, fd_19_10, fd_19_11, fd_19_12, fd_19_13, fd_19_14, fd_19_15, fd_19_16, fd_19_17, fd_19_18, fd_19_19, fd_19_20, ln_20, ln_21, ln_22, ln_23, ln_24, ln_25, ln_26, ln_27, ln_28, ln_29, ln_30, ln_31, ln_32, List.getElem?_cons_zero, List.getElem?_cons_succ, List.set_cons_zero, List.set_cons_succ, true_and, and_true, ↓reduceIte, Int32.reduceLT, Int32.reduceLE, li_10, or_true, true_or, e1]
    exact h
  | succ r ih =>
    intro k hk hk2 h
    have e1 : nI k < am := by rw [lt_cl (by omega)]; omega
    refine am_from (tb_Nodes_sameContent (ok_Nodes_amountOf hG) (by decide) (ok_Nodes_isOf hG) (by decide) (ok_Nodes_byteOf hG) (by decide)) k_Nodes_sameContent 400 ?_
    simp only [q_Nodes_sameContent_31, r_Nodes_sameContent_0, r_Nodes_sameContent_1, r_Nodes_sameContent_2, r_Nodes_sameContent_5, r_Nodes_sameContent_6, r_Nodes_sameContent_7, r_Nodes_sameContent_8, r_Nodes_sameContent_9, r_Nodes_sameContent_12, r_Nodes_sameContent_15, r_Nodes_sameContent_16, r_Nodes_sameContent_17, r_Nodes_sameContent_18, r_Nodes_sameContent_19, r_Nodes_sameContent_20, r_Nodes_sameContent_23, r_Nodes_sameContent_26, r_Nodes_sameContent_27, r_Nodes_sameContent_28, r_Nodes_sameContent_29, r_Nodes_sameContent_31, r_Nodes_sameContent_33, r_Nodes_sameContent_34, r_Nodes_sameContent_37, r_Nodes_sameContent_38, r_Nodes_sameContent_39, r_Nodes_sameContent_41, r_Nodes_sameContent_44, r_Nodes_sameContent_45, r_Nodes_sameContent_46, r_Nodes_sameContent_48, r_Nodes_sameContent_51, r_Nodes_sameContent_54, r_Nodes_sameContent_55, r_Nodes_sameContent_56, r_Nodes_sameContent_59, r_Nodes_sameContent_62, r_Nodes_sameContent_63, ai_aload, ai_iload, ai_callv2, am_push, am_few, ai_istore, am_cut_0, am_cut_s, am_c1, ai_cmpeq, ai_const, ai_zret, ai_callv3, ai_ifeq, ai_cmpge, ai_iinc, ai_goto, kd_0, fd_0_0, fd_0_1, fd_0_2, fd_0_3, fd_0_4, kd_1, fd_1_0, fd_1_1, ln_2, kd_3, fd_3_0, fd_3_1, fd_3_2, fd_3_3, fd_3_4, fd_3_5, fd_3_6, fd_3_7, fd_3_8, fd_3_9, ln_4, ln_5, ln_6, ln_7, ln_8, ln_9, ln_10, kd_11, fd_11_0, fd_11_1, fd_11_2, fd_11_3, fd_11_4, kd_12, fd_12_0, fd_12_1, fd_12_2, fd_12_3, ln_13, ln_14, ln_15, kd_16, fd_16_0, fd_16_1, fd_16_2, ln_17, kd_18, fd_18_0, fd_18_1, kd_19, fd_19_0, fd_19_1, fd_19_2, fd_19_3, fd_19_4, fd_19_5, fd_19_6, fd_19_7, fd_19_8, fd_19_9, fd_19_10, fd_19_11, fd_19_12, fd_19_13, fd_19_14, fd_19_15, fd_19_16, fd_19_17, fd_19_18, fd_19_19, fd_19_20, ln_20, ln_21, ln_22, ln_23, ln_24, ln_25, ln_26, ln_27, ln_28, ln_29, ln_30, ln_31, ln_32, List.getElem?_cons_zero, List.getElem?_cons_succ, List.set_cons_zero, List.set_cons_succ, true_and, and_true, ↓reduceIte, Int32.reduceLT, Int32.reduceLE, li_10, or_true, true_or, ↓sp_Nodes_byteOf, e1, nI_1]
    simp only [sameL] at h
    have g := ih (k + 1) (by omega) (by omega)
    by_cases c : n_byte M x (nI k) = n_byte M y (nI k)
    · simp only [c, ↓reduceIte, decide_true, Bool.true_and] at h ⊢; exact g h
    · simp only [c, ↓reduceIte, decide_false, Bool.false_and] at h ⊢; exact h
set_option maxRecDepth 100000 in
set_option maxHeartbeats 4000000 in
theorem ok_Nodes_sameContent {G : aG} (hG : am_ok G) : am_Sp G Y_Nodes_sameContent 2 sp_Nodes_sameContent := by
  intro as M K h
  unfold sp_Nodes_sameContent at h
  split at h
  · next a x y =>
    obtain ⟨rfl, h⟩ := h
    unfold n_same at h
    refine am_entry hG (by decide +kernel) (Nat.le_of_ble_eq_true rfl) ?_
    refine am_go (cuts := k_Nodes_sameContent) (tb_Nodes_sameContent (ok_Nodes_amountOf hG) (by decide) (ok_Nodes_isOf hG) (by decide) (ok_Nodes_byteOf hG) (by decide)) 400 _ _ _ _ ?_
    change am_run _ _ _ _ _ _ [some (.ref 3), some (.int x), some (.int y), none, none] [] _
    simp only [q_Nodes_sameContent_31, r_Nodes_sameContent_0, r_Nodes_sameContent_1, r_Nodes_sameContent_2, r_Nodes_sameContent_5, r_Nodes_sameContent_6, r_Nodes_sameContent_7, r_Nodes_sameContent_8, r_Nodes_sameContent_9, r_Nodes_sameContent_12, r_Nodes_sameContent_15, r_Nodes_sameContent_16, r_Nodes_sameContent_17, r_Nodes_sameContent_18, r_Nodes_sameContent_19, r_Nodes_sameContent_20, r_Nodes_sameContent_23, r_Nodes_sameContent_26, r_Nodes_sameContent_27, r_Nodes_sameContent_28, r_Nodes_sameContent_29, r_Nodes_sameContent_31, r_Nodes_sameContent_33, r_Nodes_sameContent_34, r_Nodes_sameContent_37, r_Nodes_sameContent_38, r_Nodes_sameContent_39, r_Nodes_sameContent_41, r_Nodes_sameContent_44, r_Nodes_sameContent_45, r_Nodes_sameContent_46, r_Nodes_sameContent_48, r_Nodes_sameContent_51, r_Nodes_sameContent_54, r_Nodes_sameContent_55, r_Nodes_sameContent_56, r_Nodes_sameContent_59, r_Nodes_sameContent_62, r_Nodes_sameContent_63, ai_aload, ai_iload, ai_callv2, am_push, am_few, ai_istore, am_cut_0, am_cut_s, am_c1, ai_cmpeq, ai_const, ai_zret, ai_callv3, ai_ifeq, ai_cmpge, ai_iinc, ai_goto, kd_0, fd_0_0, fd_0_1, fd_0_2, fd_0_3, fd_0_4, kd_1, fd_1_0, fd_1_1, ln_2, kd_3, fd_3_0, fd_3_1, fd_3_2, fd_3_3, fd_3_4, fd_3_5, fd_3_6, fd_3_7, fd_3_8, fd_3_9, ln_4, ln_5, ln_6, ln_7, ln_8, ln_9, ln_10, kd_11, fd_11_0, fd_11_1, fd_11_2, fd_11_3, fd_11_4, kd_12, fd_12_0, fd_12_1, fd_12_2, fd_12_3, ln_13, ln_14, ln_15, kd_16, fd_16_0, fd_16_1, fd_16_2, ln_17, kd_18, fd_18_0, fd_18_1, kd_19, fd_19_0, fd_19_1, fd_19_2, fd_19_3, fd_19_4, fd_19_5, fd_19_6, fd_19_7, fd_19_8, fd_19_9, fd_19_10, fd_19_11, fd_19_12, fd_19_13, fd_19_14, fd_19_15, fd_19_16, fd_19_17, fd_19_18, fd_19_19, fd_19_20, ln_20, ln_21, ln_22, ln_23, ln_24, ln_25, ln_26, ln_27, ln_28, ln_29, ln_30, ln_31, ln_32, List.getElem?_cons_zero, List.getElem?_cons_succ, List.set_cons_zero, List.set_cons_succ, true_and, and_true, ↓reduceIte, Int32.reduceLT, Int32.reduceLE, li_10, or_true, true_or, ↓sp_Nodes_amountOf, ↓sp_Nodes_isOf, b2_0]
    by_cases c1 : n_amt M x = n_amt M y
    · cases c2 : isN M x 1
      · simp only [c1, c2, ↓reduceIte, decide_true, Bool.true_and, Bool.false_or] at h ⊢
        exact lp_Nodes_sameContent hG (cl (n_amt M y)) 0 (by omega) (Nat.zero_le _) h
      · simp only [c1, c2, ↓reduceIte, decide_true, Bool.true_and, Bool.true_or, Bool.true_eq_false] at h ⊢
        exact h
    · simp only [c1, ↓reduceIte, decide_false, Bool.false_and] at h ⊢
      exact h
  · cases h
/-- likeness: a run along the tails, at most r; f says it of the heads -/
def alL (M : aM) (f : Int32 → Int32 → Bool) : Nat → Int32 → Int32 → Bool
  | 0, _, _ => false
  | r + 1, x, y => if (isN M x 4 && isN M y 4) = true then (f (M 7 (cl x)) (M 7 (cl y)) && alL M f r (M 8 (cl x)) (M 8 (cl y))) else (decide (n_kind M x = n_kind M y) && n_same M x y)
def alk (M : aM) : Nat → Int32 → Int32 → Bool
  | 0, _, _ => false
  | j + 1, x, y => alL M (alk M j) 200 x y
def sp_Nodes_alike (j : Nat) : aS := fun as M K => match as with
  | [.ref a, .int x, .int y, .int d] => a = 3 ∧ (d = nI (16 - j) ∧ j ≤ 16) ∧ K (some (.int (b2 (alk M j x y)))) M
  | _ => False
set_option maxRecDepth 100000 in
set_option maxHeartbeats 4000000 in
theorem lp_Nodes_alike {G : aG} (hG : am_ok G) {K : aR} {M : aM} {x0 y0 : Int32} {j : Nat} (hj : j + 1 ≤ 16) (hI : am_Sp G Y_Nodes_alike (3 + j) (sp_Nodes_alike j)) : ∀ (r k : Nat) (x y : Int32), k + r = 200 → K (some (.int (b2 (alL M (alk M j) r x y)))) M → am_X G Y_Nodes_alike (3 + (j + 1)) K 17 [some (.ref 3), some (.int x0), some (.int y0), some (.int (nI (16 - (j + 1)))), some (.int x), some (.int y), some (.int (nI k))] [] M := by
  intro r
  induction r with
  | zero =>
    intro k x y hk h
    have e1 : ¬ nI k < 200 := nI_nlt (b := 200) (a := k) (by omega) (by omega)
    refine am_from (tb_Nodes_alike (ok_Nodes_isOf hG) (by omega) (ok_Nodes_kindOf hG) (by omega) (ok_Nodes_sameContent hG) (by omega) hI (by omega)) k_Nodes_alike 400 ?_
    simp only [q_Nodes_alike_17, r_Nodes_alike_0, r_Nodes_alike_1, r_Nodes_alike_3, r_Nodes_alike_6, r_Nodes_alike_7, r_Nodes_alike_8, r_Nodes_alike_9, r_Nodes_alike_11, r_Nodes_alike_12, r_Nodes_alike_14, r_Nodes_alike_15, r_Nodes_alike_17, r_Nodes_alike_19, r_Nodes_alike_22, r_Nodes_alike_25, r_Nodes_alike_26, r_Nodes_alike_28, r_Nodes_alike_29, r_Nodes_alike_32, r_Nodes_alike_35, r_Nodes_alike_36, r_Nodes_alike_38, r_Nodes_alike_39, r_Nodes_alike_42, r_Nodes_alike_45, r_Nodes_alike_46, r_Nodes_alike_48, r_Nodes_alike_51, r_Nodes_alike_52, r_Nodes_alike_54, r_Nodes_alike_57, r_Nodes_alike_60, r_Nodes_alike_61, r_Nodes_alike_63, r_Nodes_alike_65, r_Nodes_alike_68, r_Nodes_alike_71, r_Nodes_alike_72, r_Nodes_alike_75, r_Nodes_alike_76, r_Nodes_alike_77, r_Nodes_alike_78, r_Nodes_alike_79, r_Nodes_alike_82, r_Nodes_alike_84, r_Nodes_alike_85, r_Nodes_alike_86, r_Nodes_alike_89, r_Nodes_alike_91, r_Nodes_alike_92, r_Nodes_alike_93, r_Nodes_alike_94, r_Nodes_alike_95, r_Nodes_alike_98, r_Nodes_alike_101, r_Nodes_alike_102, r_Nodes_alike_103, r_Nodes_alike_104, r_Nodes_alike_107, r_Nodes_alike_109, r_Nodes_alike_110, r_Nodes_alike_112, r_Nodes_alike_113, r_Nodes_alike_116, r_Nodes_alike_118, r_Nodes_alike_119, r_Nodes_alike_121, r_Nodes_alike_124, r_Nodes_alike_127, r_Nodes_alike_128, ai_iload, ai_const, ai_cmple, ai_zret, ai_istore, am_cut_0, am_cut_s, am_c1, ai_cmpge, ai_aload, ai_callv3, am_push, am_few, ai_ifeq, ai_ifne, ai_callv2, ai_cmpne, ai_goto, ai_getf, ai_iald, ai_iadd, ai_bin, ai_callv4, ai_iinc, kd_0, fd_0_0, fd_0_1, fd_0_2, fd_0_3, fd_0_4, kd_1, fd_1_0, fd_1_1, ln_2, kd_3, fd_3_0, fd_3_1, fd_3_2, fd_3_3, fd_3_4, fd_3_5, fd_3_6, fd_3_7, fd_3_8, fd_3_9, ln_4, ln_5, ln_6, ln_7, ln_8, ln_9, ln_10, kd_11, fd_11_0, fd_11_1, fd_11_2, fd_11_3, fd_11_4, kd_12, fd_12_0, fd_12_1, fd_12_2, fd_12_3, ln_13, ln_14, ln_15, kd_16, fd_16_0, fd_16_1, fd_16_2, ln_17, kd_18, fd_18_0, fd_18_1, kd_19, fd_19_0, fd_19_1, fd_19_2, fd_19_3, fd_19_4, fd_19_5, fd_19_6, fd_19_7, fd_19_8, fd_19_9, fd_19_10, fd_19_11, fd_19_12, fd_19_13, fd_19_14, fd_19_15, fd_19_16, fd_19_17, fd_19_18, fd_19_19, fd_19_20, ln_20, ln_21, ln_22, ln_23, ln_24, ln_25, ln_26, ln_27, ln_28, ln_29, ln_30, ln_31, ln_32, List.getElem?_cons_zero, List.getElem?_cons_succ, List.set_cons_zero, List.set_cons_succ, true_and, and_true, ↓reduceIte, Int32.reduceLT, Int32.reduceLE, li_10, or_true, true_or, e1]
    exact h
  | succ r ih =>
    intro k x y hk h
    have e1 : nI k < 200 := nI_lt (b := 200) (by omega) (by decide)
    have e3 : nI (16 - (j + 1)) + 1 = nI (16 - j) := by rw [nI_1, show 16 - (j + 1) + 1 = 16 - j by omega]
    refine am_from (tb_Nodes_alike (ok_Nodes_isOf hG) (by omega) (ok_Nodes_kindOf hG) (by omega) (ok_Nodes_sameContent hG) (by omega) hI (by omega)) k_Nodes_alike 400 ?_
    simp only [q_Nodes_alike_17, r_Nodes_alike_0, r_Nodes_alike_1, r_Nodes_alike_3, r_Nodes_alike_6, r_Nodes_alike_7, r_Nodes_alike_8, r_Nodes_alike_9, r_Nodes_alike_11, r_Nodes_alike_12, r_Nodes_alike_14, r_Nodes_alike_15, r_Nodes_alike_17, r_Nodes_alike_19, r_Nodes_alike_22, r_Nodes_alike_25, r_Nodes_alike_26, r_Nodes_alike_28, r_Nodes_alike_29, r_Nodes_alike_32, r_Nodes_alike_35, r_Nodes_alike_36, r_Nodes_alike_38, r_Nodes_alike_39, r_Nodes_alike_42, r_Nodes_alike_45, r_Nodes_alike_46, r_Nodes_alike_48, r_Nodes_alike_51, r_Nodes_alike_52, r_Nodes_alike_54, r_Nodes_alike_57, r_Nodes_alike_60, r_Nodes_alike_61, r_Nodes_alike_63, r_Nodes_alike_65, r_Nodes_alike_68, r_Nodes_alike_71, r_Nodes_alike_72, r_Nodes_alike_75, r_Nodes_alike_76, r_Nodes_alike_77, r_Nodes_alike_78, r_Nodes_alike_79, r_Nodes_alike_82, r_Nodes_alike_84, r_Nodes_alike_85, r_Nodes_alike_86, r_Nodes_alike_89, r_Nodes_alike_91, r_Nodes_alike_92, r_Nodes_alike_93, r_Nodes_alike_94, r_Nodes_alike_95, r_Nodes_alike_98, r_Nodes_alike_101, r_Nodes_alike_102, r_Nodes_alike_103, r_Nodes_alike_104, r_Nodes_alike_107, r_Nodes_alike_109, r_Nodes_alike_110, r_Nodes_alike_112, r_Nodes_alike_113, r_Nodes_alike_116, r_Nodes_alike_118, r_Nodes_alike_119, r_Nodes_alike_121, r_Nodes_alike_124, r_Nodes_alike_127, r_Nodes_alike_128, ai_iload, ai_const, ai_cmple, ai_zret, ai_istore, am_cut_0, am_cut_s, am_c1, ai_cmpge, ai_aload, ai_callv3, am_push, am_few, ai_ifeq, ai_ifne, ai_callv2, ai_cmpne, ai_goto, ai_getf, ai_iald, ai_iadd, ai_bin, ai_callv4, ai_iinc, kd_0, fd_0_0, fd_0_1, fd_0_2, fd_0_3, fd_0_4, kd_1, fd_1_0, fd_1_1, ln_2, kd_3, fd_3_0, fd_3_1, fd_3_2, fd_3_3, fd_3_4, fd_3_5, fd_3_6, fd_3_7, fd_3_8, fd_3_9, ln_4, ln_5, ln_6, ln_7, ln_8, ln_9, ln_10, kd_11, fd_11_0, fd_11_1, fd_11_2, fd_11_3, fd_11_4, kd_12, fd_12_0, fd_12_1, fd_12_2, fd_12_3, ln_13, ln_14, ln_15, kd_16, fd_16_0, fd_16_1, fd_16_2, ln_17, kd_18, fd_18_0, fd_18_1, kd_19, fd_19_0, fd_19_1, fd_19_2, fd_19_3, fd_19_4, fd_19_5, fd_19_6, fd_19_7, fd_19_8, fd_19_9, fd_19_10, fd_19_11, fd_19_12, fd_19_13, fd_19_14, fd_19_15, fd_19_16, fd_19_17, fd_19_18, fd_19_19, fd_19_20, ln_20, ln_21, ln_22, ln_23, ln_24, ln_25, ln_26, ln_27, ln_28, ln_29, ln_30, ln_31, ln_32, List.getElem?_cons_zero, List.getElem?_cons_succ, List.set_cons_zero, List.set_cons_succ, true_and, and_true, ↓reduceIte, Int32.reduceLT, Int32.reduceLE, li_10, or_true, true_or, ↓sp_Nodes_isOf, ↓sp_Nodes_kindOf, ↓sp_Nodes_sameContent, ↓sp_Nodes_alike, e1, e3, nI_1, b2_0]
    simp only [alL] at h
    have g := ih (k + 1) (M 8 (cl x)) (M 8 (cl y)) (by omega)
    cases c1 : isN M x 4
    · simp only [c1, Bool.false_and, Bool.false_eq_true, ↓reduceIte] at h ⊢
      by_cases c3 : n_kind M x = n_kind M y
      · cases c4 : n_same M x y
        · simp only [c3, c4, decide_true, Bool.true_and, ↓reduceIte] at h ⊢; exact h
        · simp only [c3, c4, decide_true, Bool.true_and, ↓reduceIte, Bool.true_eq_false] at h ⊢; exact h
      · simp only [c3, decide_false, Bool.false_and, ↓reduceIte] at h ⊢; exact h
    · cases c2 : isN M y 4
      · simp only [c1, c2, Bool.and_false, Bool.false_eq_true, Bool.true_eq_false, ↓reduceIte] at h ⊢
        by_cases c3 : n_kind M x = n_kind M y
        · cases c4 : n_same M x y
          · simp only [c3, c4, decide_true, Bool.true_and, ↓reduceIte] at h ⊢; exact h
          · simp only [c3, c4, decide_true, Bool.true_and, ↓reduceIte, Bool.true_eq_false] at h ⊢; exact h
        · simp only [c3, decide_false, Bool.false_and, ↓reduceIte] at h ⊢; exact h
      · simp only [c1, c2, Bool.and_true, Bool.true_eq_false, ↓reduceIte] at h ⊢
        refine ⟨isN_in c1, isN_in c2, by omega, ?_⟩
        cases c5 : alk M j (M 7 (cl x)) (M 7 (cl y))
        · simp only [c5, Bool.false_and, ↓reduceIte] at h ⊢; exact h
        · simp only [c5, Bool.true_and, Bool.true_eq_false, ↓reduceIte] at h ⊢
          exact ⟨isN_in c1, isN_in c2, g h⟩
set_option maxRecDepth 100000 in
set_option maxHeartbeats 4000000 in
theorem ok_Nodes_alike {G : aG} (hG : am_ok G) : ∀ j, am_Sp G Y_Nodes_alike (3 + j) (sp_Nodes_alike j) := by
  intro j
  induction j with
  | zero =>
    intro as M K h
    unfold sp_Nodes_alike at h
    split at h
    · next a x y d =>
      obtain ⟨rfl, ⟨rfl, -⟩, h⟩ := h
      have e1 : (15 : Int32) < nI (16 - 0) := by decide
      refine am_entry hG (by decide +kernel) (Nat.le_of_ble_eq_true rfl) ?_
      refine am_go (cuts := k_Nodes_alike) (tb_Nodes_alike (ok_Nodes_isOf hG) (by omega) (ok_Nodes_kindOf hG) (by omega) (ok_Nodes_sameContent hG) (by omega) (s_Nodes_alike := fun _ _ _ => False) (d_Nodes_alike := 0) (fun _ _ _ q => q.elim) (by omega)) 400 _ _ _ _ ?_
      change am_run _ _ _ _ _ _ [some (.ref 3), some (.int x), some (.int y), some (.int (nI (16 - 0))), none, none, none] [] _
      simp only [q_Nodes_alike_17, r_Nodes_alike_0, r_Nodes_alike_1, r_Nodes_alike_3, r_Nodes_alike_6, r_Nodes_alike_7, r_Nodes_alike_8, r_Nodes_alike_9, r_Nodes_alike_11, r_Nodes_alike_12, r_Nodes_alike_14, r_Nodes_alike_15, r_Nodes_alike_17, r_Nodes_alike_19, r_Nodes_alike_22, r_Nodes_alike_25, r_Nodes_alike_26, r_Nodes_alike_28, r_Nodes_alike_29, r_Nodes_alike_32, r_Nodes_alike_35, r_Nodes_alike_36, r_Nodes_alike_38, r_Nodes_alike_39, r_Nodes_alike_42, r_Nodes_alike_45, r_Nodes_alike_46, r_Nodes_alike_48, r_Nodes_alike_51, r_Nodes_alike_52, r_Nodes_alike_54, r_Nodes_alike_57, r_Nodes_alike_60, r_Nodes_alike_61, r_Nodes_alike_63, r_Nodes_alike_65, r_Nodes_alike_68, r_Nodes_alike_71, r_Nodes_alike_72, r_Nodes_alike_75, r_Nodes_alike_76, r_Nodes_alike_77, r_Nodes_alike_78, r_Nodes_alike_79, r_Nodes_alike_82, r_Nodes_alike_84, r_Nodes_alike_85, r_Nodes_alike_86, r_Nodes_alike_89, r_Nodes_alike_91, r_Nodes_alike_92, r_Nodes_alike_93, r_Nodes_alike_94, r_Nodes_alike_95, r_Nodes_alike_98, r_Nodes_alike_101, r_Nodes_alike_102, r_Nodes_alike_103, r_Nodes_alike_104, r_Nodes_alike_107, r_Nodes_alike_109, r_Nodes_alike_110, r_Nodes_alike_112, r_Nodes_alike_113, r_Nodes_alike_116, r_Nodes_alike_118, r_Nodes_alike_119, r_Nodes_alike_121, r_Nodes_alike_124, r_Nodes_alike_127, r_Nodes_alike_128, ai_iload, ai_const, ai_cmple, ai_zret, ai_istore, am_cut_0, am_cut_s, am_c1, ai_cmpge, ai_aload, ai_callv3, am_push, am_few, ai_ifeq, ai_ifne, ai_callv2, ai_cmpne, ai_goto, ai_getf, ai_iald, ai_iadd, ai_bin, ai_callv4, ai_iinc, kd_0, fd_0_0, fd_0_1, fd_0_2, fd_0_3, fd_0_4, kd_1, fd_1_0, fd_1_1, ln_2, kd_3, fd_3_0, fd_3_1, fd_3_2, fd_3_3, fd_3_4, fd_3_5, fd_3_6, fd_3_7, fd_3_8, fd_3_9, ln_4, ln_5, ln_6, ln_7, ln_8, ln_9, ln_10, kd_11, fd_11_0, fd_11_1, fd_11_2, fd_11_3, fd_11_4, kd_12, fd_12_0, fd_12_1, fd_12_2, fd_12_3, ln_13, ln_14, ln_15, kd_16, fd_16_0, fd_16_1, fd_16_2, ln_17, kd_18, fd_18_0, fd_18_1, kd_19, fd_19_0, fd_19_1, fd_19_2, fd_19_3, fd_19_4, fd_19_5, fd_19_6, fd_19_7, fd_19_8, fd_19_9, fd_19_10, fd_19_11, fd_19_12, fd_19_13, fd_19_14, fd_19_15, fd_19_16, fd_19_17, fd_19_18, fd_19_19, fd_19_20, ln_20, ln_21, ln_22, ln_23, ln_24, ln_25, ln_26, ln_27, ln_28, ln_29, ln_30, ln_31, ln_32, List.getElem?_cons_zero, List.getElem?_cons_succ, List.set_cons_zero, List.set_cons_succ, true_and, and_true, ↓reduceIte, Int32.reduceLT, Int32.reduceLE, li_10, or_true, true_or, e1]
      exact h
    · cases h
  | succ j ih =>
    intro as M K h
    unfold sp_Nodes_alike at h
    split at h
    · next a x y d =>
      obtain ⟨rfl, ⟨rfl, hj⟩, h⟩ := h
      have e1 : ¬ (15 : Int32) < nI (16 - (j + 1)) := nI_nlt (a := 15) (b := 16 - (j + 1)) (by omega) (by decide)
      refine am_entry hG (by decide +kernel) (Nat.le_of_ble_eq_true rfl) ?_
      refine am_go (cuts := k_Nodes_alike) (tb_Nodes_alike (ok_Nodes_isOf hG) (by omega) (ok_Nodes_kindOf hG) (by omega) (ok_Nodes_sameContent hG) (by omega) ih (by omega)) 400 _ _ _ _ ?_
      change am_run _ _ _ _ _ _ [some (.ref 3), some (.int x), some (.int y), some (.int (nI (16 - (j + 1)))), none, none, none] [] _
      simp only [q_Nodes_alike_17, r_Nodes_alike_0, r_Nodes_alike_1, r_Nodes_alike_3, r_Nodes_alike_6, r_Nodes_alike_7, r_Nodes_alike_8, r_Nodes_alike_9, r_Nodes_alike_11, r_Nodes_alike_12, r_Nodes_alike_14, r_Nodes_alike_15, r_Nodes_alike_17, r_Nodes_alike_19, r_Nodes_alike_22, r_Nodes_alike_25, r_Nodes_alike_26, r_Nodes_alike_28, r_Nodes_alike_29, r_Nodes_alike_32, r_Nodes_alike_35, r_Nodes_alike_36, r_Nodes_alike_38, r_Nodes_alike_39, r_Nodes_alike_42, r_Nodes_alike_45, r_Nodes_alike_46, r_Nodes_alike_48, r_Nodes_alike_51, r_Nodes_alike_52, r_Nodes_alike_54, r_Nodes_alike_57, r_Nodes_alike_60, r_Nodes_alike_61, r_Nodes_alike_63, r_Nodes_alike_65, r_Nodes_alike_68, r_Nodes_alike_71, r_Nodes_alike_72, r_Nodes_alike_75, r_Nodes_alike_76, r_Nodes_alike_77, r_Nodes_alike_78, r_Nodes_alike_79, r_Nodes_alike_82, r_Nodes_alike_84, r_Nodes_alike_85, r_Nodes_alike_86, r_Nodes_alike_89, r_Nodes_alike_91, r_Nodes_alike_92, r_Nodes_alike_93, r_Nodes_alike_94, r_Nodes_alike_95, r_Nodes_alike_98, r_Nodes_alike_101, r_Nodes_alike_102, r_Nodes_alike_103, r_Nodes_alike_104, r_Nodes_alike_107, r_Nodes_alike_109, r_Nodes_alike_110, r_Nodes_alike_112, r_Nodes_alike_113, r_Nodes_alike_116, r_Nodes_alike_118, r_Nodes_alike_119, r_Nodes_alike_121, r_Nodes_alike_124, r_Nodes_alike_127, r_Nodes_alike_128, ai_iload, ai_const, ai_cmple, ai_zret, ai_istore, am_cut_0, am_cut_s, am_c1, ai_cmpge, ai_aload, ai_callv3, am_push, am_few, ai_ifeq, ai_ifne, ai_callv2, ai_cmpne, ai_goto, ai_getf, ai_iald, ai_iadd, ai_bin, ai_callv4, ai_iinc, kd_0, fd_0_0, fd_0_1, fd_0_2, fd_0_3, fd_0_4, kd_1, fd_1_0, fd_1_1, ln_2, kd_3, fd_3_0, fd_3_1, fd_3_2, fd_3_3, fd_3_4, fd_3_5, fd_3_6, fd_3_7, fd_3_8, fd_3_9, ln_4, ln_5, ln_6, ln_7, ln_8, ln_9, ln_10, kd_11, fd_11_0, fd_11_1, fd_11_2, fd_11_3, fd_11_4, kd_12, fd_12_0, fd_12_1, fd_12_2, fd_12_3, ln_13, ln_14, ln_15, kd_16, fd_16_0, fd_16_1, fd_16_2, ln_17, kd_18, fd_18_0, fd_18_1, kd_19, fd_19_0, fd_19_1, fd_19_2, fd_19_3, fd_19_4, fd_19_5, fd_19_6, fd_19_7, fd_19_8, fd_19_9, fd_19_10, fd_19_11, fd_19_12, fd_19_13, fd_19_14, fd_19_15, fd_19_16, fd_19_17, fd_19_18, fd_19_19, fd_19_20, ln_20, ln_21, ln_22, ln_23, ln_24, ln_25, ln_26, ln_27, ln_28, ln_29, ln_30, ln_31, ln_32, List.getElem?_cons_zero, List.getElem?_cons_succ, List.set_cons_zero, List.set_cons_succ, true_and, and_true, ↓reduceIte, Int32.reduceLT, Int32.reduceLE, li_10, or_true, true_or, e1]
      exact lp_Nodes_alike hG hj ih 200 0 x y rfl h
    · cases h
