/-! THE REFERENCE: bytes and tokens, in the words of the desk's own -/
theorem am_up_up (M : aM) (i j : Nat) (x y : Int32) : am_up (am_up M i j x) i j y = am_up M i j y := by
  funext a b
  unfold am_up upd
  by_cases h : a = i
  · subst h
    simp only [↓reduceIte]
    split <;> rfl
  · simp only [h, ↓reduceIte]
theorem am_up_id (M : aM) (i j : Nat) : am_up M i j (M i j) = M := by
  funext a b
  unfold am_up upd
  by_cases h : a = i
  · subst h
    simp only [↓reduceIte]
    split
    · next q => rw [q]
    · rfl
  · simp only [h, ↓reduceIte]
def bgB (b : Int32) : Bool := (!(decide (b < 97)) && !(decide (122 < b))) || decide (b = 43) || decide (b = 42) || decide (b = 47) || decide (b = 61) || decide (b = 60) || decide (b = 62) || decide (b = 33) || decide (b = 63)
theorem wB_eq (b : Int32) : wB b = (bgB b || dgB b || decide (b = 45)) := by
  unfold wB bgB dgB
  ac_rfl
def sp_Model_isDigit : aS := fun as M K => match as with
  | [.int b] => K (some (.int (b2 (dgB b)))) M
  | _ => False
set_option maxRecDepth 100000 in
set_option maxHeartbeats 4000000 in
theorem ok_Model_isDigit {G : aG} (hG : am_ok G) : am_Sp G Y_Model_isDigit 0 sp_Model_isDigit := by
  intro as M K h
  unfold sp_Model_isDigit at h
  split at h
  · next b =>
    refine am_entry hG (by decide +kernel) (Nat.le_of_ble_eq_true rfl) ?_
    refine am_go (cuts := k_Model_isDigit) tb_Model_isDigit 400 _ _ _ _ ?_
    change am_run _ _ _ _ _ _ [some (.int b)] [] _
    simp only [r_Model_isDigit_0, r_Model_isDigit_1, r_Model_isDigit_3, r_Model_isDigit_6, r_Model_isDigit_7, r_Model_isDigit_9, r_Model_isDigit_12, r_Model_isDigit_13, r_Model_isDigit_16, r_Model_isDigit_17, ai_iload, ai_const, ai_cmplt, ai_cmpgt, ai_goto, ai_zret, List.getElem?_cons_zero, List.getElem?_cons_succ, List.set_cons_zero, List.set_cons_succ, true_and, and_true, ↓reduceIte, Int32.reduceLT, Int32.reduceLE, li_10, or_true, true_or]
    unfold dgB at h
    (repeat' split) <;> simp_all [b2]
  · cases h
def sp_Model_isBegin : aS := fun as M K => match as with
  | [.int b] => K (some (.int (b2 (bgB b)))) M
  | _ => False
set_option maxRecDepth 100000 in
set_option maxHeartbeats 4000000 in
theorem ok_Model_isBegin {G : aG} (hG : am_ok G) : am_Sp G Y_Model_isBegin 0 sp_Model_isBegin := by
  intro as M K h
  unfold sp_Model_isBegin at h
  split at h
  · next b =>
    refine am_entry hG (by decide +kernel) (Nat.le_of_ble_eq_true rfl) ?_
    refine am_go (cuts := k_Model_isBegin) tb_Model_isBegin 400 _ _ _ _ ?_
    change am_run _ _ _ _ _ _ [some (.int b)] [] _
    simp only [r_Model_isBegin_0, r_Model_isBegin_1, r_Model_isBegin_3, r_Model_isBegin_6, r_Model_isBegin_7, r_Model_isBegin_9, r_Model_isBegin_12, r_Model_isBegin_13, r_Model_isBegin_15, r_Model_isBegin_18, r_Model_isBegin_19, r_Model_isBegin_21, r_Model_isBegin_24, r_Model_isBegin_25, r_Model_isBegin_27, r_Model_isBegin_30, r_Model_isBegin_31, r_Model_isBegin_33, r_Model_isBegin_36, r_Model_isBegin_37, r_Model_isBegin_39, r_Model_isBegin_42, r_Model_isBegin_43, r_Model_isBegin_45, r_Model_isBegin_48, r_Model_isBegin_49, r_Model_isBegin_51, r_Model_isBegin_54, r_Model_isBegin_55, r_Model_isBegin_57, r_Model_isBegin_60, r_Model_isBegin_61, r_Model_isBegin_64, r_Model_isBegin_65, ai_iload, ai_const, ai_cmplt, ai_cmple, ai_cmpeq, ai_cmpne, ai_goto, ai_zret, List.getElem?_cons_zero, List.getElem?_cons_succ, List.set_cons_zero, List.set_cons_succ, true_and, and_true, ↓reduceIte, Int32.reduceLT, Int32.reduceLE, li_10, or_true, true_or]
    unfold bgB at h
    (repeat' split) <;> simp_all [b2]
  · cases h
def sp_Model_isByte : aS := fun as M K => match as with
  | [.int b] => K (some (.int (b2 (wB b)))) M
  | _ => False
set_option maxRecDepth 100000 in
set_option maxHeartbeats 4000000 in
theorem ok_Model_isByte {G : aG} (hG : am_ok G) : am_Sp G Y_Model_isByte 1 sp_Model_isByte := by
  intro as M K h
  unfold sp_Model_isByte at h
  split at h
  · next b =>
    rw [wB_eq] at h
    refine am_entry hG (by decide +kernel) (Nat.le_of_ble_eq_true rfl) ?_
    refine am_go (cuts := k_Model_isByte) (tb_Model_isByte (ok_Model_isBegin hG) (by decide) (ok_Model_isDigit hG) (by decide)) 400 _ _ _ _ ?_
    change am_run _ _ _ _ _ _ [some (.int b)] [] _
    simp only [r_Model_isByte_0, r_Model_isByte_1, r_Model_isByte_4, r_Model_isByte_7, r_Model_isByte_8, r_Model_isByte_11, r_Model_isByte_14, r_Model_isByte_15, r_Model_isByte_17, r_Model_isByte_20, r_Model_isByte_21, r_Model_isByte_24, r_Model_isByte_25, ai_iload, ai_calls1, am_push, am_few, ai_ifne, ai_const, ai_cmpne, ai_goto, ai_zret, kd_0, fd_0_0, fd_0_1, fd_0_2, fd_0_3, fd_0_4, kd_1, fd_1_0, fd_1_1, ln_2, kd_3, fd_3_0, fd_3_1, fd_3_2, fd_3_3, fd_3_4, fd_3_5, fd_3_6, fd_3_7, fd_3_8, fd_3_9, ln_4, ln_5, ln_6, ln_7, ln_8, ln_9, ln_10, kd_11, fd_11_0, fd_11_1, fd_11_2, fd_11_3, fd_11_4, kd_12, fd_12_0, fd_12_1, fd_12_2, fd_12_3, ln_13, ln_14, ln_15, kd_16, fd_16_0, fd_16_1, fd_16_2, ln_17, kd_18, fd_18_0, fd_18_1, kd_19, fd_19_0, fd_19_1, fd_19_2, fd_19_3, fd_19_4, fd_19_5, fd_19_6, fd_19_7, fd_19_8, fd_19_9, fd_19_10, fd_19_11, fd_19_12, fd_19_13, fd_19_14, fd_19_15, fd_19_16, fd_19_17, fd_19_18, fd_19_19, fd_19_20, ln_20, ln_21, ln_22, ln_23, ln_24, ln_25, ln_26, ln_27, ln_28, ln_29, ln_30, ln_31, ln_32, List.getElem?_cons_zero, List.getElem?_cons_succ, List.set_cons_zero, List.set_cons_succ, true_and, and_true, ↓reduceIte, Int32.reduceLT, Int32.reduceLE, li_10, or_true, true_or, ↓sp_Model_isBegin, ↓sp_Model_isDigit, b2_eq0]
    cases c1 : bgB b
    · cases c2 : dgB b
      · by_cases c3 : b = 45
        · simp [c1, c2, c3, b2] at h ⊢; exact h
        · simp [c1, c2, c3, b2] at h ⊢; exact h
      · simp [c1, c2, b2] at h ⊢; exact h
    · simp [c1, b2] at h ⊢; exact h
  · cases h
def tb_ok (M : aM) : Prop := ∀ i, i < m_tl M → ¬ M 20 i < 0
def at_ok (M : aM) : Prop := M 19 2 = nI (cl (M 19 2)) ∧ cl (M 19 2) ≤ m_tl M
theorem m_at_bt {M : aM} {p j : Nat} (ht : mt_ok M) (hp : M 19 2 = nI p) (hj : p + j < 2 ^ 31) : m_at M (nI j) = bt (M 20) (m_tl M) (p + j) := by
  unfold m_at bt
  rw [hp, nI_add, if_neg (nI_pos hj), ht.1]
  have e := nI_ltI (a := p + j) (b := m_tl M) hj (by have := ht.2; omega)
  have e2 : m_tl M = cl (M 19 1) := rfl
  by_cases q : p + j < m_tl M
  · rw [if_pos (e.mpr q), if_pos q, show cl (nI (p + j)) = p + j from nI_clamp hj]
  · rw [if_neg (fun z => q (e.mp z)), if_neg q]
theorem m_at_0 {M : aM} {p : Nat} (ht : mt_ok M) (hp : p ≤ 400) : m_at (am_up M 19 2 (nI p)) 0 = bt (M 20) (m_tl M) p := m_at_bt (M := am_up M 19 2 (nI p)) (j := 0) ht rfl (by omega)
def sp_Model_skip : aS := fun as M K => match as with
  | [.ref a] => a = 19 ∧ (mt_ok M ∧ tb_ok M ∧ at_ok M) ∧ K none (am_up M 19 2 (nI (skB (M 20) (m_tl M - cl (M 19 2)) false (cl (M 19 2)))))
  | _ => False
set_option maxRecDepth 100000 in
set_option maxHeartbeats 4000000 in
theorem lp_Model_skip {G : aG} (hG : am_ok G) {K : aR} {M0 : aM} (ht : mt_ok M0) (hb : tb_ok M0) : ∀ k p, p + k = m_tl M0 →
    (∀ o2, K none (am_up M0 19 2 (nI (skB (M0 20) k false p))) → am_X G Y_Model_skip 1 K 2 [some (.ref 19), some (.int 1), o2] [] (am_up M0 19 2 (nI p))) ∧
    (K none (am_up M0 19 2 (nI (skB (M0 20) k true p))) → am_X G Y_Model_skip 1 K 36 [some (.ref 19), some (.int 1), some (.int 59)] [] (am_up M0 19 2 (nI p))) := by
  intro k
  have li59 : ((59 : Int32) = 32) = False := eq_false (by decide)
  have lj59 : ((59 : Int32) = 10) = False := eq_false (by decide)
  have n1 : ((-1 : Int32) = 32) = False := eq_false (by decide)
  have n2 : ((-1 : Int32) = 10) = False := eq_false (by decide)
  have n3 : ((-1 : Int32) = 59) = False := eq_false (by decide)
  have Z : ∀ (M : aM) (o2 : Option Value), K none M → am_X G Y_Model_skip 1 K 2 [some (.ref 19), some (.int 0), o2] [] M := by
    intro M o2 h
    refine am_from (tb_Model_skip (ok_Model_peek hG) (by decide)) k_Model_skip 400 ?_
    simp only [q_Model_skip_2, q_Model_skip_36, r_Model_skip_0, r_Model_skip_1, r_Model_skip_2, r_Model_skip_3, r_Model_skip_6, r_Model_skip_7, r_Model_skip_8, r_Model_skip_11, r_Model_skip_12, r_Model_skip_13, r_Model_skip_15, r_Model_skip_18, r_Model_skip_19, r_Model_skip_21, r_Model_skip_24, r_Model_skip_25, r_Model_skip_27, r_Model_skip_30, r_Model_skip_31, r_Model_skip_34, r_Model_skip_35, r_Model_skip_36, r_Model_skip_37, r_Model_skip_39, r_Model_skip_42, r_Model_skip_43, r_Model_skip_44, r_Model_skip_47, r_Model_skip_50, r_Model_skip_51, r_Model_skip_52, r_Model_skip_55, r_Model_skip_57, r_Model_skip_60, r_Model_skip_61, r_Model_skip_62, r_Model_skip_65, r_Model_skip_66, r_Model_skip_67, r_Model_skip_70, r_Model_skip_73, r_Model_skip_74, r_Model_skip_76, r_Model_skip_79, r_Model_skip_80, r_Model_skip_82, r_Model_skip_85, r_Model_skip_86, r_Model_skip_87, r_Model_skip_90, r_Model_skip_91, r_Model_skip_92, r_Model_skip_95, r_Model_skip_98, ai_const, ai_istore, am_cut_0, am_cut_s, am_c1, ai_iload, ai_ifeq, ai_aload, ai_callv2, am_push, am_few, ai_cmpeq, ai_cmpne, ai_goto, ai_iflt, ai_getf, ai_iadd, ai_bin, ai_putf, ai_vret, kd_0, fd_0_0, fd_0_1, fd_0_2, fd_0_3, fd_0_4, kd_1, fd_1_0, fd_1_1, ln_2, kd_3, fd_3_0, fd_3_1, fd_3_2, fd_3_3, fd_3_4, fd_3_5, fd_3_6, fd_3_7, fd_3_8, fd_3_9, ln_4, ln_5, ln_6, ln_7, ln_8, ln_9, ln_10, kd_11, fd_11_0, fd_11_1, fd_11_2, fd_11_3, fd_11_4, kd_12, fd_12_0, fd_12_1, fd_12_2, fd_12_3, ln_13, ln_14, ln_15, kd_16, fd_16_0, fd_16_1, fd_16_2, ln_17, kd_18, fd_18_0, fd_18_1, kd_19, fd_19_0, fd_19_1, fd_19_2, fd_19_3, fd_19_4, fd_19_5, fd_19_6, fd_19_7, fd_19_8, fd_19_9, fd_19_10, fd_19_11, fd_19_12, fd_19_13, fd_19_14, fd_19_15, fd_19_16, fd_19_17, fd_19_18, fd_19_19, fd_19_20, ln_20, ln_21, ln_22, ln_23, ln_24, ln_25, ln_26, ln_27, ln_28, ln_29, ln_30, ln_31, ln_32, List.getElem?_cons_zero, List.getElem?_cons_succ, List.set_cons_zero, List.set_cons_succ, true_and, and_true, ↓reduceIte, Int32.reduceLT, Int32.reduceLE, li_10, or_true, true_or, ↓sp_Model_peek]
    exact h
  have htl : ∀ p, mt_ok (am_up M0 19 2 (nI p)) := fun p => ht
  induction k with
  | zero =>
    intro p hp
    have hp4 : p ≤ 400 := by have := ht.2; omega
    have h0 : m_at (am_up M0 19 2 (nI p)) 0 = -1 := by
      rw [m_at_0 ht hp4]
      unfold bt
      rw [if_neg (by omega)]
    have htp := htl p
    have A : ∀ o2, K none (am_up M0 19 2 (nI (skB (M0 20) 0 false p))) → am_X G Y_Model_skip 1 K 2 [some (.ref 19), some (.int 1), o2] [] (am_up M0 19 2 (nI p)) := by
      intro o2 h
      have z2 : am_X G Y_Model_skip 1 K 36 [some (.ref 19), some (.int 0), some (.int (-1))] [] (am_up M0 19 2 (nI p)) := by
        refine am_from (tb_Model_skip (ok_Model_peek hG) (by decide)) k_Model_skip 400 ?_
        simp only [q_Model_skip_2, q_Model_skip_36, r_Model_skip_0, r_Model_skip_1, r_Model_skip_2, r_Model_skip_3, r_Model_skip_6, r_Model_skip_7, r_Model_skip_8, r_Model_skip_11, r_Model_skip_12, r_Model_skip_13, r_Model_skip_15, r_Model_skip_18, r_Model_skip_19, r_Model_skip_21, r_Model_skip_24, r_Model_skip_25, r_Model_skip_27, r_Model_skip_30, r_Model_skip_31, r_Model_skip_34, r_Model_skip_35, r_Model_skip_36, r_Model_skip_37, r_Model_skip_39, r_Model_skip_42, r_Model_skip_43, r_Model_skip_44, r_Model_skip_47, r_Model_skip_50, r_Model_skip_51, r_Model_skip_52, r_Model_skip_55, r_Model_skip_57, r_Model_skip_60, r_Model_skip_61, r_Model_skip_62, r_Model_skip_65, r_Model_skip_66, r_Model_skip_67, r_Model_skip_70, r_Model_skip_73, r_Model_skip_74, r_Model_skip_76, r_Model_skip_79, r_Model_skip_80, r_Model_skip_82, r_Model_skip_85, r_Model_skip_86, r_Model_skip_87, r_Model_skip_90, r_Model_skip_91, r_Model_skip_92, r_Model_skip_95, r_Model_skip_98, ai_const, ai_istore, am_cut_0, am_cut_s, am_c1, ai_iload, ai_ifeq, ai_aload, ai_callv2, am_push, am_few, ai_cmpeq, ai_cmpne, ai_goto, ai_iflt, ai_getf, ai_iadd, ai_bin, ai_putf, ai_vret, kd_0, fd_0_0, fd_0_1, fd_0_2, fd_0_3, fd_0_4, kd_1, fd_1_0, fd_1_1, ln_2, kd_3, fd_3_0, fd_3_1, fd_3_2, fd_3_3, fd_3_4, fd_3_5, fd_3_6, fd_3_7, fd_3_8, fd_3_9, ln_4, ln_5, ln_6, ln_7, ln_8, ln_9, ln_10, kd_11, fd_11_0, fd_11_1, fd_11_2, fd_11_3, fd_11_4, kd_12, fd_12_0, fd_12_1, fd_12_2, fd_12_3, ln_13, ln_14, ln_15, kd_16, fd_16_0, fd_16_1, fd_16_2, ln_17, kd_18, fd_18_0, fd_18_1, kd_19, fd_19_0, fd_19_1, fd_19_2, fd_19_3, fd_19_4, fd_19_5, fd_19_6, fd_19_7, fd_19_8, fd_19_9, fd_19_10, fd_19_11, fd_19_12, fd_19_13, fd_19_14, fd_19_15, fd_19_16, fd_19_17, fd_19_18, fd_19_19, fd_19_20, ln_20, ln_21, ln_22, ln_23, ln_24, ln_25, ln_26, ln_27, ln_28, ln_29, ln_30, ln_31, ln_32, List.getElem?_cons_zero, List.getElem?_cons_succ, List.set_cons_zero, List.set_cons_succ, true_and, and_true, ↓reduceIte, Int32.reduceLT, Int32.reduceLE, li_10, or_true, true_or, ↓sp_Model_peek, n1, n2, n3]
        exact Z _ _ h
      refine am_from (tb_Model_skip (ok_Model_peek hG) (by decide)) k_Model_skip 400 ?_
      simp only [q_Model_skip_2, q_Model_skip_36, r_Model_skip_0, r_Model_skip_1, r_Model_skip_2, r_Model_skip_3, r_Model_skip_6, r_Model_skip_7, r_Model_skip_8, r_Model_skip_11, r_Model_skip_12, r_Model_skip_13, r_Model_skip_15, r_Model_skip_18, r_Model_skip_19, r_Model_skip_21, r_Model_skip_24, r_Model_skip_25, r_Model_skip_27, r_Model_skip_30, r_Model_skip_31, r_Model_skip_34, r_Model_skip_35, r_Model_skip_36, r_Model_skip_37, r_Model_skip_39, r_Model_skip_42, r_Model_skip_43, r_Model_skip_44, r_Model_skip_47, r_Model_skip_50, r_Model_skip_51, r_Model_skip_52, r_Model_skip_55, r_Model_skip_57, r_Model_skip_60, r_Model_skip_61, r_Model_skip_62, r_Model_skip_65, r_Model_skip_66, r_Model_skip_67, r_Model_skip_70, r_Model_skip_73, r_Model_skip_74, r_Model_skip_76, r_Model_skip_79, r_Model_skip_80, r_Model_skip_82, r_Model_skip_85, r_Model_skip_86, r_Model_skip_87, r_Model_skip_90, r_Model_skip_91, r_Model_skip_92, r_Model_skip_95, r_Model_skip_98, ai_const, ai_istore, am_cut_0, am_cut_s, am_c1, ai_iload, ai_ifeq, ai_aload, ai_callv2, am_push, am_few, ai_cmpeq, ai_cmpne, ai_goto, ai_iflt, ai_getf, ai_iadd, ai_bin, ai_putf, ai_vret, kd_0, fd_0_0, fd_0_1, fd_0_2, fd_0_3, fd_0_4, kd_1, fd_1_0, fd_1_1, ln_2, kd_3, fd_3_0, fd_3_1, fd_3_2, fd_3_3, fd_3_4, fd_3_5, fd_3_6, fd_3_7, fd_3_8, fd_3_9, ln_4, ln_5, ln_6, ln_7, ln_8, ln_9, ln_10, kd_11, fd_11_0, fd_11_1, fd_11_2, fd_11_3, fd_11_4, kd_12, fd_12_0, fd_12_1, fd_12_2, fd_12_3, ln_13, ln_14, ln_15, kd_16, fd_16_0, fd_16_1, fd_16_2, ln_17, kd_18, fd_18_0, fd_18_1, kd_19, fd_19_0, fd_19_1, fd_19_2, fd_19_3, fd_19_4, fd_19_5, fd_19_6, fd_19_7, fd_19_8, fd_19_9, fd_19_10, fd_19_11, fd_19_12, fd_19_13, fd_19_14, fd_19_15, fd_19_16, fd_19_17, fd_19_18, fd_19_19, fd_19_20, ln_20, ln_21, ln_22, ln_23, ln_24, ln_25, ln_26, ln_27, ln_28, ln_29, ln_30, ln_31, ln_32, List.getElem?_cons_zero, List.getElem?_cons_succ, List.set_cons_zero, List.set_cons_succ, true_and, and_true, ↓reduceIte, Int32.reduceLT, Int32.reduceLE, li_10, or_true, true_or, ↓sp_Model_peek, htp, h0, n1, n2, n3]
      exact z2
    refine ⟨A, fun h => ?_⟩
    refine am_from (tb_Model_skip (ok_Model_peek hG) (by decide)) k_Model_skip 400 ?_
    simp only [q_Model_skip_2, q_Model_skip_36, r_Model_skip_0, r_Model_skip_1, r_Model_skip_2, r_Model_skip_3, r_Model_skip_6, r_Model_skip_7, r_Model_skip_8, r_Model_skip_11, r_Model_skip_12, r_Model_skip_13, r_Model_skip_15, r_Model_skip_18, r_Model_skip_19, r_Model_skip_21, r_Model_skip_24, r_Model_skip_25, r_Model_skip_27, r_Model_skip_30, r_Model_skip_31, r_Model_skip_34, r_Model_skip_35, r_Model_skip_36, r_Model_skip_37, r_Model_skip_39, r_Model_skip_42, r_Model_skip_43, r_Model_skip_44, r_Model_skip_47, r_Model_skip_50, r_Model_skip_51, r_Model_skip_52, r_Model_skip_55, r_Model_skip_57, r_Model_skip_60, r_Model_skip_61, r_Model_skip_62, r_Model_skip_65, r_Model_skip_66, r_Model_skip_67, r_Model_skip_70, r_Model_skip_73, r_Model_skip_74, r_Model_skip_76, r_Model_skip_79, r_Model_skip_80, r_Model_skip_82, r_Model_skip_85, r_Model_skip_86, r_Model_skip_87, r_Model_skip_90, r_Model_skip_91, r_Model_skip_92, r_Model_skip_95, r_Model_skip_98, ai_const, ai_istore, am_cut_0, am_cut_s, am_c1, ai_iload, ai_ifeq, ai_aload, ai_callv2, am_push, am_few, ai_cmpeq, ai_cmpne, ai_goto, ai_iflt, ai_getf, ai_iadd, ai_bin, ai_putf, ai_vret, kd_0, fd_0_0, fd_0_1, fd_0_2, fd_0_3, fd_0_4, kd_1, fd_1_0, fd_1_1, ln_2, kd_3, fd_3_0, fd_3_1, fd_3_2, fd_3_3, fd_3_4, fd_3_5, fd_3_6, fd_3_7, fd_3_8, fd_3_9, ln_4, ln_5, ln_6, ln_7, ln_8, ln_9, ln_10, kd_11, fd_11_0, fd_11_1, fd_11_2, fd_11_3, fd_11_4, kd_12, fd_12_0, fd_12_1, fd_12_2, fd_12_3, ln_13, ln_14, ln_15, kd_16, fd_16_0, fd_16_1, fd_16_2, ln_17, kd_18, fd_18_0, fd_18_1, kd_19, fd_19_0, fd_19_1, fd_19_2, fd_19_3, fd_19_4, fd_19_5, fd_19_6, fd_19_7, fd_19_8, fd_19_9, fd_19_10, fd_19_11, fd_19_12, fd_19_13, fd_19_14, fd_19_15, fd_19_16, fd_19_17, fd_19_18, fd_19_19, fd_19_20, ln_20, ln_21, ln_22, ln_23, ln_24, ln_25, ln_26, ln_27, ln_28, ln_29, ln_30, ln_31, ln_32, List.getElem?_cons_zero, List.getElem?_cons_succ, List.set_cons_zero, List.set_cons_succ, true_and, and_true, ↓reduceIte, Int32.reduceLT, Int32.reduceLE, li_10, or_true, true_or, ↓sp_Model_peek, htp, h0, li59, lj59]
    exact A _ h
  | succ k ih =>
    intro p hp
    have hp4 : p ≤ 400 := by have := ht.2; omega
    have hpl : p < m_tl M0 := by omega
    have h0 : m_at (am_up M0 19 2 (nI p)) 0 = M0 20 p := by
      rw [m_at_0 ht hp4]
      unfold bt
      rw [if_pos hpl]
    have hpos := hb p hpl
    have htp := htl p
    have ihs := ih (p + 1) (by omega)
    have A : ¬ M0 20 p = 59 → ∀ o2, K none (am_up M0 19 2 (nI (skB (M0 20) (k + 1) false p))) → am_X G Y_Model_skip 1 K 2 [some (.ref 19), some (.int 1), o2] [] (am_up M0 19 2 (nI p)) := by
      intro c0 o2 h
      simp only [skB, c0, decide_false, Bool.false_or, Bool.false_and, Bool.false_eq_true, ↓reduceIte] at h
      by_cases c1 : M0 20 p = 32
      · rw [if_pos (Or.inr c1)] at h
        have c1' : (M0 20 p = 32) = True := eq_true c1
        have z2 : am_X G Y_Model_skip 1 K 36 [some (.ref 19), some (.int 1), some (.int (M0 20 p))] [] (am_up M0 19 2 (nI p)) := by
          refine am_from (tb_Model_skip (ok_Model_peek hG) (by decide)) k_Model_skip 400 ?_
          simp only [q_Model_skip_2, q_Model_skip_36, r_Model_skip_0, r_Model_skip_1, r_Model_skip_2, r_Model_skip_3, r_Model_skip_6, r_Model_skip_7, r_Model_skip_8, r_Model_skip_11, r_Model_skip_12, r_Model_skip_13, r_Model_skip_15, r_Model_skip_18, r_Model_skip_19, r_Model_skip_21, r_Model_skip_24, r_Model_skip_25, r_Model_skip_27, r_Model_skip_30, r_Model_skip_31, r_Model_skip_34, r_Model_skip_35, r_Model_skip_36, r_Model_skip_37, r_Model_skip_39, r_Model_skip_42, r_Model_skip_43, r_Model_skip_44, r_Model_skip_47, r_Model_skip_50, r_Model_skip_51, r_Model_skip_52, r_Model_skip_55, r_Model_skip_57, r_Model_skip_60, r_Model_skip_61, r_Model_skip_62, r_Model_skip_65, r_Model_skip_66, r_Model_skip_67, r_Model_skip_70, r_Model_skip_73, r_Model_skip_74, r_Model_skip_76, r_Model_skip_79, r_Model_skip_80, r_Model_skip_82, r_Model_skip_85, r_Model_skip_86, r_Model_skip_87, r_Model_skip_90, r_Model_skip_91, r_Model_skip_92, r_Model_skip_95, r_Model_skip_98, ai_const, ai_istore, am_cut_0, am_cut_s, am_c1, ai_iload, ai_ifeq, ai_aload, ai_callv2, am_push, am_few, ai_cmpeq, ai_cmpne, ai_goto, ai_iflt, ai_getf, ai_iadd, ai_bin, ai_putf, ai_vret, kd_0, fd_0_0, fd_0_1, fd_0_2, fd_0_3, fd_0_4, kd_1, fd_1_0, fd_1_1, ln_2, kd_3, fd_3_0, fd_3_1, fd_3_2, fd_3_3, fd_3_4, fd_3_5, fd_3_6, fd_3_7, fd_3_8, fd_3_9, ln_4, ln_5, ln_6, ln_7, ln_8, ln_9, ln_10, kd_11, fd_11_0, fd_11_1, fd_11_2, fd_11_3, fd_11_4, kd_12, fd_12_0, fd_12_1, fd_12_2, fd_12_3, ln_13, ln_14, ln_15, kd_16, fd_16_0, fd_16_1, fd_16_2, ln_17, kd_18, fd_18_0, fd_18_1, kd_19, fd_19_0, fd_19_1, fd_19_2, fd_19_3, fd_19_4, fd_19_5, fd_19_6, fd_19_7, fd_19_8, fd_19_9, fd_19_10, fd_19_11, fd_19_12, fd_19_13, fd_19_14, fd_19_15, fd_19_16, fd_19_17, fd_19_18, fd_19_19, fd_19_20, ln_20, ln_21, ln_22, ln_23, ln_24, ln_25, ln_26, ln_27, ln_28, ln_29, ln_30, ln_31, ln_32, List.getElem?_cons_zero, List.getElem?_cons_succ, List.set_cons_zero, List.set_cons_succ, true_and, and_true, ↓reduceIte, Int32.reduceLT, Int32.reduceLE, li_10, or_true, true_or, ↓sp_Model_peek, c0, c1', am_up_ap, Nat.reduceEqDiff, nI_1, am_up_up]
          exact ihs.1 _ h
        refine am_from (tb_Model_skip (ok_Model_peek hG) (by decide)) k_Model_skip 400 ?_
        simp only [q_Model_skip_2, q_Model_skip_36, r_Model_skip_0, r_Model_skip_1, r_Model_skip_2, r_Model_skip_3, r_Model_skip_6, r_Model_skip_7, r_Model_skip_8, r_Model_skip_11, r_Model_skip_12, r_Model_skip_13, r_Model_skip_15, r_Model_skip_18, r_Model_skip_19, r_Model_skip_21, r_Model_skip_24, r_Model_skip_25, r_Model_skip_27, r_Model_skip_30, r_Model_skip_31, r_Model_skip_34, r_Model_skip_35, r_Model_skip_36, r_Model_skip_37, r_Model_skip_39, r_Model_skip_42, r_Model_skip_43, r_Model_skip_44, r_Model_skip_47, r_Model_skip_50, r_Model_skip_51, r_Model_skip_52, r_Model_skip_55, r_Model_skip_57, r_Model_skip_60, r_Model_skip_61, r_Model_skip_62, r_Model_skip_65, r_Model_skip_66, r_Model_skip_67, r_Model_skip_70, r_Model_skip_73, r_Model_skip_74, r_Model_skip_76, r_Model_skip_79, r_Model_skip_80, r_Model_skip_82, r_Model_skip_85, r_Model_skip_86, r_Model_skip_87, r_Model_skip_90, r_Model_skip_91, r_Model_skip_92, r_Model_skip_95, r_Model_skip_98, ai_const, ai_istore, am_cut_0, am_cut_s, am_c1, ai_iload, ai_ifeq, ai_aload, ai_callv2, am_push, am_few, ai_cmpeq, ai_cmpne, ai_goto, ai_iflt, ai_getf, ai_iadd, ai_bin, ai_putf, ai_vret, kd_0, fd_0_0, fd_0_1, fd_0_2, fd_0_3, fd_0_4, kd_1, fd_1_0, fd_1_1, ln_2, kd_3, fd_3_0, fd_3_1, fd_3_2, fd_3_3, fd_3_4, fd_3_5, fd_3_6, fd_3_7, fd_3_8, fd_3_9, ln_4, ln_5, ln_6, ln_7, ln_8, ln_9, ln_10, kd_11, fd_11_0, fd_11_1, fd_11_2, fd_11_3, fd_11_4, kd_12, fd_12_0, fd_12_1, fd_12_2, fd_12_3, ln_13, ln_14, ln_15, kd_16, fd_16_0, fd_16_1, fd_16_2, ln_17, kd_18, fd_18_0, fd_18_1, kd_19, fd_19_0, fd_19_1, fd_19_2, fd_19_3, fd_19_4, fd_19_5, fd_19_6, fd_19_7, fd_19_8, fd_19_9, fd_19_10, fd_19_11, fd_19_12, fd_19_13, fd_19_14, fd_19_15, fd_19_16, fd_19_17, fd_19_18, fd_19_19, fd_19_20, ln_20, ln_21, ln_22, ln_23, ln_24, ln_25, ln_26, ln_27, ln_28, ln_29, ln_30, ln_31, ln_32, List.getElem?_cons_zero, List.getElem?_cons_succ, List.set_cons_zero, List.set_cons_succ, true_and, and_true, ↓reduceIte, Int32.reduceLT, Int32.reduceLE, li_10, or_true, true_or, ↓sp_Model_peek, htp, h0, c0, c1']
        exact z2
      by_cases c2 : M0 20 p = 10
      · rw [if_pos (Or.inl c2)] at h
        have c2' : (M0 20 p = 10) = True := eq_true c2
        have z2 : am_X G Y_Model_skip 1 K 36 [some (.ref 19), some (.int 1), some (.int (M0 20 p))] [] (am_up M0 19 2 (nI p)) := by
          refine am_from (tb_Model_skip (ok_Model_peek hG) (by decide)) k_Model_skip 400 ?_
          simp only [q_Model_skip_2, q_Model_skip_36, r_Model_skip_0, r_Model_skip_1, r_Model_skip_2, r_Model_skip_3, r_Model_skip_6, r_Model_skip_7, r_Model_skip_8, r_Model_skip_11, r_Model_skip_12, r_Model_skip_13, r_Model_skip_15, r_Model_skip_18, r_Model_skip_19, r_Model_skip_21, r_Model_skip_24, r_Model_skip_25, r_Model_skip_27, r_Model_skip_30, r_Model_skip_31, r_Model_skip_34, r_Model_skip_35, r_Model_skip_36, r_Model_skip_37, r_Model_skip_39, r_Model_skip_42, r_Model_skip_43, r_Model_skip_44, r_Model_skip_47, r_Model_skip_50, r_Model_skip_51, r_Model_skip_52, r_Model_skip_55, r_Model_skip_57, r_Model_skip_60, r_Model_skip_61, r_Model_skip_62, r_Model_skip_65, r_Model_skip_66, r_Model_skip_67, r_Model_skip_70, r_Model_skip_73, r_Model_skip_74, r_Model_skip_76, r_Model_skip_79, r_Model_skip_80, r_Model_skip_82, r_Model_skip_85, r_Model_skip_86, r_Model_skip_87, r_Model_skip_90, r_Model_skip_91, r_Model_skip_92, r_Model_skip_95, r_Model_skip_98, ai_const, ai_istore, am_cut_0, am_cut_s, am_c1, ai_iload, ai_ifeq, ai_aload, ai_callv2, am_push, am_few, ai_cmpeq, ai_cmpne, ai_goto, ai_iflt, ai_getf, ai_iadd, ai_bin, ai_putf, ai_vret, kd_0, fd_0_0, fd_0_1, fd_0_2, fd_0_3, fd_0_4, kd_1, fd_1_0, fd_1_1, ln_2, kd_3, fd_3_0, fd_3_1, fd_3_2, fd_3_3, fd_3_4, fd_3_5, fd_3_6, fd_3_7, fd_3_8, fd_3_9, ln_4, ln_5, ln_6, ln_7, ln_8, ln_9, ln_10, kd_11, fd_11_0, fd_11_1, fd_11_2, fd_11_3, fd_11_4, kd_12, fd_12_0, fd_12_1, fd_12_2, fd_12_3, ln_13, ln_14, ln_15, kd_16, fd_16_0, fd_16_1, fd_16_2, ln_17, kd_18, fd_18_0, fd_18_1, kd_19, fd_19_0, fd_19_1, fd_19_2, fd_19_3, fd_19_4, fd_19_5, fd_19_6, fd_19_7, fd_19_8, fd_19_9, fd_19_10, fd_19_11, fd_19_12, fd_19_13, fd_19_14, fd_19_15, fd_19_16, fd_19_17, fd_19_18, fd_19_19, fd_19_20, ln_20, ln_21, ln_22, ln_23, ln_24, ln_25, ln_26, ln_27, ln_28, ln_29, ln_30, ln_31, ln_32, List.getElem?_cons_zero, List.getElem?_cons_succ, List.set_cons_zero, List.set_cons_succ, true_and, and_true, ↓reduceIte, Int32.reduceLT, Int32.reduceLE, li_10, or_true, true_or, ↓sp_Model_peek, c0, c1, c2', am_up_ap, Nat.reduceEqDiff, nI_1, am_up_up]
          exact ihs.1 _ h
        refine am_from (tb_Model_skip (ok_Model_peek hG) (by decide)) k_Model_skip 400 ?_
        simp only [q_Model_skip_2, q_Model_skip_36, r_Model_skip_0, r_Model_skip_1, r_Model_skip_2, r_Model_skip_3, r_Model_skip_6, r_Model_skip_7, r_Model_skip_8, r_Model_skip_11, r_Model_skip_12, r_Model_skip_13, r_Model_skip_15, r_Model_skip_18, r_Model_skip_19, r_Model_skip_21, r_Model_skip_24, r_Model_skip_25, r_Model_skip_27, r_Model_skip_30, r_Model_skip_31, r_Model_skip_34, r_Model_skip_35, r_Model_skip_36, r_Model_skip_37, r_Model_skip_39, r_Model_skip_42, r_Model_skip_43, r_Model_skip_44, r_Model_skip_47, r_Model_skip_50, r_Model_skip_51, r_Model_skip_52, r_Model_skip_55, r_Model_skip_57, r_Model_skip_60, r_Model_skip_61, r_Model_skip_62, r_Model_skip_65, r_Model_skip_66, r_Model_skip_67, r_Model_skip_70, r_Model_skip_73, r_Model_skip_74, r_Model_skip_76, r_Model_skip_79, r_Model_skip_80, r_Model_skip_82, r_Model_skip_85, r_Model_skip_86, r_Model_skip_87, r_Model_skip_90, r_Model_skip_91, r_Model_skip_92, r_Model_skip_95, r_Model_skip_98, ai_const, ai_istore, am_cut_0, am_cut_s, am_c1, ai_iload, ai_ifeq, ai_aload, ai_callv2, am_push, am_few, ai_cmpeq, ai_cmpne, ai_goto, ai_iflt, ai_getf, ai_iadd, ai_bin, ai_putf, ai_vret, kd_0, fd_0_0, fd_0_1, fd_0_2, fd_0_3, fd_0_4, kd_1, fd_1_0, fd_1_1, ln_2, kd_3, fd_3_0, fd_3_1, fd_3_2, fd_3_3, fd_3_4, fd_3_5, fd_3_6, fd_3_7, fd_3_8, fd_3_9, ln_4, ln_5, ln_6, ln_7, ln_8, ln_9, ln_10, kd_11, fd_11_0, fd_11_1, fd_11_2, fd_11_3, fd_11_4, kd_12, fd_12_0, fd_12_1, fd_12_2, fd_12_3, ln_13, ln_14, ln_15, kd_16, fd_16_0, fd_16_1, fd_16_2, ln_17, kd_18, fd_18_0, fd_18_1, kd_19, fd_19_0, fd_19_1, fd_19_2, fd_19_3, fd_19_4, fd_19_5, fd_19_6, fd_19_7, fd_19_8, fd_19_9, fd_19_10, fd_19_11, fd_19_12, fd_19_13, fd_19_14, fd_19_15, fd_19_16, fd_19_17, fd_19_18, fd_19_19, fd_19_20, ln_20, ln_21, ln_22, ln_23, ln_24, ln_25, ln_26, ln_27, ln_28, ln_29, ln_30, ln_31, ln_32, List.getElem?_cons_zero, List.getElem?_cons_succ, List.set_cons_zero, List.set_cons_succ, true_and, and_true, ↓reduceIte, Int32.reduceLT, Int32.reduceLE, li_10, or_true, true_or, ↓sp_Model_peek, htp, h0, c0, c1, c2']
        exact z2
      · rw [if_neg (fun q => q.elim c2 c1)] at h
        have z2 : am_X G Y_Model_skip 1 K 36 [some (.ref 19), some (.int 0), some (.int (M0 20 p))] [] (am_up M0 19 2 (nI p)) := by
          refine am_from (tb_Model_skip (ok_Model_peek hG) (by decide)) k_Model_skip 400 ?_
          simp only [q_Model_skip_2, q_Model_skip_36, r_Model_skip_0, r_Model_skip_1, r_Model_skip_2, r_Model_skip_3, r_Model_skip_6, r_Model_skip_7, r_Model_skip_8, r_Model_skip_11, r_Model_skip_12, r_Model_skip_13, r_Model_skip_15, r_Model_skip_18, r_Model_skip_19, r_Model_skip_21, r_Model_skip_24, r_Model_skip_25, r_Model_skip_27, r_Model_skip_30, r_Model_skip_31, r_Model_skip_34, r_Model_skip_35, r_Model_skip_36, r_Model_skip_37, r_Model_skip_39, r_Model_skip_42, r_Model_skip_43, r_Model_skip_44, r_Model_skip_47, r_Model_skip_50, r_Model_skip_51, r_Model_skip_52, r_Model_skip_55, r_Model_skip_57, r_Model_skip_60, r_Model_skip_61, r_Model_skip_62, r_Model_skip_65, r_Model_skip_66, r_Model_skip_67, r_Model_skip_70, r_Model_skip_73, r_Model_skip_74, r_Model_skip_76, r_Model_skip_79, r_Model_skip_80, r_Model_skip_82, r_Model_skip_85, r_Model_skip_86, r_Model_skip_87, r_Model_skip_90, r_Model_skip_91, r_Model_skip_92, r_Model_skip_95, r_Model_skip_98, ai_const, ai_istore, am_cut_0, am_cut_s, am_c1, ai_iload, ai_ifeq, ai_aload, ai_callv2, am_push, am_few, ai_cmpeq, ai_cmpne, ai_goto, ai_iflt, ai_getf, ai_iadd, ai_bin, ai_putf, ai_vret, kd_0, fd_0_0, fd_0_1, fd_0_2, fd_0_3, fd_0_4, kd_1, fd_1_0, fd_1_1, ln_2, kd_3, fd_3_0, fd_3_1, fd_3_2, fd_3_3, fd_3_4, fd_3_5, fd_3_6, fd_3_7, fd_3_8, fd_3_9, ln_4, ln_5, ln_6, ln_7, ln_8, ln_9, ln_10, kd_11, fd_11_0, fd_11_1, fd_11_2, fd_11_3, fd_11_4, kd_12, fd_12_0, fd_12_1, fd_12_2, fd_12_3, ln_13, ln_14, ln_15, kd_16, fd_16_0, fd_16_1, fd_16_2, ln_17, kd_18, fd_18_0, fd_18_1, kd_19, fd_19_0, fd_19_1, fd_19_2, fd_19_3, fd_19_4, fd_19_5, fd_19_6, fd_19_7, fd_19_8, fd_19_9, fd_19_10, fd_19_11, fd_19_12, fd_19_13, fd_19_14, fd_19_15, fd_19_16, fd_19_17, fd_19_18, fd_19_19, fd_19_20, ln_20, ln_21, ln_22, ln_23, ln_24, ln_25, ln_26, ln_27, ln_28, ln_29, ln_30, ln_31, ln_32, List.getElem?_cons_zero, List.getElem?_cons_succ, List.set_cons_zero, List.set_cons_succ, true_and, and_true, ↓reduceIte, Int32.reduceLT, Int32.reduceLE, li_10, or_true, true_or, ↓sp_Model_peek, c0, c1, c2]
          exact Z _ _ h
        refine am_from (tb_Model_skip (ok_Model_peek hG) (by decide)) k_Model_skip 400 ?_
        simp only [q_Model_skip_2, q_Model_skip_36, r_Model_skip_0, r_Model_skip_1, r_Model_skip_2, r_Model_skip_3, r_Model_skip_6, r_Model_skip_7, r_Model_skip_8, r_Model_skip_11, r_Model_skip_12, r_Model_skip_13, r_Model_skip_15, r_Model_skip_18, r_Model_skip_19, r_Model_skip_21, r_Model_skip_24, r_Model_skip_25, r_Model_skip_27, r_Model_skip_30, r_Model_skip_31, r_Model_skip_34, r_Model_skip_35, r_Model_skip_36, r_Model_skip_37, r_Model_skip_39, r_Model_skip_42, r_Model_skip_43, r_Model_skip_44, r_Model_skip_47, r_Model_skip_50, r_Model_skip_51, r_Model_skip_52, r_Model_skip_55, r_Model_skip_57, r_Model_skip_60, r_Model_skip_61, r_Model_skip_62, r_Model_skip_65, r_Model_skip_66, r_Model_skip_67, r_Model_skip_70, r_Model_skip_73, r_Model_skip_74, r_Model_skip_76, r_Model_skip_79, r_Model_skip_80, r_Model_skip_82, r_Model_skip_85, r_Model_skip_86, r_Model_skip_87, r_Model_skip_90, r_Model_skip_91, r_Model_skip_92, r_Model_skip_95, r_Model_skip_98, ai_const, ai_istore, am_cut_0, am_cut_s, am_c1, ai_iload, ai_ifeq, ai_aload, ai_callv2, am_push, am_few, ai_cmpeq, ai_cmpne, ai_goto, ai_iflt, ai_getf, ai_iadd, ai_bin, ai_putf, ai_vret, kd_0, fd_0_0, fd_0_1, fd_0_2, fd_0_3, fd_0_4, kd_1, fd_1_0, fd_1_1, ln_2, kd_3, fd_3_0, fd_3_1, fd_3_2, fd_3_3, fd_3_4, fd_3_5, fd_3_6, fd_3_7, fd_3_8, fd_3_9, ln_4, ln_5, ln_6, ln_7, ln_8, ln_9, ln_10, kd_11, fd_11_0, fd_11_1, fd_11_2, fd_11_3, fd_11_4, kd_12, fd_12_0, fd_12_1, fd_12_2, fd_12_3, ln_13, ln_14, ln_15, kd_16, fd_16_0, fd_16_1, fd_16_2, ln_17, kd_18, fd_18_0, fd_18_1, kd_19, fd_19_0, fd_19_1, fd_19_2, fd_19_3, fd_19_4, fd_19_5, fd_19_6, fd_19_7, fd_19_8, fd_19_9, fd_19_10, fd_19_11, fd_19_12, fd_19_13, fd_19_14, fd_19_15, fd_19_16, fd_19_17, fd_19_18, fd_19_19, fd_19_20, ln_20, ln_21, ln_22, ln_23, ln_24, ln_25, ln_26, ln_27, ln_28, ln_29, ln_30, ln_31, ln_32, List.getElem?_cons_zero, List.getElem?_cons_succ, List.set_cons_zero, List.set_cons_succ, true_and, and_true, ↓reduceIte, Int32.reduceLT, Int32.reduceLE, li_10, or_true, true_or, ↓sp_Model_peek, htp, h0, c0, c1, c2]
        exact z2
    have B : K none (am_up M0 19 2 (nI (skB (M0 20) (k + 1) true p))) → am_X G Y_Model_skip 1 K 36 [some (.ref 19), some (.int 1), some (.int 59)] [] (am_up M0 19 2 (nI p)) := by
      intro h
      by_cases c2 : M0 20 p = 10
      · have c2' : (M0 20 p = 10) = True := eq_true c2
        have c0 : ¬ M0 20 p = 59 := by rw [c2]; decide
        have e : skB (M0 20) (k + 1) true p = skB (M0 20) (k + 1) false p := by
          simp only [skB, c0, c2, decide_false, decide_true, Bool.not_true, Bool.and_false, Bool.or_false, Bool.false_or, Bool.false_and]
        rw [e] at h
        refine am_from (tb_Model_skip (ok_Model_peek hG) (by decide)) k_Model_skip 400 ?_
        simp only [q_Model_skip_2, q_Model_skip_36, r_Model_skip_0, r_Model_skip_1, r_Model_skip_2, r_Model_skip_3, r_Model_skip_6, r_Model_skip_7, r_Model_skip_8, r_Model_skip_11, r_Model_skip_12, r_Model_skip_13, r_Model_skip_15, r_Model_skip_18, r_Model_skip_19, r_Model_skip_21, r_Model_skip_24, r_Model_skip_25, r_Model_skip_27, r_Model_skip_30, r_Model_skip_31, r_Model_skip_34, r_Model_skip_35, r_Model_skip_36, r_Model_skip_37, r_Model_skip_39, r_Model_skip_42, r_Model_skip_43, r_Model_skip_44, r_Model_skip_47, r_Model_skip_50, r_Model_skip_51, r_Model_skip_52, r_Model_skip_55, r_Model_skip_57, r_Model_skip_60, r_Model_skip_61, r_Model_skip_62, r_Model_skip_65, r_Model_skip_66, r_Model_skip_67, r_Model_skip_70, r_Model_skip_73, r_Model_skip_74, r_Model_skip_76, r_Model_skip_79, r_Model_skip_80, r_Model_skip_82, r_Model_skip_85, r_Model_skip_86, r_Model_skip_87, r_Model_skip_90, r_Model_skip_91, r_Model_skip_92, r_Model_skip_95, r_Model_skip_98, ai_const, ai_istore, am_cut_0, am_cut_s, am_c1, ai_iload, ai_ifeq, ai_aload, ai_callv2, am_push, am_few, ai_cmpeq, ai_cmpne, ai_goto, ai_iflt, ai_getf, ai_iadd, ai_bin, ai_putf, ai_vret, kd_0, fd_0_0, fd_0_1, fd_0_2, fd_0_3, fd_0_4, kd_1, fd_1_0, fd_1_1, ln_2, kd_3, fd_3_0, fd_3_1, fd_3_2, fd_3_3, fd_3_4, fd_3_5, fd_3_6, fd_3_7, fd_3_8, fd_3_9, ln_4, ln_5, ln_6, ln_7, ln_8, ln_9, ln_10, kd_11, fd_11_0, fd_11_1, fd_11_2, fd_11_3, fd_11_4, kd_12, fd_12_0, fd_12_1, fd_12_2, fd_12_3, ln_13, ln_14, ln_15, kd_16, fd_16_0, fd_16_1, fd_16_2, ln_17, kd_18, fd_18_0, fd_18_1, kd_19, fd_19_0, fd_19_1, fd_19_2, fd_19_3, fd_19_4, fd_19_5, fd_19_6, fd_19_7, fd_19_8, fd_19_9, fd_19_10, fd_19_11, fd_19_12, fd_19_13, fd_19_14, fd_19_15, fd_19_16, fd_19_17, fd_19_18, fd_19_19, fd_19_20, ln_20, ln_21, ln_22, ln_23, ln_24, ln_25, ln_26, ln_27, ln_28, ln_29, ln_30, ln_31, ln_32, List.getElem?_cons_zero, List.getElem?_cons_succ, List.set_cons_zero, List.set_cons_succ, true_and, and_true, ↓reduceIte, Int32.reduceLT, Int32.reduceLE, li_10, or_true, true_or, ↓sp_Model_peek, htp, h0, hpos, c2', li59, lj59]
        exact A c0 _ h
      · have e : skB (M0 20) (k + 1) true p = skB (M0 20) k true (p + 1) := by
          simp only [skB, c2, decide_false, Bool.not_false, Bool.and_true, Bool.or_true, ↓reduceIte]
        rw [e] at h
        refine am_from (tb_Model_skip (ok_Model_peek hG) (by decide)) k_Model_skip 400 ?_
        simp only [q_Model_skip_2, q_Model_skip_36, r_Model_skip_0, r_Model_skip_1, r_Model_skip_2, r_Model_skip_3, r_Model_skip_6, r_Model_skip_7, r_Model_skip_8, r_Model_skip_11, r_Model_skip_12, r_Model_skip_13, r_Model_skip_15, r_Model_skip_18, r_Model_skip_19, r_Model_skip_21, r_Model_skip_24, r_Model_skip_25, r_Model_skip_27, r_Model_skip_30, r_Model_skip_31, r_Model_skip_34, r_Model_skip_35, r_Model_skip_36, r_Model_skip_37, r_Model_skip_39, r_Model_skip_42, r_Model_skip_43, r_Model_skip_44, r_Model_skip_47, r_Model_skip_50, r_Model_skip_51, r_Model_skip_52, r_Model_skip_55, r_Model_skip_57, r_Model_skip_60, r_Model_skip_61, r_Model_skip_62, r_Model_skip_65, r_Model_skip_66, r_Model_skip_67, r_Model_skip_70, r_Model_skip_73, r_Model_skip_74, r_Model_skip_76, r_Model_skip_79, r_Model_skip_80, r_Model_skip_82, r_Model_skip_85, r_Model_skip_86, r_Model_skip_87, r_Model_skip_90, r_Model_skip_91, r_Model_skip_92, r_Model_skip_95, r_Model_skip_98, ai_const, ai_istore, am_cut_0, am_cut_s, am_c1, ai_iload, ai_ifeq, ai_aload, ai_callv2, am_push, am_few, ai_cmpeq, ai_cmpne, ai_goto, ai_iflt, ai_getf, ai_iadd, ai_bin, ai_putf, ai_vret, kd_0, fd_0_0, fd_0_1, fd_0_2, fd_0_3, fd_0_4, kd_1, fd_1_0, fd_1_1, ln_2, kd_3, fd_3_0, fd_3_1, fd_3_2, fd_3_3, fd_3_4, fd_3_5, fd_3_6, fd_3_7, fd_3_8, fd_3_9, ln_4, ln_5, ln_6, ln_7, ln_8, ln_9, ln_10, kd_11, fd_11_0, fd_11_1, fd_11_2, fd_11_3, fd_11_4, kd_12, fd_12_0, fd_12_1, fd_12_2, fd_12_3, ln_13, ln_14, ln_15, kd_16, fd_16_0, fd_16_1, fd_16_2, ln_17, kd_18, fd_18_0, fd_18_1, kd_19, fd_19_0, fd_19_1, fd_19_2, fd_19_3, fd_19_4, fd_19_5, fd_19_6, fd_19_7, fd_19_8, fd_19_9, fd_19_10, fd_19_11, fd_19_12, fd_19_13, fd_19_14, fd_19_15, fd_19_16, fd_19_17, fd_19_18, fd_19_19, fd_19_20, ln_20, ln_21, ln_22, ln_23, ln_24, ln_25, ln_26, ln_27, ln_28, ln_29, ln_30, ln_31, ln_32, List.getElem?_cons_zero, List.getElem?_cons_succ, List.set_cons_zero, List.set_cons_succ, true_and, and_true, ↓reduceIte, Int32.reduceLT, Int32.reduceLE, li_10, or_true, true_or, ↓sp_Model_peek, htp, h0, hpos, c2, am_up_ap, Nat.reduceEqDiff, nI_1, am_up_up]
        exact ihs.2 h
    refine ⟨fun o2 h => ?_, B⟩
    by_cases c0 : M0 20 p = 59
    · have e : skB (M0 20) (k + 1) false p = skB (M0 20) (k + 1) true p := by
        simp only [skB, c0, decide_true, Bool.true_or, ↓reduceIte]
      rw [e] at h
      refine am_from (tb_Model_skip (ok_Model_peek hG) (by decide)) k_Model_skip 400 ?_
      simp only [q_Model_skip_2, q_Model_skip_36, r_Model_skip_0, r_Model_skip_1, r_Model_skip_2, r_Model_skip_3, r_Model_skip_6, r_Model_skip_7, r_Model_skip_8, r_Model_skip_11, r_Model_skip_12, r_Model_skip_13, r_Model_skip_15, r_Model_skip_18, r_Model_skip_19, r_Model_skip_21, r_Model_skip_24, r_Model_skip_25, r_Model_skip_27, r_Model_skip_30, r_Model_skip_31, r_Model_skip_34, r_Model_skip_35, r_Model_skip_36, r_Model_skip_37, r_Model_skip_39, r_Model_skip_42, r_Model_skip_43, r_Model_skip_44, r_Model_skip_47, r_Model_skip_50, r_Model_skip_51, r_Model_skip_52, r_Model_skip_55, r_Model_skip_57, r_Model_skip_60, r_Model_skip_61, r_Model_skip_62, r_Model_skip_65, r_Model_skip_66, r_Model_skip_67, r_Model_skip_70, r_Model_skip_73, r_Model_skip_74, r_Model_skip_76, r_Model_skip_79, r_Model_skip_80, r_Model_skip_82, r_Model_skip_85, r_Model_skip_86, r_Model_skip_87, r_Model_skip_90, r_Model_skip_91, r_Model_skip_92, r_Model_skip_95, r_Model_skip_98, ai_const, ai_istore, am_cut_0, am_cut_s, am_c1, ai_iload, ai_ifeq, ai_aload, ai_callv2, am_push, am_few, ai_cmpeq, ai_cmpne, ai_goto, ai_iflt, ai_getf, ai_iadd, ai_bin, ai_putf, ai_vret, kd_0, fd_0_0, fd_0_1, fd_0_2, fd_0_3, fd_0_4, kd_1, fd_1_0, fd_1_1, ln_2, kd_3, fd_3_0, fd_3_1, fd_3_2, fd_3_3, fd_3_4, fd_3_5, fd_3_6, fd_3_7, fd_3_8, fd_3_9, ln_4, ln_5, ln_6, ln_7, ln_8, ln_9, ln_10, kd_11, fd_11_0, fd_11_1, fd_11_2, fd_11_3, fd_11_4, kd_12, fd_12_0, fd_12_1, fd_12_2, fd_12_3, ln_13, ln_14, ln_15, kd_16, fd_16_0, fd_16_1, fd_16_2, ln_17, kd_18, fd_18_0, fd_18_1, kd_19, fd_19_0, fd_19_1, fd_19_2, fd_19_3, fd_19_4, fd_19_5, fd_19_6, fd_19_7, fd_19_8, fd_19_9, fd_19_10, fd_19_11, fd_19_12, fd_19_13, fd_19_14, fd_19_15, fd_19_16, fd_19_17, fd_19_18, fd_19_19, fd_19_20, ln_20, ln_21, ln_22, ln_23, ln_24, ln_25, ln_26, ln_27, ln_28, ln_29, ln_30, ln_31, ln_32, List.getElem?_cons_zero, List.getElem?_cons_succ, List.set_cons_zero, List.set_cons_succ, true_and, and_true, ↓reduceIte, Int32.reduceLT, Int32.reduceLE, li_10, or_true, true_or, ↓sp_Model_peek, htp, h0, c0, li59, lj59]
      exact B h
    · exact A c0 o2 h
set_option maxRecDepth 100000 in
set_option maxHeartbeats 4000000 in
theorem ok_Model_skip {G : aG} (hG : am_ok G) : am_Sp G Y_Model_skip 1 sp_Model_skip := by
  intro as M K h
  unfold sp_Model_skip at h
  split at h
  · next a =>
    obtain ⟨rfl, ⟨ht, hb, h1, h2⟩, h⟩ := h
    have e : M = am_up M 19 2 (nI (cl (M 19 2))) := by rw [← h1]; exact (am_up_id M 19 2).symm
    have L := (lp_Model_skip (K := K) hG ht hb (m_tl M - cl (M 19 2)) (cl (M 19 2)) (by omega)).1 none h
    rw [← e] at L
    refine am_entry hG (by decide +kernel) (Nat.le_of_ble_eq_true rfl) ?_
    refine am_go (cuts := k_Model_skip) (tb_Model_skip (ok_Model_peek hG) (by decide)) 400 _ _ _ _ ?_
    change am_run _ _ _ _ _ _ [some (.ref 19), none, none] [] _
    simp only [q_Model_skip_2, q_Model_skip_36, r_Model_skip_0, r_Model_skip_1, r_Model_skip_2, r_Model_skip_3, r_Model_skip_6, r_Model_skip_7, r_Model_skip_8, r_Model_skip_11, r_Model_skip_12, r_Model_skip_13, r_Model_skip_15, r_Model_skip_18, r_Model_skip_19, r_Model_skip_21, r_Model_skip_24, r_Model_skip_25, r_Model_skip_27, r_Model_skip_30, r_Model_skip_31, r_Model_skip_34, r_Model_skip_35, r_Model_skip_36, r_Model_skip_37, r_Model_skip_39, r_Model_skip_42, r_Model_skip_43, r_Model_skip_44, r_Model_skip_47, r_Model_skip_50, r_Model_skip_51, r_Model_skip_52, r_Model_skip_55, r_Model_skip_57, r_Model_skip_60, r_Model_skip_61, r_Model_skip_62, r_Model_skip_65, r_Model_skip_66, r_Model_skip_67, r_Model_skip_70, r_Model_skip_73, r_Model_skip_74, r_Model_skip_76, r_Model_skip_79, r_Model_skip_80, r_Model_skip_82, r_Model_skip_85, r_Model_skip_86, r_Model_skip_87, r_Model_skip_90, r_Model_skip_91, r_Model_skip_92, r_Model_skip_95, r_Model_skip_98, ai_const, ai_istore, am_cut_0, am_cut_s, am_c1, ai_iload, ai_ifeq, ai_aload, ai_callv2, am_push, am_few, ai_cmpeq, ai_cmpne, ai_goto, ai_iflt, ai_getf, ai_iadd, ai_bin, ai_putf, ai_vret, kd_0, fd_0_0, fd_0_1, fd_0_2, fd_0_3, fd_0_4, kd_1, fd_1_0, fd_1_1, ln_2, kd_3, fd_3_0, fd_3_1, fd_3_2, fd_3_3, fd_3_4, fd_3_5, fd_3_6, fd_3_7, fd_3_8, fd_3_9, ln_4, ln_5, ln_6, ln_7, ln_8, ln_9, ln_10, kd_11, fd_11_0, fd_11_1, fd_11_2, fd_11_3, fd_11_4, kd_12, fd_12_0, fd_12_1, fd_12_2, fd_12_3, ln_13, ln_14, ln_15, kd_16, fd_16_0, fd_16_1, fd_16_2, ln_17, kd_18, fd_18_0, fd_18_1, kd_19, fd_19_0, fd_19_1, fd_19_2, fd_19_3, fd_19_4, fd_19_5, fd_19_6, fd_19_7, fd_19_8, fd_19_9, fd_19_10, fd_19_11, fd_19_12, fd_19_13, fd_19_14, fd_19_15, fd_19_16, fd_19_17, fd_19_18, fd_19_19, fd_19_20, ln_20, ln_21, ln_22, ln_23, ln_24, ln_25, ln_26, ln_27, ln_28, ln_29, ln_30, ln_31, ln_32, List.getElem?_cons_zero, List.getElem?_cons_succ, List.set_cons_zero, List.set_cons_succ, true_and, and_true, ↓reduceIte, Int32.reduceLT, Int32.reduceLE, li_10, or_true, true_or, ↓sp_Model_peek]
    exact L
  · cases h
