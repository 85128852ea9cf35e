/-! THE REFERENCE: nodes and what stands by itself -/
def failM (M : aM) (w : Int32) : aM := am_up M 19 4 (if 0 ≤ M 19 4 then M 19 4 else w)
def sp_Model_fail : aS := fun as M K => match as with
  | [.ref a, .int w] => a = 19 ∧ K none (failM M w)
  | _ => False
set_option maxRecDepth 100000 in
set_option maxHeartbeats 4000000 in
theorem ok_Model_fail {G : aG} (hG : am_ok G) : am_Sp G Y_Model_fail 0 sp_Model_fail := by
  intro as M K h
  unfold sp_Model_fail at h
  split at h
  · next a w =>
    obtain ⟨rfl, h⟩ := h
    unfold failM at h
    refine am_entry hG (by decide +kernel) (Nat.le_of_ble_eq_true rfl) ?_
    refine am_go (cuts := k_Model_fail) tb_Model_fail 400 _ _ _ _ ?_
    change am_run _ _ _ _ _ _ [some (.ref 19), some (.int w)] [] _
    simp only [r_Model_fail_0, r_Model_fail_1, r_Model_fail_2, r_Model_fail_5, r_Model_fail_8, r_Model_fail_9, r_Model_fail_12, r_Model_fail_13, r_Model_fail_16, r_Model_fail_19, ai_aload, ai_getf, ai_ifge, ai_iload, ai_goto, ai_putf, ai_vret, kd_0, fd_0_0, fd_0_1, fd_0_2, fd_0_3, fd_0_4, kd_1, fd_1_0, fd_1_1, ln_2, kd_3, fd_3_0, fd_3_1, fd_3_2, fd_3_3, fd_3_4, fd_3_5, fd_3_6, fd_3_7, fd_3_8, fd_3_9, ln_4, ln_5, ln_6, ln_7, ln_8, ln_9, ln_10, kd_11, fd_11_0, fd_11_1, fd_11_2, fd_11_3, fd_11_4, kd_12, fd_12_0, fd_12_1, fd_12_2, fd_12_3, ln_13, ln_14, ln_15, kd_16, fd_16_0, fd_16_1, fd_16_2, ln_17, kd_18, fd_18_0, fd_18_1, kd_19, fd_19_0, fd_19_1, fd_19_2, fd_19_3, fd_19_4, fd_19_5, fd_19_6, fd_19_7, fd_19_8, fd_19_9, fd_19_10, fd_19_11, fd_19_12, fd_19_13, fd_19_14, fd_19_15, fd_19_16, fd_19_17, fd_19_18, fd_19_19, fd_19_20, ln_20, ln_21, ln_22, ln_23, ln_24, ln_25, ln_26, ln_27, ln_28, ln_29, ln_30, ln_31, ln_32, List.getElem?_cons_zero, List.getElem?_cons_succ, List.set_cons_zero, List.set_cons_succ, true_and, and_true, ↓reduceIte, Int32.reduceLT, Int32.reduceLE, li_10, or_true, true_or]
    by_cases c : 0 ≤ M 19 4
    · rw [if_pos c] at h ⊢; exact h
    · rw [if_neg c] at h ⊢; exact h
  · cases h
def m_new (M : aM) (k : Int32) : aM := am_up (am_up (am_up (am_up (am_up M 21 (mN M) k) 22 (mN M) 0) 24 (mN M) (-1)) 25 (mN M) (-1)) 19 5 (nI (mN M + 1))
def m_nd (M : aM) (k : Int32) : Int32 × aM := if mN M = 200 then (0, failM M (M 19 3)) else (nI (mN M), m_new M k)
def sp_Model_node : aS := fun as M K => match as with
  | [.ref a, .int k] => a = 19 ∧ mc_ok M ∧ K (some (.int (m_nd M k).1)) (m_nd M k).2
  | _ => False
set_option maxRecDepth 100000 in
set_option maxHeartbeats 4000000 in
theorem ok_Model_node {G : aG} (hG : am_ok G) : am_Sp G Y_Model_node 1 sp_Model_node := by
  intro as M K h
  unfold sp_Model_node at h
  split at h
  · next a k =>
    obtain ⟨rfl, hc, h⟩ := h
    unfold m_nd at h
    by_cases c : mN M = 200
    · rw [if_pos c] at h
      have e1 : (M 19 5 = 200) = True := eq_true (by rw [hc.1, c]; rfl)
      refine am_entry hG (by decide +kernel) (Nat.le_of_ble_eq_true rfl) ?_
      refine am_go (cuts := k_Model_node) (tb_Model_node (ok_Model_fail hG) (by decide)) 400 _ _ _ _ ?_
      change am_run _ _ _ _ _ _ [some (.ref 19), some (.int k)] [] _
      simp only [r_Model_node_0, r_Model_node_1, r_Model_node_4, r_Model_node_7, r_Model_node_10, r_Model_node_11, r_Model_node_12, r_Model_node_15, r_Model_node_18, r_Model_node_19, r_Model_node_20, r_Model_node_21, r_Model_node_24, r_Model_node_25, r_Model_node_28, r_Model_node_29, r_Model_node_30, r_Model_node_31, r_Model_node_34, r_Model_node_35, r_Model_node_38, r_Model_node_39, r_Model_node_40, r_Model_node_41, r_Model_node_44, r_Model_node_45, r_Model_node_48, r_Model_node_49, r_Model_node_50, r_Model_node_51, r_Model_node_54, r_Model_node_55, r_Model_node_58, r_Model_node_59, r_Model_node_60, r_Model_node_61, r_Model_node_62, r_Model_node_65, r_Model_node_66, r_Model_node_67, r_Model_node_70, r_Model_node_71, r_Model_node_74, r_Model_node_75, r_Model_node_76, ai_aload, ai_getf, ai_const, ai_cmpne, ai_callv2, am_push, am_few, ai_iret, ai_iload, ai_iast, ai_iadd, ai_bin, ai_putf, ai_isub, kd_0, fd_0_0, fd_0_1, fd_0_2, fd_0_3, fd_0_4, kd_1, fd_1_0, fd_1_1, ln_2, kd_3, fd_3_0, fd_3_1, fd_3_2, fd_3_3, fd_3_4, fd_3_5, fd_3_6, fd_3_7, fd_3_8, fd_3_9, ln_4, ln_5, ln_6, ln_7, ln_8, ln_9, ln_10, kd_11, fd_11_0, fd_11_1, fd_11_2, fd_11_3, fd_11_4, kd_12, fd_12_0, fd_12_1, fd_12_2, fd_12_3, ln_13, ln_14, ln_15, kd_16, fd_16_0, fd_16_1, fd_16_2, ln_17, kd_18, fd_18_0, fd_18_1, kd_19, fd_19_0, fd_19_1, fd_19_2, fd_19_3, fd_19_4, fd_19_5, fd_19_6, fd_19_7, fd_19_8, fd_19_9, fd_19_10, fd_19_11, fd_19_12, fd_19_13, fd_19_14, fd_19_15, fd_19_16, fd_19_17, fd_19_18, fd_19_19, fd_19_20, ln_20, ln_21, ln_22, ln_23, ln_24, ln_25, ln_26, ln_27, ln_28, ln_29, ln_30, ln_31, ln_32, List.getElem?_cons_zero, List.getElem?_cons_succ, List.set_cons_zero, List.set_cons_succ, true_and, and_true, ↓reduceIte, Int32.reduceLT, Int32.reduceLE, li_10, or_true, true_or, ↓sp_Model_fail, e1]
      exact h
    · rw [if_neg c] at h
      have h2 := hc.2
      have e1 : ¬ M 19 5 = 200 := by
        rw [hc.1]
        intro q
        exact c ((nI_eq (a := mN M) (b := 200) (by omega) (by decide)).mp q)
      have e2 : vp_in (M 19 5) 200 := by rw [hc.1]; exact vp_in_nI (by omega) (by decide)
      have e3 : (M 19 5).toNatClampNeg = mN M := rfl
      have e4 : M 19 5 + 1 = nI (mN M + 1) := by rw [← nI_1, ← hc.1]
      refine am_entry hG (by decide +kernel) (Nat.le_of_ble_eq_true rfl) ?_
      refine am_go (cuts := k_Model_node) (tb_Model_node (ok_Model_fail hG) (by decide)) 400 _ _ _ _ ?_
      change am_run _ _ _ _ _ _ [some (.ref 19), some (.int k)] [] _
      simp only [r_Model_node_0, r_Model_node_1, r_Model_node_4, r_Model_node_7, r_Model_node_10, r_Model_node_11, r_Model_node_12, r_Model_node_15, r_Model_node_18, r_Model_node_19, r_Model_node_20, r_Model_node_21, r_Model_node_24, r_Model_node_25, r_Model_node_28, r_Model_node_29, r_Model_node_30, r_Model_node_31, r_Model_node_34, r_Model_node_35, r_Model_node_38, r_Model_node_39, r_Model_node_40, r_Model_node_41, r_Model_node_44, r_Model_node_45, r_Model_node_48, r_Model_node_49, r_Model_node_50, r_Model_node_51, r_Model_node_54, r_Model_node_55, r_Model_node_58, r_Model_node_59, r_Model_node_60, r_Model_node_61, r_Model_node_62, r_Model_node_65, r_Model_node_66, r_Model_node_67, r_Model_node_70, r_Model_node_71, r_Model_node_74, r_Model_node_75, r_Model_node_76, ai_aload, ai_getf, ai_const, ai_cmpne, ai_callv2, am_push, am_few, ai_iret, ai_iload, ai_iast, ai_iadd, ai_bin, ai_putf, ai_isub, kd_0, fd_0_0, fd_0_1, fd_0_2, fd_0_3, fd_0_4, kd_1, fd_1_0, fd_1_1, ln_2, kd_3, fd_3_0, fd_3_1, fd_3_2, fd_3_3, fd_3_4, fd_3_5, fd_3_6, fd_3_7, fd_3_8, fd_3_9, ln_4, ln_5, ln_6, ln_7, ln_8, ln_9, ln_10, kd_11, fd_11_0, fd_11_1, fd_11_2, fd_11_3, fd_11_4, kd_12, fd_12_0, fd_12_1, fd_12_2, fd_12_3, ln_13, ln_14, ln_15, kd_16, fd_16_0, fd_16_1, fd_16_2, ln_17, kd_18, fd_18_0, fd_18_1, kd_19, fd_19_0, fd_19_1, fd_19_2, fd_19_3, fd_19_4, fd_19_5, fd_19_6, fd_19_7, fd_19_8, fd_19_9, fd_19_10, fd_19_11, fd_19_12, fd_19_13, fd_19_14, fd_19_15, fd_19_16, fd_19_17, fd_19_18, fd_19_19, fd_19_20, ln_20, ln_21, ln_22, ln_23, ln_24, ln_25, ln_26, ln_27, ln_28, ln_29, ln_30, ln_31, ln_32, List.getElem?_cons_zero, List.getElem?_cons_succ, List.set_cons_zero, List.set_cons_succ, true_and, and_true, ↓reduceIte, Int32.reduceLT, Int32.reduceLE, li_10, or_true, true_or, e1, e2, am_up_ap, Nat.reduceEqDiff, e3, e4, nI_pred]
      exact h
  · cases h
def m_let (M : aM) (x : Nat) (c : Int32) : aM := am_up (am_up M 23 (20 * x + cl (M 22 x)) c) 22 x (nI (cl (M 22 x) + 1))
def sp_Model_letter : aS := fun as M K => match as with
  | [.ref a, .int n, .int c] => a = 19 ∧ (n = nI (cl n) ∧ cl n < 200 ∧ M 22 (cl n) = nI (cl (M 22 (cl n))) ∧ cl (M 22 (cl n)) < 20) ∧ K none (m_let M (cl n) c)
  | _ => False
set_option maxRecDepth 100000 in
set_option maxHeartbeats 4000000 in
theorem ok_Model_letter {G : aG} (hG : am_ok G) : am_Sp G Y_Model_letter 0 sp_Model_letter := by
  intro as M K h
  unfold sp_Model_letter at h
  split at h
  · next a n c =>
    obtain ⟨rfl, ⟨h1, h2, h3, h4⟩, h⟩ := h
    have e1 : vp_in n 200 := by rw [h1]; exact vp_in_nI h2 (by decide)
    have e2 : 20 * n + M 22 (cl n) = nI (20 * cl n + cl (M 22 (cl n))) := by
      have q : 20 * n = nI (20 * cl n) := by
        rw [h1, show cl (nI (cl n)) = cl n from nI_clamp (cl_lt n)]
        exact (Int32.ofNat_mul 20 (cl n)).symm
      rw [q, h3, nI_add, show cl (nI (cl (M 22 (cl n)))) = cl (M 22 (cl n)) from nI_clamp (cl_lt _)]
    have e3 : vp_in (20 * n + M 22 (cl n)) 4000 := by rw [e2]; exact vp_in_nI (by omega) (by decide)
    have e4 : (20 * n + M 22 (cl n)).toNatClampNeg = 20 * cl n + cl (M 22 (cl n)) := by rw [e2]; exact nI_clamp (by omega)
    have e5 : M 22 (cl n) + 1 = nI (cl (M 22 (cl n)) + 1) := by rw [← nI_1, ← h3]
    refine am_entry hG (by decide +kernel) (Nat.le_of_ble_eq_true rfl) ?_
    refine am_go (cuts := k_Model_letter) tb_Model_letter 400 _ _ _ _ ?_
    change am_run _ _ _ _ _ _ [some (.ref 19), some (.int n), some (.int c)] [] _
    simp only [r_Model_letter_0, r_Model_letter_1, r_Model_letter_4, r_Model_letter_6, r_Model_letter_7, r_Model_letter_8, r_Model_letter_9, r_Model_letter_12, r_Model_letter_13, r_Model_letter_14, r_Model_letter_15, r_Model_letter_16, r_Model_letter_17, r_Model_letter_18, r_Model_letter_21, r_Model_letter_22, r_Model_letter_23, r_Model_letter_26, r_Model_letter_27, r_Model_letter_28, r_Model_letter_29, r_Model_letter_30, r_Model_letter_31, ai_aload, ai_getf, ai_const, ai_iload, ai_imul, ai_bin, ai_iald, ai_iadd, ai_iast, ai_vret, kd_0, fd_0_0, fd_0_1, fd_0_2, fd_0_3, fd_0_4, kd_1, fd_1_0, fd_1_1, ln_2, kd_3, fd_3_0, fd_3_1, fd_3_2, fd_3_3, fd_3_4, fd_3_5, fd_3_6, fd_3_7, fd_3_8, fd_3_9, ln_4, ln_5, ln_6, ln_7, ln_8, ln_9, ln_10, kd_11, fd_11_0, fd_11_1, fd_11_2, fd_11_3, fd_11_4, kd_12, fd_12_0, fd_12_1, fd_12_2, fd_12_3, ln_13, ln_14, ln_15, kd_16, fd_16_0, fd_16_1, fd_16_2, ln_17, kd_18, fd_18_0, fd_18_1, kd_19, fd_19_0, fd_19_1, fd_19_2, fd_19_3, fd_19_4, fd_19_5, fd_19_6, fd_19_7, fd_19_8, fd_19_9, fd_19_10, fd_19_11, fd_19_12, fd_19_13, fd_19_14, fd_19_15, fd_19_16, fd_19_17, fd_19_18, fd_19_19, fd_19_20, ln_20, ln_21, ln_22, ln_23, ln_24, ln_25, ln_26, ln_27, ln_28, ln_29, ln_30, ln_31, ln_32, List.getElem?_cons_zero, List.getElem?_cons_succ, List.set_cons_zero, List.set_cons_succ, true_and, and_true, ↓reduceIte, Int32.reduceLT, Int32.reduceLE, li_10, or_true, true_or, e1, e3, am_up_ap, Nat.reduceEqDiff, e4, e5]
    exact h
  · cases h
def mA1 (t : Nat → Int32) : Nat → Nat → Int32 → Int32
  | 0, _, v => v
  | f + 1, k, v => mA1 t f (k + 1) (if t k = 45 then v else 10 * v + t k - 48)
def mA2 (t : Nat → Int32) (x : Nat) : Nat → Nat → aM → aM
  | 0, _, M => M
  | f + 1, k, M => mA2 t x f (k + 1) (m_let M x (t k))
def mA3 (t : Nat → Int32) (N x : Nat) : Nat → Nat → aM → aM
  | 0, _, M => M
  | c + 1, i, M => if bt t N i = 34 then M else if bt t N i = 92 then mA3 t N x c (i + 2) (m_let M x (t (i + 1))) else mA3 t N x c (i + 1) (m_let M x (t i))
/-- where the token stands -/
def m_pl (M : aM) : Nat := cl (M 19 3)
def m_e (M : aM) : Nat := cl (M 19 2)
def pl_ok (M : aM) : Prop := M 19 3 = nI (m_pl M) ∧ M 19 2 = nI (m_e M) ∧ m_pl M < m_e M ∧ m_e M ≤ m_tl M
def m_val (M : aM) : Int32 := if M 20 (m_pl M) = 45 then -(mA1 (M 20) (m_e M - m_pl M) (m_pl M) 0) else mA1 (M 20) (m_e M - m_pl M) (m_pl M) 0
def m_atmM (M : aM) (k : Int32) : aM := if k = 1 then am_up (m_new M k) 22 (mN M) (m_val M) else if k = 2 then mA2 (M 20) (mN M) (m_e M - m_pl M) (m_pl M) (m_new M k) else mA3 (M 20) (m_tl M) (mN M) 21 (m_pl M + 1) (m_new M k)
def m_atom (M : aM) (k : Int32) : Int32 × aM := if mN M = 200 then (0, failM M (M 19 3)) else (nI (mN M), m_atmM M k)
/-- what the kinds ask of a token -/
def at_kd (M : aM) (k : Int32) : Prop := k = 1 ∨ (k = 2 ∧ m_e M - m_pl M ≤ 20) ∨ (k = 3 ∧ stE (M 20) (m_tl M) 21 (m_pl M + 1) = nI (m_e M))
def sp_Model_atom : aS := fun as M K => match as with
  | [.ref a, .int k] => a = 19 ∧ (mc_ok M ∧ mt_ok M ∧ pl_ok M ∧ M 19 4 < 0 ∧ at_kd M k) ∧ K (some (.int (m_atom M k).1)) (m_atom M k).2
  | _ => False
set_option maxRecDepth 100000 in
set_option maxHeartbeats 4000000 in
theorem lp_Model_atom1 {G : aG} (hG : am_ok G) {K : aR} {M : aM} {x e : Nat} {mi : Bool} {o6 : Option Value} (hx : x < 200) (he : M 19 2 = nI e) (h400 : e ≤ 400) : ∀ (f k : Nat) (v : Int32) (o6 : Option Value), k + f = e → K (some (.int (nI x))) (am_up M 22 x (if mi = true then -(mA1 (M 20) f k v) else mA1 (M 20) f k v)) → am_X G Y_Model_atom 2 K 44 [some (.ref 19), some (.int 1), some (.int (nI x)), some (.int (b2 mi)), some (.int v), some (.int (nI k)), o6] [] M := by
  intro f
  have vx : vp_in (nI x) 200 := vp_in_nI hx (by decide)
  have cx : (nI x).toNatClampNeg = x := nI_clamp (by omega)
  have l12 : ((1 : Int32) = 2) = False := eq_false (by decide)
  have l13 : ((1 : Int32) = 3) = False := eq_false (by decide)
  induction f with
  | zero =>
    intro k v o6 hk h
    have e1 : ¬ nI k < M 19 2 := by rw [he]; exact nI_nlt (by omega) (by omega)
    cases mi
    · simp only [mA1, Bool.false_eq_true, ↓reduceIte] at h
      have b0 : b2 false = 0 := rfl
      refine am_from (tb_Model_atom (ok_Model_node hG) (by decide) (ok_Model_letter hG) (by decide)) k_Model_atom 400 ?_
      simp only [q_Model_atom_44, r_Model_atom_0, r_Model_atom_1, r_Model_atom_2, r_Model_atom_5, r_Model_atom_6, r_Model_atom_7, r_Model_atom_10, r_Model_atom_13, r_Model_atom_14, r_Model_atom_15, r_Model_atom_16, r_Model_atom_19, r_Model_atom_20, r_Model_atom_23, r_Model_atom_24, r_Model_atom_26, r_Model_atom_29, r_Model_atom_30, r_Model_atom_33, r_Model_atom_34, r_Model_atom_35, r_Model_atom_36, r_Model_atom_38, r_Model_atom_39, r_Model_atom_42, r_Model_atom_44, r_Model_atom_46, r_Model_atom_47, r_Model_atom_50, r_Model_atom_53, r_Model_atom_54, r_Model_atom_57, r_Model_atom_59, r_Model_atom_60, r_Model_atom_62, r_Model_atom_63, r_Model_atom_64, r_Model_atom_67, r_Model_atom_69, r_Model_atom_71, r_Model_atom_74, r_Model_atom_76, r_Model_atom_78, r_Model_atom_79, r_Model_atom_81, r_Model_atom_82, r_Model_atom_84, r_Model_atom_85, r_Model_atom_87, r_Model_atom_88, r_Model_atom_89, r_Model_atom_92, r_Model_atom_93, r_Model_atom_94, r_Model_atom_96, r_Model_atom_99, r_Model_atom_100, r_Model_atom_101, r_Model_atom_104, r_Model_atom_106, r_Model_atom_107, r_Model_atom_110, r_Model_atom_113, r_Model_atom_115, r_Model_atom_116, r_Model_atom_119, r_Model_atom_120, r_Model_atom_121, r_Model_atom_124, r_Model_atom_126, r_Model_atom_128, r_Model_atom_131, r_Model_atom_133, r_Model_atom_134, r_Model_atom_135, r_Model_atom_138, r_Model_atom_140, r_Model_atom_142, r_Model_atom_143, r_Model_atom_144, r_Model_atom_145, r_Model_atom_148, r_Model_atom_150, r_Model_atom_151, r_Model_atom_154, r_Model_atom_157, r_Model_atom_160, r_Model_atom_161, r_Model_atom_162, r_Model_atom_165, r_Model_atom_166, r_Model_atom_169, r_Model_atom_170, r_Model_atom_171, r_Model_atom_174, r_Model_atom_176, r_Model_atom_177, r_Model_atom_180, r_Model_atom_182, r_Model_atom_183, r_Model_atom_184, ai_aload, ai_iload, ai_callv2, am_push, am_few, ai_istore, am_cut_0, am_cut_s, am_c1, ai_getf, ai_iflt, ai_iret, ai_iald, ai_const, ai_cmpne, ai_goto, ai_cmpge, ai_cmpeq, ai_imul, ai_bin, ai_iadd, ai_isub, ai_callv3, ai_cmple, ai_iinc, ai_ifeq, ai_ineg, ai_iast, kd_0, fd_0_0, fd_0_1, fd_0_2, fd_0_3, fd_0_4, kd_1, fd_1_0, fd_1_1, ln_2, kd_3, fd_3_0, fd_3_1, fd_3_2, fd_3_3, fd_3_4, fd_3_5, fd_3_6, fd_3_7, fd_3_8, fd_3_9, ln_4, ln_5, ln_6, ln_7, ln_8, ln_9, ln_10, kd_11, fd_11_0, fd_11_1, fd_11_2, fd_11_3, fd_11_4, kd_12, fd_12_0, fd_12_1, fd_12_2, fd_12_3, ln_13, ln_14, ln_15, kd_16, fd_16_0, fd_16_1, fd_16_2, ln_17, kd_18, fd_18_0, fd_18_1, kd_19, fd_19_0, fd_19_1, fd_19_2, fd_19_3, fd_19_4, fd_19_5, fd_19_6, fd_19_7, fd_19_8, fd_19_9, fd_19_10, fd_19_11, fd_19_12, fd_19_13, fd_19_14, fd_19_15, fd_19_16, fd_19_17, fd_19_18, fd_19_19, fd_19_20, ln_20, ln_21, ln_22, ln_23, ln_24, ln_25, ln_26, ln_27, ln_28, ln_29, ln_30, ln_31, ln_32, List.getElem?_cons_zero, List.getElem?_cons_succ, List.set_cons_zero, List.set_cons_succ, true_and, and_true, ↓reduceIte, Int32.reduceLT, Int32.reduceLE, li_10, or_true, true_or, e1, vx, cx, b0]
      exact h
    · simp only [mA1, ↓reduceIte] at h
      have b1 : ¬ b2 true = 0 := by decide
      refine am_from (tb_Model_atom (ok_Model_node hG) (by decide) (ok_Model_letter hG) (by decide)) k_Model_atom 400 ?_
      simp only [q_Model_atom_44, r_Model_atom_0, r_Model_atom_1, r_Model_atom_2, r_Model_atom_5, r_Model_atom_6, r_Model_atom_7, r_Model_atom_10, r_Model_atom_13, r_Model_atom_14, r_Model_atom_15, r_Model_atom_16, r_Model_atom_19, r_Model_atom_20, r_Model_atom_23, r_Model_atom_24, r_Model_atom_26, r_Model_atom_29, r_Model_atom_30, r_Model_atom_33, r_Model_atom_34, r_Model_atom_35, r_Model_atom_36, r_Model_atom_38, r_Model_atom_39, r_Model_atom_42, r_Model_atom_44, r_Model_atom_46, r_Model_atom_47, r_Model_atom_50, r_Model_atom_53, r_Model_atom_54, r_Model_atom_57, r_Model_atom_59, r_Model_atom_60, r_Model_atom_62, r_Model_atom_63, r_Model_atom_64, r_Model_atom_67, r_Model_atom_69, r_Model_atom_71, r_Model_atom_74, r_Model_atom_76, r_Model_atom_78, r_Model_atom_79, r_Model_atom_81, r_Model_atom_82, r_Model_atom_84, r_Model_atom_85, r_Model_atom_87, r_Model_atom_88, r_Model_atom_89, r_Model_atom_92, r_Model_atom_93, r_Model_atom_94, r_Model_atom_96, r_Model_atom_99, r_Model_atom_100, r_Model_atom_101, r_Model_atom_104, r_Model_atom_106, r_Model_atom_107, r_Model_atom_110, r_Model_atom_113, r_Model_atom_115, r_Model_atom_116, r_Model_atom_119, r_Model_atom_120, r_Model_atom_121, r_Model_atom_124, r_Model_atom_126, r_Model_atom_128, r_Model_atom_131, r_Model_atom_133, r_Model_atom_134, r_Model_atom_135, r_Model_atom_138, r_Model_atom_140, r_Model_atom_142, r_Model_atom_143, r_Model_atom_144, r_Model_atom_145, r_Model_atom_148, r_Model_atom_150, r_Model_atom_151, r_Model_atom_154, r_Model_atom_157, r_Model_atom_160, r_Model_atom_161, r_Model_atom_162, r_Model_atom_165, r_Model_atom_166, r_Model_atom_169, r_Model_atom_170, r_Model_atom_171, r_Model_atom_174, r_Model_atom_176, r_Model_atom_177, r_Model_atom_180, r_Model_atom_182, r_Model_atom_183, r_Model_atom_184, ai_aload, ai_iload, ai_callv2, am_push, am_few, ai_istore, am_cut_0, am_cut_s, am_c1, ai_getf, ai_iflt, ai_iret, ai_iald, ai_const, ai_cmpne, ai_goto, ai_cmpge, ai_cmpeq, ai_imul, ai_bin, ai_iadd, ai_isub, ai_callv3, ai_cmple, ai_iinc, ai_ifeq, ai_ineg, ai_iast, kd_0, fd_0_0, fd_0_1, fd_0_2, fd_0_3, fd_0_4, kd_1, fd_1_0, fd_1_1, ln_2, kd_3, fd_3_0, fd_3_1, fd_3_2, fd_3_3, fd_3_4, fd_3_5, fd_3_6, fd_3_7, fd_3_8, fd_3_9, ln_4, ln_5, ln_6, ln_7, ln_8, ln_9, ln_10, kd_11, fd_11_0, fd_11_1, fd_11_2, fd_11_3, fd_11_4, kd_12, fd_12_0, fd_12_1, fd_12_2, fd_12_3, ln_13, ln_14, ln_15, kd_16, fd_16_0, fd_16_1, fd_16_2, ln_17, kd_18, fd_18_0, fd_18_1, kd_19, fd_19_0, fd_19_1, fd_19_2, fd_19_3, fd_19_4, fd_19_5, fd_19_6, fd_19_7, fd_19_8, fd_19_9, fd_19_10, fd_19_11, fd_19_12, fd_19_13, fd_19_14, fd_19_15, fd_19_16, fd_19_17, fd_19_18, fd_19_19, fd_19_20, ln_20, ln_21, ln_22, ln_23, ln_24, ln_25, ln_26, ln_27, ln_28, ln_29, ln_30, ln_31, ln_32, List.getElem?_cons_zero, List.getElem?_cons_succ, List.set_cons_zero, List.set_cons_succ, true_and, and_true, ↓reduceIte, Int32.reduceLT, Int32.reduceLE, li_10, or_true, true_or, e1, vx, cx, b1]
      exact h
  | succ f ih =>
    intro k v o6 hk h
    have e1 : nI k < M 19 2 := by rw [he]; exact nI_lt (by omega) (by omega)
    have vk : vp_in (nI k) 400 := vp_in_nI (by omega) (by decide)
    have ck : (nI k).toNatClampNeg = k := nI_clamp (by omega)
    rw [mA1] at h
    by_cases c : M 20 k = 45
    · have c' : (M 20 k = 45) = True := eq_true c
      rw [if_pos c] at h
      refine am_from (tb_Model_atom (ok_Model_node hG) (by decide) (ok_Model_letter hG) (by decide)) k_Model_atom 400 ?_
      simp only [q_Model_atom_44, r_Model_atom_0, r_Model_atom_1, r_Model_atom_2, r_Model_atom_5, r_Model_atom_6, r_Model_atom_7, r_Model_atom_10, r_Model_atom_13, r_Model_atom_14, r_Model_atom_15, r_Model_atom_16, r_Model_atom_19, r_Model_atom_20, r_Model_atom_23, r_Model_atom_24, r_Model_atom_26, r_Model_atom_29, r_Model_atom_30, r_Model_atom_33, r_Model_atom_34, r_Model_atom_35, r_Model_atom_36, r_Model_atom_38, r_Model_atom_39, r_Model_atom_42, r_Model_atom_44, r_Model_atom_46, r_Model_atom_47, r_Model_atom_50, r_Model_atom_53, r_Model_atom_54, r_Model_atom_57, r_Model_atom_59, r_Model_atom_60, r_Model_atom_62, r_Model_atom_63, r_Model_atom_64, r_Model_atom_67, r_Model_atom_69, r_Model_atom_71, r_Model_atom_74, r_Model_atom_76, r_Model_atom_78, r_Model_atom_79, r_Model_atom_81, r_Model_atom_82, r_Model_atom_84, r_Model_atom_85, r_Model_atom_87, r_Model_atom_88, r_Model_atom_89, r_Model_atom_92, r_Model_atom_93, r_Model_atom_94, r_Model_atom_96, r_Model_atom_99, r_Model_atom_100, r_Model_atom_101, r_Model_atom_104, r_Model_atom_106, r_Model_atom_107, r_Model_atom_110, r_Model_atom_113, r_Model_atom_115, r_Model_atom_116, r_Model_atom_119, r_Model_atom_120, r_Model_atom_121, r_Model_atom_124, r_Model_atom_126, r_Model_atom_128, r_Model_atom_131, r_Model_atom_133, r_Model_atom_134, r_Model_atom_135, r_Model_atom_138, r_Model_atom_140, r_Model_atom_142, r_Model_atom_143, r_Model_atom_144, r_Model_atom_145, r_Model_atom_148, r_Model_atom_150, r_Model_atom_151, r_Model_atom_154, r_Model_atom_157, r_Model_atom_160, r_Model_atom_161, r_Model_atom_162, r_Model_atom_165, r_Model_atom_166, r_Model_atom_169, r_Model_atom_170, r_Model_atom_171, r_Model_atom_174, r_Model_atom_176, r_Model_atom_177, r_Model_atom_180, r_Model_atom_182, r_Model_atom_183, r_Model_atom_184, ai_aload, ai_iload, ai_callv2, am_push, am_few, ai_istore, am_cut_0, am_cut_s, am_c1, ai_getf, ai_iflt, ai_iret, ai_iald, ai_const, ai_cmpne, ai_goto, ai_cmpge, ai_cmpeq, ai_imul, ai_bin, ai_iadd, ai_isub, ai_callv3, ai_cmple, ai_iinc, ai_ifeq, ai_ineg, ai_iast, kd_0, fd_0_0, fd_0_1, fd_0_2, fd_0_3, fd_0_4, kd_1, fd_1_0, fd_1_1, ln_2, kd_3, fd_3_0, fd_3_1, fd_3_2, fd_3_3, fd_3_4, fd_3_5, fd_3_6, fd_3_7, fd_3_8, fd_3_9, ln_4, ln_5, ln_6, ln_7, ln_8, ln_9, ln_10, kd_11, fd_11_0, fd_11_1, fd_11_2, fd_11_3, fd_11_4, kd_12, fd_12_0, fd_12_1, fd_12_2, fd_12_3, ln_13, ln_14, ln_15, kd_16, fd_16_0, fd_16_1, fd_16_2, ln_17, kd_18, fd_18_0, fd_18_1, kd_19, fd_19_0, fd_19_1, fd_19_2, fd_19_3, fd_19_4, fd_19_5, fd_19_6, fd_19_7, fd_19_8, fd_19_9, fd_19_10, fd_19_11, fd_19_12, fd_19_13, fd_19_14, fd_19_15, fd_19_16, fd_19_17, fd_19_18, fd_19_19, fd_19_20, ln_20, ln_21, ln_22, ln_23, ln_24, ln_25, ln_26, ln_27, ln_28, ln_29, ln_30, ln_31, ln_32, List.getElem?_cons_zero, List.getElem?_cons_succ, List.set_cons_zero, List.set_cons_succ, true_and, and_true, ↓reduceIte, Int32.reduceLT, Int32.reduceLE, li_10, or_true, true_or, e1, vk, ck, c', l12, l13, nI_1]
      exact ih (k + 1) v _ (by omega) h
    · rw [if_neg c] at h
      refine am_from (tb_Model_atom (ok_Model_node hG) (by decide) (ok_Model_letter hG) (by decide)) k_Model_atom 400 ?_
      simp only [q_Model_atom_44, r_Model_atom_0, r_Model_atom_1, r_Model_atom_2, r_Model_atom_5, r_Model_atom_6, r_Model_atom_7, r_Model_atom_10, r_Model_atom_13, r_Model_atom_14, r_Model_atom_15, r_Model_atom_16, r_Model_atom_19, r_Model_atom_20, r_Model_atom_23, r_Model_atom_24, r_Model_atom_26, r_Model_atom_29, r_Model_atom_30, r_Model_atom_33, r_Model_atom_34, r_Model_atom_35, r_Model_atom_36, r_Model_atom_38, r_Model_atom_39, r_Model_atom_42, r_Model_atom_44, r_Model_atom_46, r_Model_atom_47, r_Model_atom_50, r_Model_atom_53, r_Model_atom_54, r_Model_atom_57, r_Model_atom_59, r_Model_atom_60, r_Model_atom_62, r_Model_atom_63, r_Model_atom_64, r_Model_atom_67, r_Model_atom_69, r_Model_atom_71, r_Model_atom_74, r_Model_atom_76, r_Model_atom_78, r_Model_atom_79, r_Model_atom_81, r_Model_atom_82, r_Model_atom_84, r_Model_atom_85, r_Model_atom_87, r_Model_atom_88, r_Model_atom_89, r_Model_atom_92, r_Model_atom_93, r_Model_atom_94, r_Model_atom_96, r_Model_atom_99, r_Model_atom_100, r_Model_atom_101, r_Model_atom_104, r_Model_atom_106, r_Model_atom_107, r_Model_atom_110, r_Model_atom_113, r_Model_atom_115, r_Model_atom_116, r_Model_atom_119, r_Model_atom_120, r_Model_atom_121, r_Model_atom_124, r_Model_atom_126, r_Model_atom_128, r_Model_atom_131, r_Model_atom_133, r_Model_atom_134, r_Model_atom_135, r_Model_atom_138, r_Model_atom_140, r_Model_atom_142, r_Model_atom_143, r_Model_atom_144, r_Model_atom_145, r_Model_atom_148, r_Model_atom_150, r_Model_atom_151, r_Model_atom_154, r_Model_atom_157, r_Model_atom_160, r_Model_atom_161, r_Model_atom_162, r_Model_atom_165, r_Model_atom_166, r_Model_atom_169, r_Model_atom_170, r_Model_atom_171, r_Model_atom_174, r_Model_atom_176, r_Model_atom_177, r_Model_atom_180, r_Model_atom_182, r_Model_atom_183, r_Model_atom_184, ai_aload, ai_iload, ai_callv2, am_push, am_few, ai_istore, am_cut_0, am_cut_s, am_c1, ai_getf, ai_iflt, ai_iret, ai_iald, ai_const, ai_cmpne, ai_goto, ai_cmpge, ai_cmpeq, ai_imul, ai_bin, ai_iadd, ai_isub, ai_callv3, ai_cmple, ai_iinc, ai_ifeq, ai_ineg, ai_iast, kd_0, fd_0_0, fd_0_1, fd_0_2, fd_0_3, fd_0_4, kd_1, fd_1_0, fd_1_1, ln_2, kd_3, fd_3_0, fd_3_1, fd_3_2, fd_3_3, fd_3_4, fd_3_5, fd_3_6, fd_3_7, fd_3_8, fd_3_9, ln_4, ln_5, ln_6, ln_7, ln_8, ln_9, ln_10, kd_11, fd_11_0, fd_11_1, fd_11_2, fd_11_3, fd_11_4, kd_12, fd_12_0, fd_12_1, fd_12_2, fd_12_3, ln_13, ln_14, ln_15, kd_16, fd_16_0, fd_16_1, fd_16_2, ln_17, kd_18, fd_18_0, fd_18_1, kd_19, fd_19_0, fd_19_1, fd_19_2, fd_19_3, fd_19_4, fd_19_5, fd_19_6, fd_19_7, fd_19_8, fd_19_9, fd_19_10, fd_19_11, fd_19_12, fd_19_13, fd_19_14, fd_19_15, fd_19_16, fd_19_17, fd_19_18, fd_19_19, fd_19_20, ln_20, ln_21, ln_22, ln_23, ln_24, ln_25, ln_26, ln_27, ln_28, ln_29, ln_30, ln_31, ln_32, List.getElem?_cons_zero, List.getElem?_cons_succ, List.set_cons_zero, List.set_cons_succ, true_and, and_true, ↓reduceIte, Int32.reduceLT, Int32.reduceLE, li_10, or_true, true_or, e1, vk, ck, c, l12, l13, nI_1]
      exact ih (k + 1) _ _ (by omega) h
theorem m_let_19 (M : aM) (x : Nat) (c : Int32) : m_let M x c 19 = M 19 := rfl
theorem m_let_20 (M : aM) (x : Nat) (c : Int32) : m_let M x c 20 = M 20 := rfl
theorem m_let_22 (M : aM) (x : Nat) (c : Int32) : m_let M x c 22 x = nI (cl (M 22 x) + 1) := by
  unfold m_let
  simp only [am_up_ap, ↓reduceIte]
set_option maxRecDepth 100000 in
set_option maxHeartbeats 4000000 in
theorem lp_Model_atom2 {G : aG} (hG : am_ok G) {K : aR} {t : Nat → Int32} {x e : Nat} {mi v0 : Int32} (hx : x < 200) (h400 : e ≤ 400) : ∀ (f k v : Nat) (M : aM) (o6 : Option Value), M 20 = t → M 19 2 = nI e → k + f = e → M 22 x = nI v → v + f ≤ 20 → K (some (.int (nI x))) (mA2 t x f k M) → am_X G Y_Model_atom 2 K 44 [some (.ref 19), some (.int 2), some (.int (nI x)), some (.int mi), some (.int v0), some (.int (nI k)), o6] [] M := by
  intro f
  have cx : cl (nI x) = x := nI_clamp (by omega)
  have ex : nI x = nI (cl (nI x)) := by rw [cx]
  have l21 : ((2 : Int32) = 1) = False := eq_false (by decide)
  have l23 : ((2 : Int32) = 3) = False := eq_false (by decide)
  induction f with
  | zero =>
    intro k v M o6 hM he hk hv hvf h
    have e1 : ¬ nI k < M 19 2 := by rw [he]; exact nI_nlt (by omega) (by omega)
    refine am_from (tb_Model_atom (ok_Model_node hG) (by decide) (ok_Model_letter hG) (by decide)) k_Model_atom 400 ?_
    simp only [q_Model_atom_44, r_Model_atom_0, r_Model_atom_1, r_Model_atom_2, r_Model_atom_5, r_Model_atom_6, r_Model_atom_7, r_Model_atom_10, r_Model_atom_13, r_Model_atom_14, r_Model_atom_15, r_Model_atom_16, r_Model_atom_19, r_Model_atom_20, r_Model_atom_23, r_Model_atom_24, r_Model_atom_26, r_Model_atom_29, r_Model_atom_30, r_Model_atom_33, r_Model_atom_34, r_Model_atom_35, r_Model_atom_36, r_Model_atom_38, r_Model_atom_39, r_Model_atom_42, r_Model_atom_44, r_Model_atom_46, r_Model_atom_47, r_Model_atom_50, r_Model_atom_53, r_Model_atom_54, r_Model_atom_57, r_Model_atom_59, r_Model_atom_60, r_Model_atom_62, r_Model_atom_63, r_Model_atom_64, r_Model_atom_67, r_Model_atom_69, r_Model_atom_71, r_Model_atom_74, r_Model_atom_76, r_Model_atom_78, r_Model_atom_79, r_Model_atom_81, r_Model_atom_82, r_Model_atom_84, r_Model_atom_85, r_Model_atom_87, r_Model_atom_88, r_Model_atom_89, r_Model_atom_92, r_Model_atom_93, r_Model_atom_94, r_Model_atom_96, r_Model_atom_99, r_Model_atom_100, r_Model_atom_101, r_Model_atom_104, r_Model_atom_106, r_Model_atom_107, r_Model_atom_110, r_Model_atom_113, r_Model_atom_115, r_Model_atom_116, r_Model_atom_119, r_Model_atom_120, r_Model_atom_121, r_Model_atom_124, r_Model_atom_126, r_Model_atom_128, r_Model_atom_131, r_Model_atom_133, r_Model_atom_134, r_Model_atom_135, r_Model_atom_138, r_Model_atom_140, r_Model_atom_142, r_Model_atom_143, r_Model_atom_144, r_Model_atom_145, r_Model_atom_148, r_Model_atom_150, r_Model_atom_151, r_Model_atom_154, r_Model_atom_157, r_Model_atom_160, r_Model_atom_161, r_Model_atom_162, r_Model_atom_165, r_Model_atom_166, r_Model_atom_169, r_Model_atom_170, r_Model_atom_171, r_Model_atom_174, r_Model_atom_176, r_Model_atom_177, r_Model_atom_180, r_Model_atom_182, r_Model_atom_183, r_Model_atom_184, ai_aload, ai_iload, ai_callv2, am_push, am_few, ai_istore, am_cut_0, am_cut_s, am_c1, ai_getf, ai_iflt, ai_iret, ai_iald, ai_const, ai_cmpne, ai_goto, ai_cmpge, ai_cmpeq, ai_imul, ai_bin, ai_iadd, ai_isub, ai_callv3, ai_cmple, ai_iinc, ai_ifeq, ai_ineg, ai_iast, kd_0, fd_0_0, fd_0_1, fd_0_2, fd_0_3, fd_0_4, kd_1, fd_1_0, fd_1_1, ln_2, kd_3, fd_3_0, fd_3_1, fd_3_2, fd_3_3, fd_3_4, fd_3_5, fd_3_6, fd_3_7, fd_3_8, fd_3_9, ln_4, ln_5, ln_6, ln_7, ln_8, ln_9, ln_10, kd_11, fd_11_0, fd_11_1, fd_11_2, fd_11_3, fd_11_4, kd_12, fd_12_0, fd_12_1, fd_12_2, fd_12_3, ln_13, ln_14, ln_15, kd_16, fd_16_0, fd_16_1, fd_16_2, ln_17, kd_18, fd_18_0, fd_18_1, kd_19, fd_19_0, fd_19_1, fd_19_2, fd_19_3, fd_19_4, fd_19_5, fd_19_6, fd_19_7, fd_19_8, fd_19_9, fd_19_10, fd_19_11, fd_19_12, fd_19_13, fd_19_14, fd_19_15, fd_19_16, fd_19_17, fd_19_18, fd_19_19, fd_19_20, ln_20, ln_21, ln_22, ln_23, ln_24, ln_25, ln_26, ln_27, ln_28, ln_29, ln_30, ln_31, ln_32, List.getElem?_cons_zero, List.getElem?_cons_succ, List.set_cons_zero, List.set_cons_succ, true_and, and_true, ↓reduceIte, Int32.reduceLT, Int32.reduceLE, li_10, or_true, true_or, e1, l21]
    exact h
  | succ f ih =>
    intro k v M o6 hM he hk hv hvf h
    have e1 : nI k < M 19 2 := by rw [he]; exact nI_lt (by omega) (by omega)
    have vk : vp_in (nI k) 400 := vp_in_nI (by omega) (by decide)
    have ck : (nI k).toNatClampNeg = k := nI_clamp (by omega)
    rw [mA2] at h
    have q1 : cl (nI x) < 200 := by rw [cx]; exact hx
    have q2 : M 22 (cl (nI x)) = nI (cl (M 22 (cl (nI x)))) := by rw [cx, hv, show cl (nI v) = v from nI_clamp (by omega)]
    have q3 : cl (M 22 (cl (nI x))) < 20 := by rw [cx, hv, show cl (nI v) = v from nI_clamp (by omega)]; omega
    refine am_from (tb_Model_atom (ok_Model_node hG) (by decide) (ok_Model_letter hG) (by decide)) k_Model_atom 400 ?_
    simp only [q_Model_atom_44, r_Model_atom_0, r_Model_atom_1, r_Model_atom_2, r_Model_atom_5, r_Model_atom_6, r_Model_atom_7, r_Model_atom_10, r_Model_atom_13, r_Model_atom_14, r_Model_atom_15, r_Model_atom_16, r_Model_atom_19, r_Model_atom_20, r_Model_atom_23, r_Model_atom_24, r_Model_atom_26, r_Model_atom_29, r_Model_atom_30, r_Model_atom_33, r_Model_atom_34, r_Model_atom_35, r_Model_atom_36, r_Model_atom_38, r_Model_atom_39, r_Model_atom_42, r_Model_atom_44, r_Model_atom_46, r_Model_atom_47, r_Model_atom_50, r_Model_atom_53, r_Model_atom_54, r_Model_atom_57, r_Model_atom_59, r_Model_atom_60, r_Model_atom_62, r_Model_atom_63, r_Model_atom_64, r_Model_atom_67, r_Model_atom_69, r_Model_atom_71, r_Model_atom_74, r_Model_atom_76, r_Model_atom_78, r_Model_atom_79, r_Model_atom_81, r_Model_atom_82, r_Model_atom_84, r_Model_atom_85, r_Model_atom_87, r_Model_atom_88, r_Model_atom_89, r_Model_atom_92, r_Model_atom_93, r_Model_atom_94, r_Model_atom_96, r_Model_atom_99, r_Model_atom_100, r_Model_atom_101, r_Model_atom_104, r_Model_atom_106, r_Model_atom_107, r_Model_atom_110, r_Model_atom_113, r_Model_atom_115, r_Model_atom_116, r_Model_atom_119, r_Model_atom_120, r_Model_atom_121, r_Model_atom_124, r_Model_atom_126, r_Model_atom_128, r_Model_atom_131, r_Model_atom_133, r_Model_atom_134, r_Model_atom_135, r_Model_atom_138, r_Model_atom_140, r_Model_atom_142, r_Model_atom_143, r_Model_atom_144, r_Model_atom_145, r_Model_atom_148, r_Model_atom_150, r_Model_atom_151, r_Model_atom_154, r_Model_atom_157, r_Model_atom_160, r_Model_atom_161, r_Model_atom_162, r_Model_atom_165, r_Model_atom_166, r_Model_atom_169, r_Model_atom_170, r_Model_atom_171, r_Model_atom_174, r_Model_atom_176, r_Model_atom_177, r_Model_atom_180, r_Model_atom_182, r_Model_atom_183, r_Model_atom_184, ai_aload, ai_iload, ai_callv2, am_push, am_few, ai_istore, am_cut_0, am_cut_s, am_c1, ai_getf, ai_iflt, ai_iret, ai_iald, ai_const, ai_cmpne, ai_goto, ai_cmpge, ai_cmpeq, ai_imul, ai_bin, ai_iadd, ai_isub, ai_callv3, ai_cmple, ai_iinc, ai_ifeq, ai_ineg, ai_iast, kd_0, fd_0_0, fd_0_1, fd_0_2, fd_0_3, fd_0_4, kd_1, fd_1_0, fd_1_1, ln_2, kd_3, fd_3_0, fd_3_1, fd_3_2, fd_3_3, fd_3_4, fd_3_5, fd_3_6, fd_3_7, fd_3_8, fd_3_9, ln_4, ln_5, ln_6, ln_7, ln_8, ln_9, ln_10, kd_11, fd_11_0, fd_11_1, fd_11_2, fd_11_3, fd_11_4, kd_12, fd_12_0, fd_12_1, fd_12_2, fd_12_3, ln_13, ln_14, ln_15, kd_16, fd_16_0, fd_16_1, fd_16_2, ln_17, kd_18, fd_18_0, fd_18_1, kd_19, fd_19_0, fd_19_1, fd_19_2, fd_19_3, fd_19_4, fd_19_5, fd_19_6, fd_19_7, fd_19_8, fd_19_9, fd_19_10, fd_19_11, fd_19_12, fd_19_13, fd_19_14, fd_19_15, fd_19_16, fd_19_17, fd_19_18, fd_19_19, fd_19_20, ln_20, ln_21, ln_22, ln_23, ln_24, ln_25, ln_26, ln_27, ln_28, ln_29, ln_30, ln_31, ln_32, List.getElem?_cons_zero, List.getElem?_cons_succ, List.set_cons_zero, List.set_cons_succ, true_and, and_true, ↓reduceIte, Int32.reduceLT, Int32.reduceLE, li_10, or_true, true_or, ↓sp_Model_letter, e1, vk, ck, l21, l23, nI_1, ← ex, q1, ← q2, q3]
    rw [cx, hM]
    refine ih (k + 1) (v + 1) _ _ ?_ ?_ (by omega) ?_ (by omega) h
    · rw [m_let_20, hM]
    · rw [m_let_19, he]
    · rw [m_let_22, hv, show cl (nI v) = v from nI_clamp (by omega)]
theorem stE_gt {t : Nat → Int32} {N e : Nat} (he : e < 2 ^ 31) : ∀ (c i : Nat), N ≤ 400 → i ≤ 500 + 2 * (21 - c) → c ≤ 21 → stE t N c i = nI e → i < e ∧ e ≤ N := by
  intro c
  have hne : ¬ (-1 : Int32) = nI e := fun q => nI_ne he q.symm
  induction c with
  | zero =>
    intro i hN hi hc h
    exact absurd h hne
  | succ c ih =>
    intro i hN hi hc h
    rw [stE] at h
    by_cases c1 : bt t N i = 34
    · rw [if_pos c1] at h
      have := (nI_eq (a := i + 1) (b := e) (by omega) he).mp h
      have hlt : i < N := bt_lt (t := t) (by rw [c1]; decide)
      omega
    rw [if_neg c1] at h
    by_cases c2 : bt t N i = 92
    · rw [if_pos c2] at h
      by_cases c3 : bt t N (i + 1) = 34
      · rw [if_pos c3] at h
        have := ih (i + 2) hN (by omega) (by omega) h
        omega
      rw [if_neg c3] at h
      by_cases c4 : bt t N (i + 1) = 92
      · rw [if_pos c4] at h
        have := ih (i + 2) hN (by omega) (by omega) h
        omega
      · rw [if_neg c4] at h
        exact absurd h hne
    rw [if_neg c2] at h
    by_cases c5 : bt t N i < 32
    · rw [if_pos c5] at h; exact absurd h hne
    rw [if_neg c5] at h
    by_cases c6 : 126 < bt t N i
    · rw [if_pos c6] at h; exact absurd h hne
    rw [if_neg c6] at h
    have := ih (i + 1) hN (by omega) (by omega) h
    omega
set_option maxRecDepth 100000 in
set_option maxHeartbeats 4000000 in
theorem lp_Model_atom3 {G : aG} (hG : am_ok G) {K : aR} {t : Nat → Int32} {x e N pl : Nat} {mi v0 : Int32} (hx : x < 200) (hN : N ≤ 400) (he400 : e ≤ N) : ∀ (c i v : Nat) (M : aM) (o6 : Option Value), M 20 = t → M 19 2 = nI e → M 19 3 = nI pl → pl < i → i ≤ 401 → M 22 x = nI v → v + c = 20 → stE t N (c + 1) i = nI e → K (some (.int (nI x))) (mA3 t N x (c + 1) i M) → am_X G Y_Model_atom 2 K 44 [some (.ref 19), some (.int 3), some (.int (nI x)), some (.int mi), some (.int v0), some (.int (nI i)), o6] [] M := by
  intro c
  have cx : cl (nI x) = x := nI_clamp (by omega)
  have ex : nI x = nI (cl (nI x)) := by rw [cx]
  have l31 : ((3 : Int32) = 1) = False := eq_false (by decide)
  have hne : ¬ (-1 : Int32) = nI e := fun q => nI_ne (by omega) q.symm
  have Hend : ∀ (i v c : Nat) (M : aM) (o6 : Option Value), M 20 = t → M 19 2 = nI e → M 19 3 = nI pl → pl < i → i ≤ 401 → e = i + 1 → K (some (.int (nI x))) M → am_X G Y_Model_atom 2 K 44 [some (.ref 19), some (.int 3), some (.int (nI x)), some (.int mi), some (.int v0), some (.int (nI i)), o6] [] M := by
    intro i v c M o6 hM he hpl hi hi4 hei h
    have e1 : nI i < M 19 2 := by rw [he]; exact nI_lt (by omega) (by omega)
    have vk : vp_in (nI i) 400 := vp_in_nI (by omega) (by decide)
    have ck : (nI i).toNatClampNeg = i := nI_clamp (by omega)
    have e2 : M 19 3 < nI i := by rw [hpl]; exact nI_lt hi (by omega)
    have e3 : ¬ nI i < M 19 2 - 1 := by
      rw [he, show nI e - 1 = nI (e - 1) from pk_sub (b := 1) (by omega)]
      exact nI_nlt (by omega) (by omega)
    have z : ∀ o6, am_X G Y_Model_atom 2 K 44 [some (.ref 19), some (.int 3), some (.int (nI x)), some (.int mi), some (.int v0), some (.int (nI (i + 1))), o6] [] M := by
      intro o6
      have f1 : ¬ nI (i + 1) < M 19 2 := by rw [he]; exact nI_nlt (by omega) (by omega)
      refine am_from (tb_Model_atom (ok_Model_node hG) (by decide) (ok_Model_letter hG) (by decide)) k_Model_atom 400 ?_
      simp only [q_Model_atom_44, r_Model_atom_0, r_Model_atom_1, r_Model_atom_2, r_Model_atom_5, r_Model_atom_6, r_Model_atom_7, r_Model_atom_10, r_Model_atom_13, r_Model_atom_14, r_Model_atom_15, r_Model_atom_16, r_Model_atom_19, r_Model_atom_20, r_Model_atom_23, r_Model_atom_24, r_Model_atom_26, r_Model_atom_29, r_Model_atom_30, r_Model_atom_33, r_Model_atom_34, r_Model_atom_35, r_Model_atom_36, r_Model_atom_38, r_Model_atom_39, r_Model_atom_42, r_Model_atom_44, r_Model_atom_46, r_Model_atom_47, r_Model_atom_50, r_Model_atom_53, r_Model_atom_54, r_Model_atom_57, r_Model_atom_59, r_Model_atom_60, r_Model_atom_62, r_Model_atom_63, r_Model_atom_64, r_Model_atom_67, r_Model_atom_69, r_Model_atom_71, r_Model_atom_74, r_Model_atom_76, r_Model_atom_78, r_Model_atom_79, r_Model_atom_81, r_Model_atom_82, r_Model_atom_84, r_Model_atom_85, r_Model_atom_87, r_Model_atom_88, r_Model_atom_89, r_Model_atom_92, r_Model_atom_93, r_Model_atom_94, r_Model_atom_96, r_Model_atom_99, r_Model_atom_100, r_Model_atom_101, r_Model_atom_104, r_Model_atom_106, r_Model_atom_107, r_Model_atom_110, r_Model_atom_113, r_Model_atom_115, r_Model_atom_116, r_Model_atom_119, r_Model_atom_120, r_Model_atom_121, r_Model_atom_124, r_Model_atom_126, r_Model_atom_128, r_Model_atom_131, r_Model_atom_133, r_Model_atom_134, r_Model_atom_135, r_Model_atom_138, r_Model_atom_140, r_Model_atom_142, r_Model_atom_143, r_Model_atom_144, r_Model_atom_145, r_Model_atom_148, r_Model_atom_150, r_Model_atom_151, r_Model_atom_154, r_Model_atom_157, r_Model_atom_160, r_Model_atom_161, r_Model_atom_162, r_Model_atom_165, r_Model_atom_166, r_Model_atom_169, r_Model_atom_170, r_Model_atom_171, r_Model_atom_174, r_Model_atom_176, r_Model_atom_177, r_Model_atom_180, r_Model_atom_182, r_Model_atom_183, r_Model_atom_184, ai_aload, ai_iload, ai_callv2, am_push, am_few, ai_istore, am_cut_0, am_cut_s, am_c1, ai_getf, ai_iflt, ai_iret, ai_iald, ai_const, ai_cmpne, ai_goto, ai_cmpge, ai_cmpeq, ai_imul, ai_bin, ai_iadd, ai_isub, ai_callv3, ai_cmple, ai_iinc, ai_ifeq, ai_ineg, ai_iast, kd_0, fd_0_0, fd_0_1, fd_0_2, fd_0_3, fd_0_4, kd_1, fd_1_0, fd_1_1, ln_2, kd_3, fd_3_0, fd_3_1, fd_3_2, fd_3_3, fd_3_4, fd_3_5, fd_3_6, fd_3_7, fd_3_8, fd_3_9, ln_4, ln_5, ln_6, ln_7, ln_8, ln_9, ln_10, kd_11, fd_11_0, fd_11_1, fd_11_2, fd_11_3, fd_11_4, kd_12, fd_12_0, fd_12_1, fd_12_2, fd_12_3, ln_13, ln_14, ln_15, kd_16, fd_16_0, fd_16_1, fd_16_2, ln_17, kd_18, fd_18_0, fd_18_1, kd_19, fd_19_0, fd_19_1, fd_19_2, fd_19_3, fd_19_4, fd_19_5, fd_19_6, fd_19_7, fd_19_8, fd_19_9, fd_19_10, fd_19_11, fd_19_12, fd_19_13, fd_19_14, fd_19_15, fd_19_16, fd_19_17, fd_19_18, fd_19_19, fd_19_20, ln_20, ln_21, ln_22, ln_23, ln_24, ln_25, ln_26, ln_27, ln_28, ln_29, ln_30, ln_31, ln_32, List.getElem?_cons_zero, List.getElem?_cons_succ, List.set_cons_zero, List.set_cons_succ, true_and, and_true, ↓reduceIte, Int32.reduceLT, Int32.reduceLE, li_10, or_true, true_or, f1, l31]
      exact h
    refine am_from (tb_Model_atom (ok_Model_node hG) (by decide) (ok_Model_letter hG) (by decide)) k_Model_atom 400 ?_
    simp only [q_Model_atom_44, r_Model_atom_0, r_Model_atom_1, r_Model_atom_2, r_Model_atom_5, r_Model_atom_6, r_Model_atom_7, r_Model_atom_10, r_Model_atom_13, r_Model_atom_14, r_Model_atom_15, r_Model_atom_16, r_Model_atom_19, r_Model_atom_20, r_Model_atom_23, r_Model_atom_24, r_Model_atom_26, r_Model_atom_29, r_Model_atom_30, r_Model_atom_33, r_Model_atom_34, r_Model_atom_35, r_Model_atom_36, r_Model_atom_38, r_Model_atom_39, r_Model_atom_42, r_Model_atom_44, r_Model_atom_46, r_Model_atom_47, r_Model_atom_50, r_Model_atom_53, r_Model_atom_54, r_Model_atom_57, r_Model_atom_59, r_Model_atom_60, r_Model_atom_62, r_Model_atom_63, r_Model_atom_64, r_Model_atom_67, r_Model_atom_69, r_Model_atom_71, r_Model_atom_74, r_Model_atom_76, r_Model_atom_78, r_Model_atom_79, r_Model_atom_81, r_Model_atom_82, r_Model_atom_84, r_Model_atom_85, r_Model_atom_87, r_Model_atom_88, r_Model_atom_89, r_Model_atom_92, r_Model_atom_93, r_Model_atom_94, r_Model_atom_96, r_Model_atom_99, r_Model_atom_100, r_Model_atom_101, r_Model_atom_104, r_Model_atom_106, r_Model_atom_107, r_Model_atom_110, r_Model_atom_113, r_Model_atom_115, r_Model_atom_116, r_Model_atom_119, r_Model_atom_120, r_Model_atom_121, r_Model_atom_124, r_Model_atom_126, r_Model_atom_128, r_Model_atom_131, r_Model_atom_133, r_Model_atom_134, r_Model_atom_135, r_Model_atom_138, r_Model_atom_140, r_Model_atom_142, r_Model_atom_143, r_Model_atom_144, r_Model_atom_145, r_Model_atom_148, r_Model_atom_150, r_Model_atom_151, r_Model_atom_154, r_Model_atom_157, r_Model_atom_160, r_Model_atom_161, r_Model_atom_162, r_Model_atom_165, r_Model_atom_166, r_Model_atom_169, r_Model_atom_170, r_Model_atom_171, r_Model_atom_174, r_Model_atom_176, r_Model_atom_177, r_Model_atom_180, r_Model_atom_182, r_Model_atom_183, r_Model_atom_184, ai_aload, ai_iload, ai_callv2, am_push, am_few, ai_istore, am_cut_0, am_cut_s, am_c1, ai_getf, ai_iflt, ai_iret, ai_iald, ai_const, ai_cmpne, ai_goto, ai_cmpge, ai_cmpeq, ai_imul, ai_bin, ai_iadd, ai_isub, ai_callv3, ai_cmple, ai_iinc, ai_ifeq, ai_ineg, ai_iast, kd_0, fd_0_0, fd_0_1, fd_0_2, fd_0_3, fd_0_4, kd_1, fd_1_0, fd_1_1, ln_2, kd_3, fd_3_0, fd_3_1, fd_3_2, fd_3_3, fd_3_4, fd_3_5, fd_3_6, fd_3_7, fd_3_8, fd_3_9, ln_4, ln_5, ln_6, ln_7, ln_8, ln_9, ln_10, kd_11, fd_11_0, fd_11_1, fd_11_2, fd_11_3, fd_11_4, kd_12, fd_12_0, fd_12_1, fd_12_2, fd_12_3, ln_13, ln_14, ln_15, kd_16, fd_16_0, fd_16_1, fd_16_2, ln_17, kd_18, fd_18_0, fd_18_1, kd_19, fd_19_0, fd_19_1, fd_19_2, fd_19_3, fd_19_4, fd_19_5, fd_19_6, fd_19_7, fd_19_8, fd_19_9, fd_19_10, fd_19_11, fd_19_12, fd_19_13, fd_19_14, fd_19_15, fd_19_16, fd_19_17, fd_19_18, fd_19_19, fd_19_20, ln_20, ln_21, ln_22, ln_23, ln_24, ln_25, ln_26, ln_27, ln_28, ln_29, ln_30, ln_31, ln_32, List.getElem?_cons_zero, List.getElem?_cons_succ, List.set_cons_zero, List.set_cons_succ, true_and, and_true, ↓reduceIte, Int32.reduceLT, Int32.reduceLE, li_10, or_true, true_or, e1, vk, ck, l31, li_32, e2, e3, nI_1]
    exact z _
  induction c with
  | zero =>
    intro i v M o6 hM he hpl hi hi4 hv hvc hst h
    by_cases c1 : bt t N i = 34
    · rw [stE, if_pos c1] at hst
      rw [mA3, if_pos c1] at h
      have := (nI_eq (a := i + 1) (b := e) (by omega) (by omega)).mp hst
      exact Hend i v 0 M o6 hM he hpl hi hi4 this.symm h
    · exfalso
      rw [stE, if_neg c1] at hst
      (repeat' split at hst) <;> exact hne hst
  | succ c ih =>
    intro i v M o6 hM he hpl hi hi4 hv hvc hst h
    by_cases c1 : bt t N i = 34
    · rw [stE, if_pos c1] at hst
      rw [mA3, if_pos c1] at h
      have := (nI_eq (a := i + 1) (b := e) (by omega) (by omega)).mp hst
      exact Hend i v 0 M o6 hM he hpl hi hi4 this.symm h
    rw [stE, if_neg c1] at hst
    rw [mA3, if_neg c1] at h
    have hil : i < N := by
      apply bt_lt (t := t)
      intro q
      rw [q] at hst
      rw [if_neg (by decide), if_pos (by decide)] at hst
      exact hne hst
    have hti : bt t N i = t i := by unfold bt; rw [if_pos hil]
    have e1 : nI i < M 19 2 → vp_in (nI i) 400 := fun _ => vp_in_nI (by omega) (by decide)
    have vk : vp_in (nI i) 400 := vp_in_nI (by omega) (by decide)
    have ck : (nI i).toNatClampNeg = i := nI_clamp (by omega)
    have e2 : M 19 3 < nI i := by rw [hpl]; exact nI_lt hi (by omega)
    have q1 : cl (nI x) < 200 := by rw [cx]; exact hx
    have q2 : M 22 (cl (nI x)) = nI (cl (M 22 (cl (nI x)))) := by rw [cx, hv, show cl (nI v) = v from nI_clamp (by omega)]
    have q3 : cl (M 22 (cl (nI x))) < 20 := by rw [cx, hv, show cl (nI v) = v from nI_clamp (by omega)]; omega
    have qv : ∀ z, m_let M x z 22 x = nI (v + 1) := fun z => by rw [m_let_22, hv, show cl (nI v) = v from nI_clamp (by omega)]
    by_cases c2 : bt t N i = 92
    · rw [if_pos c2] at hst h
      have hst2 : stE t N (c + 1) (i + 2) = nI e ∧ i + 1 < N := by
        by_cases c3 : bt t N (i + 1) = 34
        · rw [if_pos c3] at hst
          exact ⟨hst, bt_lt (t := t) (by rw [c3]; decide)⟩
        rw [if_neg c3] at hst
        by_cases c4 : bt t N (i + 1) = 92
        · rw [if_pos c4] at hst
          exact ⟨hst, bt_lt (t := t) (by rw [c4]; decide)⟩
        · rw [if_neg c4] at hst
          exact absurd hst hne
      have hgt := stE_gt (by omega) (c + 1) (i + 2) hN (by omega) (by omega) hst2.1
      have f1 : nI i < M 19 2 := by rw [he]; exact nI_lt (by omega) (by omega)
      have f3 : nI i < M 19 2 - 1 := by
        rw [he, show nI e - 1 = nI (e - 1) from pk_sub (b := 1) (by omega)]
        exact nI_lt (by omega) (by omega)
      have c2t : (M 20 i = 92) = True := eq_true (by rw [hM, ← hti]; exact c2)
      have vk1 : vp_in (nI (i + 1)) 400 := vp_in_nI (by omega) (by decide)
      have ck1 : (nI (i + 1)).toNatClampNeg = i + 1 := nI_clamp (by omega)
      refine am_from (tb_Model_atom (ok_Model_node hG) (by decide) (ok_Model_letter hG) (by decide)) k_Model_atom 400 ?_
      simp only [q_Model_atom_44, r_Model_atom_0, r_Model_atom_1, r_Model_atom_2, r_Model_atom_5, r_Model_atom_6, r_Model_atom_7, r_Model_atom_10, r_Model_atom_13, r_Model_atom_14, r_Model_atom_15, r_Model_atom_16, r_Model_atom_19, r_Model_atom_20, r_Model_atom_23, r_Model_atom_24, r_Model_atom_26, r_Model_atom_29, r_Model_atom_30, r_Model_atom_33, r_Model_atom_34, r_Model_atom_35, r_Model_atom_36, r_Model_atom_38, r_Model_atom_39, r_Model_atom_42, r_Model_atom_44, r_Model_atom_46, r_Model_atom_47, r_Model_atom_50, r_Model_atom_53, r_Model_atom_54, r_Model_atom_57, r_Model_atom_59, r_Model_atom_60, r_Model_atom_62, r_Model_atom_63, r_Model_atom_64, r_Model_atom_67, r_Model_atom_69, r_Model_atom_71, r_Model_atom_74, r_Model_atom_76, r_Model_atom_78, r_Model_atom_79, r_Model_atom_81, r_Model_atom_82, r_Model_atom_84, r_Model_atom_85, r_Model_atom_87, r_Model_atom_88, r_Model_atom_89, r_Model_atom_92, r_Model_atom_93, r_Model_atom_94, r_Model_atom_96, r_Model_atom_99, r_Model_atom_100, r_Model_atom_101, r_Model_atom_104, r_Model_atom_106, r_Model_atom_107, r_Model_atom_110, r_Model_atom_113, r_Model_atom_115, r_Model_atom_116, r_Model_atom_119, r_Model_atom_120, r_Model_atom_121, r_Model_atom_124, r_Model_atom_126, r_Model_atom_128, r_Model_atom_131, r_Model_atom_133, r_Model_atom_134, r_Model_atom_135, r_Model_atom_138, r_Model_atom_140, r_Model_atom_142, r_Model_atom_143, r_Model_atom_144, r_Model_atom_145, r_Model_atom_148, r_Model_atom_150, r_Model_atom_151, r_Model_atom_154, r_Model_atom_157, r_Model_atom_160, r_Model_atom_161, r_Model_atom_162, r_Model_atom_165, r_Model_atom_166, r_Model_atom_169, r_Model_atom_170, r_Model_atom_171, r_Model_atom_174, r_Model_atom_176, r_Model_atom_177, r_Model_atom_180, r_Model_atom_182, r_Model_atom_183, r_Model_atom_184, ai_aload, ai_iload, ai_callv2, am_push, am_few, ai_istore, am_cut_0, am_cut_s, am_c1, ai_getf, ai_iflt, ai_iret, ai_iald, ai_const, ai_cmpne, ai_goto, ai_cmpge, ai_cmpeq, ai_imul, ai_bin, ai_iadd, ai_isub, ai_callv3, ai_cmple, ai_iinc, ai_ifeq, ai_ineg, ai_iast, kd_0, fd_0_0, fd_0_1, fd_0_2, fd_0_3, fd_0_4, kd_1, fd_1_0, fd_1_1, ln_2, kd_3, fd_3_0, fd_3_1, fd_3_2, fd_3_3, fd_3_4, fd_3_5, fd_3_6, fd_3_7, fd_3_8, fd_3_9, ln_4, ln_5, ln_6, ln_7, ln_8, ln_9, ln_10, kd_11, fd_11_0, fd_11_1, fd_11_2, fd_11_3, fd_11_4, kd_12, fd_12_0, fd_12_1, fd_12_2, fd_12_3, ln_13, ln_14, ln_15, kd_16, fd_16_0, fd_16_1, fd_16_2, ln_17, kd_18, fd_18_0, fd_18_1, kd_19, fd_19_0, fd_19_1, fd_19_2, fd_19_3, fd_19_4, fd_19_5, fd_19_6, fd_19_7, fd_19_8, fd_19_9, fd_19_10, fd_19_11, fd_19_12, fd_19_13, fd_19_14, fd_19_15, fd_19_16, fd_19_17, fd_19_18, fd_19_19, fd_19_20, ln_20, ln_21, ln_22, ln_23, ln_24, ln_25, ln_26, ln_27, ln_28, ln_29, ln_30, ln_31, ln_32, List.getElem?_cons_zero, List.getElem?_cons_succ, List.set_cons_zero, List.set_cons_succ, true_and, and_true, ↓reduceIte, Int32.reduceLT, Int32.reduceLE, li_10, or_true, true_or, ↓sp_Model_letter, f1, vk, ck, l31, li_32, e2, f3, c2t, vk1, ck1, nI_1, ← ex, q1, ← q2, q3]
      rw [cx, hM]
      exact ih (i + 2) (v + 1) _ _ (by rw [m_let_20, hM]) (by rw [m_let_19, he]) (by rw [m_let_19, hpl]) (by omega) (by omega) (qv _) (by omega) hst2.1 h
    · rw [if_neg c2] at hst h
      have hst2 : stE t N (c + 1) (i + 1) = nI e := by
        by_cases c5 : bt t N i < 32
        · rw [if_pos c5] at hst; exact absurd hst hne
        rw [if_neg c5] at hst
        by_cases c6 : 126 < bt t N i
        · rw [if_pos c6] at hst; exact absurd hst hne
        rw [if_neg c6] at hst
        exact hst
      have hgt := stE_gt (by omega) (c + 1) (i + 1) hN (by omega) (by omega) hst2
      have f1 : nI i < M 19 2 := by rw [he]; exact nI_lt (by omega) (by omega)
      have f3 : nI i < M 19 2 - 1 := by
        rw [he, show nI e - 1 = nI (e - 1) from pk_sub (b := 1) (by omega)]
        exact nI_lt (by omega) (by omega)
      have c2t : ¬ M 20 i = 92 := by rw [hM, ← hti]; exact c2
      refine am_from (tb_Model_atom (ok_Model_node hG) (by decide) (ok_Model_letter hG) (by decide)) k_Model_atom 400 ?_
      simp only [q_Model_atom_44, r_Model_atom_0, r_Model_atom_1, r_Model_atom_2, r_Model_atom_5, r_Model_atom_6, r_Model_atom_7, r_Model_atom_10, r_Model_atom_13, r_Model_atom_14, r_Model_atom_15, r_Model_atom_16, r_Model_atom_19, r_Model_atom_20, r_Model_atom_23, r_Model_atom_24, r_Model_atom_26, r_Model_atom_29, r_Model_atom_30, r_Model_atom_33, r_Model_atom_34, r_Model_atom_35, r_Model_atom_36, r_Model_atom_38, r_Model_atom_39, r_Model_atom_42, r_Model_atom_44, r_Model_atom_46, r_Model_atom_47, r_Model_atom_50, r_Model_atom_53, r_Model_atom_54, r_Model_atom_57, r_Model_atom_59, r_Model_atom_60, r_Model_atom_62, r_Model_atom_63, r_Model_atom_64, r_Model_atom_67, r_Model_atom_69, r_Model_atom_71, r_Model_atom_74, r_Model_atom_76, r_Model_atom_78, r_Model_atom_79, r_Model_atom_81, r_Model_atom_82, r_Model_atom_84, r_Model_atom_85, r_Model_atom_87, r_Model_atom_88, r_Model_atom_89, r_Model_atom_92, r_Model_atom_93, r_Model_atom_94, r_Model_atom_96, r_Model_atom_99, r_Model_atom_100, r_Model_atom_101, r_Model_atom_104, r_Model_atom_106, r_Model_atom_107, r_Model_atom_110, r_Model_atom_113, r_Model_atom_115, r_Model_atom_116, r_Model_atom_119, r_Model_atom_120, r_Model_atom_121, r_Model_atom_124, r_Model_atom_126, r_Model_atom_128, r_Model_atom_131, r_Model_atom_133, r_Model_atom_134, r_Model_atom_135, r_Model_atom_138, r_Model_atom_140, r_Model_atom_142, r_Model_atom_143, r_Model_atom_144, r_Model_atom_145, r_Model_atom_148, r_Model_atom_150, r_Model_atom_151, r_Model_atom_154, r_Model_atom_157, r_Model_atom_160, r_Model_atom_161, r_Model_atom_162, r_Model_atom_165, r_Model_atom_166, r_Model_atom_169, r_Model_atom_170, r_Model_atom_171, r_Model_atom_174, r_Model_atom_176, r_Model_atom_177, r_Model_atom_180, r_Model_atom_182, r_Model_atom_183, r_Model_atom_184, ai_aload, ai_iload, ai_callv2, am_push, am_few, ai_istore, am_cut_0, am_cut_s, am_c1, ai_getf, ai_iflt, ai_iret, ai_iald, ai_const, ai_cmpne, ai_goto, ai_cmpge, ai_cmpeq, ai_imul, ai_bin, ai_iadd, ai_isub, ai_callv3, ai_cmple, ai_iinc, ai_ifeq, ai_ineg, ai_iast, kd_0, fd_0_0, fd_0_1, fd_0_2, fd_0_3, fd_0_4, kd_1, fd_1_0, fd_1_1, ln_2, kd_3, fd_3_0, fd_3_1, fd_3_2, fd_3_3, fd_3_4, fd_3_5, fd_3_6, fd_3_7, fd_3_8, fd_3_9, ln_4, ln_5, ln_6, ln_7, ln_8, ln_9, ln_10, kd_11, fd_11_0, fd_11_1, fd_11_2, fd_11_3, fd_11_4, kd_12, fd_12_0, fd_12_1, fd_12_2, fd_12_3, ln_13, ln_14, ln_15, kd_16, fd_16_0, fd_16_1, fd_16_2, ln_17, kd_18, fd_18_0, fd_18_1, kd_19, fd_19_0, fd_19_1, fd_19_2, fd_19_3, fd_19_4, fd_19_5, fd_19_6, fd_19_7, fd_19_8, fd_19_9, fd_19_10, fd_19_11, fd_19_12, fd_19_13, fd_19_14, fd_19_15, fd_19_16, fd_19_17, fd_19_18, fd_19_19, fd_19_20, ln_20, ln_21, ln_22, ln_23, ln_24, ln_25, ln_26, ln_27, ln_28, ln_29, ln_30, ln_31, ln_32, List.getElem?_cons_zero, List.getElem?_cons_succ, List.set_cons_zero, List.set_cons_succ, true_and, and_true, ↓reduceIte, Int32.reduceLT, Int32.reduceLE, li_10, or_true, true_or, ↓sp_Model_letter, f1, vk, ck, l31, li_32, e2, f3, c2t, nI_1, ← ex, q1, ← q2, q3]
      rw [cx, hM]
      exact ih (i + 1) (v + 1) _ _ (by rw [m_let_20, hM]) (by rw [m_let_19, he]) (by rw [m_let_19, hpl]) (by omega) (by omega) (qv _) (by omega) hst2 h
