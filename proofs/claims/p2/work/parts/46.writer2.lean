/-! WRITING: nodes and pairs -/
def w_tail (M : aM) (f : Int32 → List Int32) (y : Int32) : List Int32 := if n_kind M y = 5 then [41] else 32 :: 46 :: 32 :: (f y ++ [41])
def w_rest (M : aM) (f : Int32 → List Int32) : Nat → Int32 → List Int32
  | 0, y => w_tail M f y
  | r + 1, y => if n_kind M y = 4 then 32 :: (f (n_head M y) ++ w_rest M f r (n_tail M y)) else w_tail M f y
def w_pair (M : aM) (f : Int32 → List Int32) (x : Int32) : List Int32 := if n_quo M x = -1 then 40 :: (f (n_head M x) ++ w_rest M f 200 (n_tail M x)) else 39 :: f (n_quo M x)
def w_node (M : aM) : Nat → Int32 → List Int32
  | 0, _ => []
  | j + 1, x => if n_kind M x = 1 then w_num (n_amt M x) else if n_kind M x = 2 then w_name M x else if n_kind M x = 3 then w_str M x else if n_kind M x = 4 then w_pair M (w_node M j) x else if n_kind M x = 5 then [40, 41] else []
theorem sN.bts {M0 M : aM} (h : sN M0 M) (x : Int32) : ∀ (r k : Nat), w_bts M x r k = w_bts M0 x r k
  | 0, _ => rfl
  | r + 1, k => by unfold w_bts; rw [h.byte, sN.bts h x r (k + 1)]
theorem sN.stb {M0 M : aM} (h : sN M0 M) (x : Int32) : ∀ (r k : Nat), w_stb M x r k = w_stb M0 x r k
  | 0, _ => rfl
  | r + 1, k => by unfold w_stb; rw [h.byte, sN.stb h x r (k + 1)]
theorem sN.rest {M0 M : aM} (h : sN M0 M) (f : Int32 → List Int32) : ∀ (r : Nat) (y : Int32), w_rest M f r y = w_rest M0 f r y
  | 0, y => by unfold w_rest w_tail; rw [h.kind]
  | r + 1, y => by unfold w_rest w_tail; rw [h.kind, h.head, h.tail, sN.rest h f r]
theorem sN.node {M0 M : aM} (h : sN M0 M) : ∀ (j : Nat) (x : Int32), w_node M j x = w_node M0 j x
  | 0, _ => rfl
  | j + 1, x => by
    have e : w_node M j = w_node M0 j := funext (sN.node h j)
    unfold w_node w_name w_str w_pair
    rw [h.kind, h.amt, h.bts, h.stb, h.quo, e, h.head, h.tail, h.rest]
def sp_Writer_writeNode (j : Nat) : aS := fun as M K => match as with
  | [.ref a, .int x, .int d] => a = 18 ∧ (d = nI (16 - j) ∧ j ≤ 16) ∧ wt_ok M ∧ K none (saysM M (w_node M j x))
  | _ => False
def sp_Writer_writePair (j : Nat) : aS := fun as M K => match as with
  | [.ref a, .int x, .int d] => a = 18 ∧ (d = nI (16 - (j + 1)) ∧ j + 1 ≤ 16) ∧ wt_ok M ∧ K none (saysM M (w_pair M (w_node M j) x))
  | _ => False
set_option maxRecDepth 100000 in
set_option maxHeartbeats 4000000 in
theorem lp_Writer_writePair {G : aG} (hG : am_ok G) {K : aR} {M0 : aM} {x q : Int32} {j : Nat} (hj : j + 1 ≤ 16) (hI : am_Sp G Y_Writer_writeNode (4 + 2 * j) (sp_Writer_writeNode j)) : ∀ (r k : Nat) (y : Int32) (M : aM), k + r = 200 → sN M0 M → wt_ok M → K none (saysM M (w_rest M0 (w_node M0 j) r y)) → am_X G Y_Writer_writePair (4 + 2 * j + 1) K 69 [some (.ref 18), some (.int x), some (.int (nI (16 - (j + 1)))), some (.int q), some (.int y), some (.int (nI k))] [] M := by
  intro r
  have e3 : nI (16 - (j + 1)) + 1 = nI (16 - j) := by rw [nI_1, show 16 - (j + 1) + 1 = 16 - j by omega]
  have tail : ∀ (y : Int32) (M : aM), sN M0 M → wt_ok M → K none (saysM M (w_tail M0 (w_node M0 j) y)) → (if n_kind M0 y = 5 then wt_ok M ∧ K none (sayM M 41) else wt_ok M ∧ wt_ok (sayM M 32) ∧ wt_ok (sayM (sayM M 32) 46) ∧ j ≤ 16 ∧ wt_ok (sayM (sayM (sayM M 32) 46) 32) ∧ wt_ok (saysM (sayM (sayM (sayM M 32) 46) 32) (w_node (sayM (sayM (sayM M 32) 46) 32) j y)) ∧ K none (sayM (saysM (sayM (sayM (sayM M 32) 46) 32) (w_node (sayM (sayM (sayM M 32) 46) 32) j y)) 41)) := by
    intro y M hN hw h
    unfold w_tail at h
    by_cases c : n_kind M0 y = 5
    · simp only [c, ↓reduceIte] at h ⊢; exact ⟨hw, h⟩
    · simp only [c, ↓reduceIte] at h ⊢
      have hN3 := ((hN.say 32).say 46).say 32
      rw [hN3.node]
      rw [saysM_cons, saysM_cons, saysM_cons, saysM_app, saysM_cons, saysM_nil] at h
      have hw3 := sayM_ok (b := 32) (sayM_ok (b := 46) (sayM_ok (b := 32) hw))
      exact ⟨hw, sayM_ok hw, sayM_ok (sayM_ok hw), by omega, hw3, saysM_ok _ hw3, h⟩
  induction r with
  | zero =>
    intro k y M hk hN hw h
    have e1 : ¬ nI k < 200 := nI_nlt (b := 200) (a := k) (by omega) (by omega)
    refine am_from (tb_Writer_writePair (ok_Nodes_quotedIn hG) (by omega) (ok_Waiting_append hG) (by omega) hI (by omega) (ok_Nodes_headOf hG) (by omega) (ok_Nodes_tailOf hG) (by omega) (ok_Nodes_kindOf hG) (by omega)) k_Writer_writePair 400 ?_
    simp only [q_Writer_writePair_69, r_Writer_writePair_0, r_Writer_writePair_1, r_Writer_writePair_4, r_Writer_writePair_5, r_Writer_writePair_8, r_Writer_writePair_9, r_Writer_writePair_10, r_Writer_writePair_11, r_Writer_writePair_14, r_Writer_writePair_15, r_Writer_writePair_18, r_Writer_writePair_20, r_Writer_writePair_23, r_Writer_writePair_24, r_Writer_writePair_25, r_Writer_writePair_26, r_Writer_writePair_27, r_Writer_writePair_28, r_Writer_writePair_31, r_Writer_writePair_32, r_Writer_writePair_33, r_Writer_writePair_36, r_Writer_writePair_38, r_Writer_writePair_41, r_Writer_writePair_42, r_Writer_writePair_43, r_Writer_writePair_46, r_Writer_writePair_47, r_Writer_writePair_50, r_Writer_writePair_51, r_Writer_writePair_52, r_Writer_writePair_53, r_Writer_writePair_56, r_Writer_writePair_57, r_Writer_writePair_60, r_Writer_writePair_61, r_Writer_writePair_64, r_Writer_writePair_66, r_Writer_writePair_67, r_Writer_writePair_69, r_Writer_writePair_71, r_Writer_writePair_74, r_Writer_writePair_77, r_Writer_writePair_78, r_Writer_writePair_81, r_Writer_writePair_83, r_Writer_writePair_86, r_Writer_writePair_87, r_Writer_writePair_90, r_Writer_writePair_91, r_Writer_writePair_94, r_Writer_writePair_96, r_Writer_writePair_99, r_Writer_writePair_100, r_Writer_writePair_101, r_Writer_writePair_104, r_Writer_writePair_106, r_Writer_writePair_109, r_Writer_writePair_110, r_Writer_writePair_111, r_Writer_writePair_112, r_Writer_writePair_115, r_Writer_writePair_116, r_Writer_writePair_119, r_Writer_writePair_121, r_Writer_writePair_124, r_Writer_writePair_126, r_Writer_writePair_129, r_Writer_writePair_132, r_Writer_writePair_133, r_Writer_writePair_136, r_Writer_writePair_138, r_Writer_writePair_141, r_Writer_writePair_142, r_Writer_writePair_145, r_Writer_writePair_146, r_Writer_writePair_149, r_Writer_writePair_151, r_Writer_writePair_154, r_Writer_writePair_155, r_Writer_writePair_158, r_Writer_writePair_160, r_Writer_writePair_163, r_Writer_writePair_164, r_Writer_writePair_167, r_Writer_writePair_169, r_Writer_writePair_172, r_Writer_writePair_173, r_Writer_writePair_175, r_Writer_writePair_176, r_Writer_writePair_177, r_Writer_writePair_178, r_Writer_writePair_181, r_Writer_writePair_182, r_Writer_writePair_185, r_Writer_writePair_187, r_Writer_writePair_190, ai_aload, ai_getf, ai_iload, ai_callv2, am_push, am_few, ai_istore, am_cut_0, am_cut_s, am_c1, ai_const, ai_cmpeq, ai_iadd, ai_bin, ai_callv3, ai_vret, ai_cmpge, ai_cmpne, ai_iinc, ai_goto, kd_0, fd_0_0, fd_0_1, fd_0_2, fd_0_3, fd_0_4, kd_1, fd_1_0, fd_1_1, ln_2, kd_3, fd_3_0, fd_3_1, fd_3_2, fd_3_3, fd_3_4, fd_3_5, fd_3_6, fd_3_7, fd_3_8, fd_3_9, ln_4, ln_5, ln_6, ln_7, ln_8, ln_9, ln_10, kd_11, fd_11_0, fd_11_1, fd_11_2, fd_11_3, fd_11_4, kd_12, fd_12_0, fd_12_1, fd_12_2, fd_12_3, ln_13, ln_14, ln_15, kd_16, fd_16_0, fd_16_1, fd_16_2, ln_17, kd_18, fd_18_0, fd_18_1, kd_19, fd_19_0, fd_19_1, fd_19_2, fd_19_3, fd_19_4, fd_19_5, fd_19_6, fd_19_7, fd_19_8, fd_19_9, fd_19_10, fd_19_11, fd_19_12, fd_19_13, fd_19_14, fd_19_15, fd_19_16, fd_19_17, fd_19_18, fd_19_19, fd_19_20, ln_20, ln_21, ln_22, ln_23, ln_24, ln_25, ln_26, ln_27, ln_28, ln_29, ln_30, ln_31, ln_32, List.getElem?_cons_zero, List.getElem?_cons_succ, List.set_cons_zero, List.set_cons_succ, true_and, and_true, ↓reduceIte, Int32.reduceLT, Int32.reduceLE, li_10, or_true, true_or, ↓sp_Nodes_kindOf, ↓sp_Waiting_append, ↓sp_Writer_writeNode, e1, e3, hN.kind]
    exact tail y M hN hw h
  | succ r ih =>
    intro k y M hk hN hw h
    have e1 : nI k < 200 := nI_lt (b := 200) (by omega) (by decide)
    refine am_from (tb_Writer_writePair (ok_Nodes_quotedIn hG) (by omega) (ok_Waiting_append hG) (by omega) hI (by omega) (ok_Nodes_headOf hG) (by omega) (ok_Nodes_tailOf hG) (by omega) (ok_Nodes_kindOf hG) (by omega)) k_Writer_writePair 400 ?_
    simp only [q_Writer_writePair_69, r_Writer_writePair_0, r_Writer_writePair_1, r_Writer_writePair_4, r_Writer_writePair_5, r_Writer_writePair_8, r_Writer_writePair_9, r_Writer_writePair_10, r_Writer_writePair_11, r_Writer_writePair_14, r_Writer_writePair_15, r_Writer_writePair_18, r_Writer_writePair_20, r_Writer_writePair_23, r_Writer_writePair_24, r_Writer_writePair_25, r_Writer_writePair_26, r_Writer_writePair_27, r_Writer_writePair_28, r_Writer_writePair_31, r_Writer_writePair_32, r_Writer_writePair_33, r_Writer_writePair_36, r_Writer_writePair_38, r_Writer_writePair_41, r_Writer_writePair_42, r_Writer_writePair_43, r_Writer_writePair_46, r_Writer_writePair_47, r_Writer_writePair_50, r_Writer_writePair_51, r_Writer_writePair_52, r_Writer_writePair_53, r_Writer_writePair_56, r_Writer_writePair_57, r_Writer_writePair_60, r_Writer_writePair_61, r_Writer_writePair_64, r_Writer_writePair_66, r_Writer_writePair_67, r_Writer_writePair_69, r_Writer_writePair_71, r_Writer_writePair_74, r_Writer_writePair_77, r_Writer_writePair_78, r_Writer_writePair_81, r_Writer_writePair_83, r_Writer_writePair_86, r_Writer_writePair_87, r_Writer_writePair_90, r_Writer_writePair_91, r_Writer_writePair_94, r_Writer_writePair_96, r_Writer_writePair_99, r_Writer_writePair_100, r_Writer_writePair_101, r_Writer_writePair_104, r_Writer_writePair_106, r_Writer_writePair_109, r_Writer_writePair_110, r_Writer_writePair_111, r_Writer_writePair_112, r_Writer_writePair_115, r_Writer_writePair_116, r_Writer_writePair_119, r_Writer_writePair_121, r_Writer_writePair_124, r_Writer_writePair_126, r_Writer_writePair_129, r_Writer_writePair_132, r_Writer_writePair_133, r_Writer_writePair_136, r_Writer_writePair_138, r_Writer_writePair_141, r_Writer_writePair_142, r_Writer_writePair_145, r_Writer_writePair_146, r_Writer_writePair_149, r_Writer_writePair_151, r_Writer_writePair_154, r_Writer_writePair_155, r_Writer_writePair_158, r_Writer_writePair_160, r_Writer_writePair_163, r_Writer_writePair_164, r_Writer_writePair_167, r_Writer_writePair_169, r_Writer_writePair_172, r_Writer_writePair_173, r_Writer_writePair_175, r_Writer_writePair_176, r_Writer_writePair_177, r_Writer_writePair_178, r_Writer_writePair_181, r_Writer_writePair_182, r_Writer_writePair_185, r_Writer_writePair_187, r_Writer_writePair_190, ai_aload, ai_getf, ai_iload, ai_callv2, am_push, am_few, ai_istore, am_cut_0, am_cut_s, am_c1, ai_const, ai_cmpeq, ai_iadd, ai_bin, ai_callv3, ai_vret, ai_cmpge, ai_cmpne, ai_iinc, ai_goto, kd_0, fd_0_0, fd_0_1, fd_0_2, fd_0_3, fd_0_4, kd_1, fd_1_0, fd_1_1, ln_2, kd_3, fd_3_0, fd_3_1, fd_3_2, fd_3_3, fd_3_4, fd_3_5, fd_3_6, fd_3_7, fd_3_8, fd_3_9, ln_4, ln_5, ln_6, ln_7, ln_8, ln_9, ln_10, kd_11, fd_11_0, fd_11_1, fd_11_2, fd_11_3, fd_11_4, kd_12, fd_12_0, fd_12_1, fd_12_2, fd_12_3, ln_13, ln_14, ln_15, kd_16, fd_16_0, fd_16_1, fd_16_2, ln_17, kd_18, fd_18_0, fd_18_1, kd_19, fd_19_0, fd_19_1, fd_19_2, fd_19_3, fd_19_4, fd_19_5, fd_19_6, fd_19_7, fd_19_8, fd_19_9, fd_19_10, fd_19_11, fd_19_12, fd_19_13, fd_19_14, fd_19_15, fd_19_16, fd_19_17, fd_19_18, fd_19_19, fd_19_20, ln_20, ln_21, ln_22, ln_23, ln_24, ln_25, ln_26, ln_27, ln_28, ln_29, ln_30, ln_31, ln_32, List.getElem?_cons_zero, List.getElem?_cons_succ, List.set_cons_zero, List.set_cons_succ, true_and, and_true, ↓reduceIte, Int32.reduceLT, Int32.reduceLE, li_10, or_true, true_or, ↓sp_Nodes_kindOf, ↓sp_Nodes_headOf, ↓sp_Nodes_tailOf, ↓sp_Waiting_append, ↓sp_Writer_writeNode, e1, e3, hN.kind, nI_1]
    simp only [w_rest] at h
    by_cases c : n_kind M0 y = 4
    · simp only [c, ↓reduceIte] at h ⊢
      have hN1 := hN.say 32
      have hw1 := sayM_ok (b := 32) hw
      rw [hN1.head, hN1.node]
      have hN2 := sN.says (w_node M0 j (n_head M0 y)) hN1
      rw [hN2.tail]
      rw [saysM_cons, saysM_app] at h
      exact ⟨hw, by omega, hw1, ih (k + 1) _ _ (by omega) hN2 (saysM_ok _ hw1) h⟩
    · simp only [c, ↓reduceIte] at h ⊢
      exact tail y M hN hw h
set_option maxRecDepth 100000 in
set_option maxHeartbeats 4000000 in
theorem ok_Writer_writePair {G : aG} (hG : am_ok G) {j : Nat} (hI : am_Sp G Y_Writer_writeNode (4 + 2 * j) (sp_Writer_writeNode j)) : am_Sp G Y_Writer_writePair (4 + 2 * j + 1) (sp_Writer_writePair j) := by
  intro as M K h
  unfold sp_Writer_writePair at h
  split at h
  · next a x d =>
    obtain ⟨rfl, ⟨rfl, hj⟩, hw, h⟩ := h
    have e3 : nI (16 - (j + 1)) + 1 = nI (16 - j) := by rw [nI_1, show 16 - (j + 1) + 1 = 16 - j by omega]
    refine am_entry hG (by decide +kernel) (Nat.le_of_ble_eq_true rfl) ?_
    refine am_go (cuts := k_Writer_writePair) (tb_Writer_writePair (ok_Nodes_quotedIn hG) (by omega) (ok_Waiting_append hG) (by omega) hI (by omega) (ok_Nodes_headOf hG) (by omega) (ok_Nodes_tailOf hG) (by omega) (ok_Nodes_kindOf hG) (by omega)) 400 _ _ _ _ ?_
    change am_run _ _ _ _ _ _ [some (.ref 18), some (.int x), some (.int (nI (16 - (j + 1)))), none, none, none] [] _
    simp only [q_Writer_writePair_69, r_Writer_writePair_0, r_Writer_writePair_1, r_Writer_writePair_4, r_Writer_writePair_5, r_Writer_writePair_8, r_Writer_writePair_9, r_Writer_writePair_10, r_Writer_writePair_11, r_Writer_writePair_14, r_Writer_writePair_15, r_Writer_writePair_18, r_Writer_writePair_20, r_Writer_writePair_23, r_Writer_writePair_24, r_Writer_writePair_25, r_Writer_writePair_26, r_Writer_writePair_27, r_Writer_writePair_28, r_Writer_writePair_31, r_Writer_writePair_32, r_Writer_writePair_33, r_Writer_writePair_36, r_Writer_writePair_38, r_Writer_writePair_41, r_Writer_writePair_42, r_Writer_writePair_43, r_Writer_writePair_46, r_Writer_writePair_47, r_Writer_writePair_50, r_Writer_writePair_51, r_Writer_writePair_52, r_Writer_writePair_53, r_Writer_writePair_56, r_Writer_writePair_57, r_Writer_writePair_60, r_Writer_writePair_61, r_Writer_writePair_64, r_Writer_writePair_66, r_Writer_writePair_67, r_Writer_writePair_69, r_Writer_writePair_71, r_Writer_writePair_74, r_Writer_writePair_77, r_Writer_writePair_78, r_Writer_writePair_81, r_Writer_writePair_83, r_Writer_writePair_86, r_Writer_writePair_87, r_Writer_writePair_90, r_Writer_writePair_91, r_Writer_writePair_94, r_Writer_writePair_96, r_Writer_writePair_99, r_Writer_writePair_100, r_Writer_writePair_101, r_Writer_writePair_104, r_Writer_writePair_106, r_Writer_writePair_109, r_Writer_writePair_110, r_Writer_writePair_111, r_Writer_writePair_112, r_Writer_writePair_115, r_Writer_writePair_116, r_Writer_writePair_119, r_Writer_writePair_121, r_Writer_writePair_124, r_Writer_writePair_126, r_Writer_writePair_129, r_Writer_writePair_132, r_Writer_writePair_133, r_Writer_writePair_136, r_Writer_writePair_138, r_Writer_writePair_141, r_Writer_writePair_142, r_Writer_writePair_145, r_Writer_writePair_146, r_Writer_writePair_149, r_Writer_writePair_151, r_Writer_writePair_154, r_Writer_writePair_155, r_Writer_writePair_158, r_Writer_writePair_160, r_Writer_writePair_163, r_Writer_writePair_164, r_Writer_writePair_167, r_Writer_writePair_169, r_Writer_writePair_172, r_Writer_writePair_173, r_Writer_writePair_175, r_Writer_writePair_176, r_Writer_writePair_177, r_Writer_writePair_178, r_Writer_writePair_181, r_Writer_writePair_182, r_Writer_writePair_185, r_Writer_writePair_187, r_Writer_writePair_190, ai_aload, ai_getf, ai_iload, ai_callv2, am_push, am_few, ai_istore, am_cut_0, am_cut_s, am_c1, ai_const, ai_cmpeq, ai_iadd, ai_bin, ai_callv3, ai_vret, ai_cmpge, ai_cmpne, ai_iinc, ai_goto, kd_0, fd_0_0, fd_0_1, fd_0_2, fd_0_3, fd_0_4, kd_1, fd_1_0, fd_1_1, ln_2, kd_3, fd_3_0, fd_3_1, fd_3_2, fd_3_3, fd_3_4, fd_3_5, fd_3_6, fd_3_7, fd_3_8, fd_3_9, ln_4, ln_5, ln_6, ln_7, ln_8, ln_9, ln_10, kd_11, fd_11_0, fd_11_1, fd_11_2, fd_11_3, fd_11_4, kd_12, fd_12_0, fd_12_1, fd_12_2, fd_12_3, ln_13, ln_14, ln_15, kd_16, fd_16_0, fd_16_1, fd_16_2, ln_17, kd_18, fd_18_0, fd_18_1, kd_19, fd_19_0, fd_19_1, fd_19_2, fd_19_3, fd_19_4, fd_19_5, fd_19_6, fd_19_7, fd_19_8, fd_19_9, fd_19_10, fd_19_11, fd_19_12, fd_19_13, fd_19_14, fd_19_15, fd_19_16, fd_19_17, fd_19_18, fd_19_19, fd_19_20, ln_20, ln_21, ln_22, ln_23, ln_24, ln_25, ln_26, ln_27, ln_28, ln_29, ln_30, ln_31, ln_32, List.getElem?_cons_zero, List.getElem?_cons_succ, List.set_cons_zero, List.set_cons_succ, true_and, and_true, ↓reduceIte, Int32.reduceLT, Int32.reduceLE, li_10, or_true, true_or, ↓sp_Nodes_quotedIn, ↓sp_Nodes_kindOf, ↓sp_Nodes_headOf, ↓sp_Nodes_tailOf, ↓sp_Waiting_append, ↓sp_Writer_writeNode, e3]
    unfold w_pair at h
    by_cases c : n_quo M x = -1
    · simp only [c, ↓reduceIte] at h ⊢
      have hN1 := (sN.rf M).say 40
      have hw1 := sayM_ok (b := 40) hw
      rw [hN1.head, hN1.node]
      have hN2 := sN.says (w_node M j (n_head M x)) hN1
      rw [hN2.tail]
      rw [saysM_cons, saysM_app] at h
      exact ⟨hw, by omega, hw1, lp_Writer_writePair hG hj hI 200 0 _ _ rfl hN2 (saysM_ok _ hw1) h⟩
    · simp only [c, ↓reduceIte] at h ⊢
      have hN1 := (sN.rf M).say 39
      rw [hN1.node]
      exact ⟨hw, by omega, sayM_ok hw, h⟩
  · cases h
set_option maxRecDepth 100000 in
set_option maxHeartbeats 4000000 in
theorem ok_Writer_writeNode {G : aG} (hG : am_ok G) : ∀ j, am_Sp G Y_Writer_writeNode (4 + 2 * j) (sp_Writer_writeNode j) := by
  intro j
  induction j with
  | zero =>
    intro as M K h
    unfold sp_Writer_writeNode at h
    split at h
    · next a x d =>
      obtain ⟨rfl, ⟨rfl, -⟩, hw, h⟩ := h
      have e1 : (15 : Int32) < nI (16 - 0) := by decide
      refine am_entry hG (by decide +kernel) (Nat.le_of_ble_eq_true rfl) ?_
      refine am_go (cuts := k_Writer_writeNode) (tb_Writer_writeNode (ok_Nodes_kindOf hG) (by omega) (ok_Nodes_amountOf hG) (by omega) (ok_Writer_writeNumber hG) (by omega) (ok_Writer_writeName hG) (by omega) (ok_Writer_writeString hG) (by omega) (s_Writer_writePair := fun _ _ _ => False) (d_Writer_writePair := 0) (fun _ _ _ q => q.elim) (by omega) (ok_Waiting_append hG) (by omega)) 400 _ _ _ _ ?_
      change am_run _ _ _ _ _ _ [some (.ref 18), some (.int x), some (.int (nI (16 - 0)))] [] _
      simp only [r_Writer_writeNode_0, r_Writer_writeNode_1, r_Writer_writeNode_3, r_Writer_writeNode_6, r_Writer_writeNode_7, r_Writer_writeNode_8, r_Writer_writeNode_11, r_Writer_writeNode_12, r_Writer_writeNode_15, r_Writer_writeNode_48, r_Writer_writeNode_49, r_Writer_writeNode_50, r_Writer_writeNode_53, r_Writer_writeNode_54, r_Writer_writeNode_57, r_Writer_writeNode_60, r_Writer_writeNode_63, r_Writer_writeNode_64, r_Writer_writeNode_65, r_Writer_writeNode_68, r_Writer_writeNode_71, r_Writer_writeNode_72, r_Writer_writeNode_73, r_Writer_writeNode_76, r_Writer_writeNode_79, r_Writer_writeNode_80, r_Writer_writeNode_81, r_Writer_writeNode_82, r_Writer_writeNode_85, r_Writer_writeNode_88, r_Writer_writeNode_89, r_Writer_writeNode_92, r_Writer_writeNode_94, r_Writer_writeNode_97, r_Writer_writeNode_98, r_Writer_writeNode_101, r_Writer_writeNode_103, r_Writer_writeNode_106, r_Writer_writeNode_109, ai_iload, ai_const, ai_cmple, ai_vret, ai_aload, ai_getf, ai_callv2, am_push, am_few, ai_switch, am_sw, ai_goto, ai_callv3, kd_0, fd_0_0, fd_0_1, fd_0_2, fd_0_3, fd_0_4, kd_1, fd_1_0, fd_1_1, ln_2, kd_3, fd_3_0, fd_3_1, fd_3_2, fd_3_3, fd_3_4, fd_3_5, fd_3_6, fd_3_7, fd_3_8, fd_3_9, ln_4, ln_5, ln_6, ln_7, ln_8, ln_9, ln_10, kd_11, fd_11_0, fd_11_1, fd_11_2, fd_11_3, fd_11_4, kd_12, fd_12_0, fd_12_1, fd_12_2, fd_12_3, ln_13, ln_14, ln_15, kd_16, fd_16_0, fd_16_1, fd_16_2, ln_17, kd_18, fd_18_0, fd_18_1, kd_19, fd_19_0, fd_19_1, fd_19_2, fd_19_3, fd_19_4, fd_19_5, fd_19_6, fd_19_7, fd_19_8, fd_19_9, fd_19_10, fd_19_11, fd_19_12, fd_19_13, fd_19_14, fd_19_15, fd_19_16, fd_19_17, fd_19_18, fd_19_19, fd_19_20, ln_20, ln_21, ln_22, ln_23, ln_24, ln_25, ln_26, ln_27, ln_28, ln_29, ln_30, ln_31, ln_32, List.getElem?_cons_zero, List.getElem?_cons_succ, List.set_cons_zero, List.set_cons_succ, true_and, and_true, ↓reduceIte, Int32.reduceLT, Int32.reduceLE, li_10, or_true, true_or, e1]
      exact h
    · cases h
  | succ j ih =>
    intro as M K h
    unfold sp_Writer_writeNode at h
    split at h
    · next a x d =>
      obtain ⟨rfl, ⟨rfl, hj⟩, hw, h⟩ := h
      have e1 : ¬ (15 : Int32) < nI (16 - (j + 1)) := nI_nlt (a := 15) (b := 16 - (j + 1)) (by omega) (by decide)
      refine am_entry hG (by decide +kernel) (Nat.le_of_ble_eq_true rfl) ?_
      refine am_go (cuts := k_Writer_writeNode) (tb_Writer_writeNode (ok_Nodes_kindOf hG) (by omega) (ok_Nodes_amountOf hG) (by omega) (ok_Writer_writeNumber hG) (by omega) (ok_Writer_writeName hG) (by omega) (ok_Writer_writeString hG) (by omega) (ok_Writer_writePair hG ih) (by omega) (ok_Waiting_append hG) (by omega)) 400 _ _ _ _ ?_
      change am_run _ _ _ _ _ _ [some (.ref 18), some (.int x), some (.int (nI (16 - (j + 1))))] [] _
      simp only [r_Writer_writeNode_0, r_Writer_writeNode_1, r_Writer_writeNode_3, r_Writer_writeNode_6, r_Writer_writeNode_7, r_Writer_writeNode_8, r_Writer_writeNode_11, r_Writer_writeNode_12, r_Writer_writeNode_15, r_Writer_writeNode_48, r_Writer_writeNode_49, r_Writer_writeNode_50, r_Writer_writeNode_53, r_Writer_writeNode_54, r_Writer_writeNode_57, r_Writer_writeNode_60, r_Writer_writeNode_63, r_Writer_writeNode_64, r_Writer_writeNode_65, r_Writer_writeNode_68, r_Writer_writeNode_71, r_Writer_writeNode_72, r_Writer_writeNode_73, r_Writer_writeNode_76, r_Writer_writeNode_79, r_Writer_writeNode_80, r_Writer_writeNode_81, r_Writer_writeNode_82, r_Writer_writeNode_85, r_Writer_writeNode_88, r_Writer_writeNode_89, r_Writer_writeNode_92, r_Writer_writeNode_94, r_Writer_writeNode_97, r_Writer_writeNode_98, r_Writer_writeNode_101, r_Writer_writeNode_103, r_Writer_writeNode_106, r_Writer_writeNode_109, ai_iload, ai_const, ai_cmple, ai_vret, ai_aload, ai_getf, ai_callv2, am_push, am_few, ai_switch, am_sw, ai_goto, ai_callv3, kd_0, fd_0_0, fd_0_1, fd_0_2, fd_0_3, fd_0_4, kd_1, fd_1_0, fd_1_1, ln_2, kd_3, fd_3_0, fd_3_1, fd_3_2, fd_3_3, fd_3_4, fd_3_5, fd_3_6, fd_3_7, fd_3_8, fd_3_9, ln_4, ln_5, ln_6, ln_7, ln_8, ln_9, ln_10, kd_11, fd_11_0, fd_11_1, fd_11_2, fd_11_3, fd_11_4, kd_12, fd_12_0, fd_12_1, fd_12_2, fd_12_3, ln_13, ln_14, ln_15, kd_16, fd_16_0, fd_16_1, fd_16_2, ln_17, kd_18, fd_18_0, fd_18_1, kd_19, fd_19_0, fd_19_1, fd_19_2, fd_19_3, fd_19_4, fd_19_5, fd_19_6, fd_19_7, fd_19_8, fd_19_9, fd_19_10, fd_19_11, fd_19_12, fd_19_13, fd_19_14, fd_19_15, fd_19_16, fd_19_17, fd_19_18, fd_19_19, fd_19_20, ln_20, ln_21, ln_22, ln_23, ln_24, ln_25, ln_26, ln_27, ln_28, ln_29, ln_30, ln_31, ln_32, List.getElem?_cons_zero, List.getElem?_cons_succ, List.set_cons_zero, List.set_cons_succ, true_and, and_true, ↓reduceIte, Int32.reduceLT, Int32.reduceLE, li_10, or_true, true_or, ↓sp_Nodes_kindOf, ↓sp_Nodes_amountOf, ↓sp_Writer_writeNumber, ↓sp_Writer_writeName, ↓sp_Writer_writeString, ↓sp_Writer_writePair, ↓sp_Waiting_append, e1]
      simp only [w_node] at h
      by_cases c1 : n_kind M x = 1
      · rw [if_pos c1] at h ⊢; exact ⟨hw, h⟩
      rw [if_neg c1] at h ⊢
      by_cases c2 : n_kind M x = 2
      · rw [if_pos c2] at h ⊢; exact ⟨hw, h⟩
      rw [if_neg c2] at h ⊢
      by_cases c3 : n_kind M x = 3
      · rw [if_pos c3] at h ⊢; exact ⟨hw, h⟩
      rw [if_neg c3] at h ⊢
      by_cases c4 : n_kind M x = 4
      · rw [if_pos c4] at h ⊢; exact ⟨hj, hw, h⟩
      rw [if_neg c4] at h ⊢
      by_cases c5 : n_kind M x = 5
      · rw [if_pos c5] at h ⊢; exact ⟨hw, sayM_ok hw, h⟩
      rw [if_neg c5] at h ⊢
      exact h
    · cases h
