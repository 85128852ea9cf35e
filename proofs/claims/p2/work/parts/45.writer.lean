/-! WRITING -/
def saysM (M : aM) (bs : List Int32) : aM := bs.foldl sayM M
theorem saysM_nil (M : aM) : saysM M [] = M := rfl
theorem saysM_cons (M : aM) (b : Int32) (bs : List Int32) : saysM M (b :: bs) = saysM (sayM M b) bs := rfl
theorem saysM_app (M : aM) (a b : List Int32) : saysM M (a ++ b) = saysM (saysM M a) b := by unfold saysM; rw [List.foldl_append]
theorem sayM_ne (M : aM) (b : Int32) {c : Nat} (h1 : c ≠ 16) (h2 : c ≠ 17) : sayM M b c = M c := by
  unfold sayM
  split
  · rfl
  · rw [am_up_ne h1, am_up_ne h2]
theorem saysM_ne : ∀ (bs : List Int32) (M : aM) {c : Nat}, c ≠ 16 → c ≠ 17 → saysM M bs c = M c
  | [], _, _, _, _ => rfl
  | b :: bs, M, c, h1, h2 => by rw [saysM_cons, saysM_ne bs (sayM M b) h1 h2, sayM_ne M b h1 h2]
theorem sayM_ok {M : aM} {b : Int32} (h : wt_ok M) : wt_ok (sayM M b) := by
  unfold sayM
  by_cases c : ww M = 500
  · rw [if_pos c]; exact h
  · rw [if_neg c]
    obtain ⟨h1, h2, h3, h4⟩ := h
    have e1 : wf (am_up (am_up M 17 (wix M (ww M)) b) 16 2 (nI (ww M + 1))) = wf M := by
      unfold wf; rw [am_up_ap, if_pos rfl, if_neg (by decide), am_up_ne (by decide)]
    have e2 : ww (am_up (am_up M 17 (wix M (ww M)) b) 16 2 (nI (ww M + 1))) = ww M + 1 := by
      have e3 : am_up (am_up M 17 (wix M (ww M)) b) 16 2 (nI (ww M + 1)) 16 2 = nI (ww M + 1) := by rw [am_up_ap, if_pos rfl, if_pos rfl]
      have e4 : ww (am_up (am_up M 17 (wix M (ww M)) b) 16 2 (nI (ww M + 1))) = cl (am_up (am_up M 17 (wix M (ww M)) b) 16 2 (nI (ww M + 1)) 16 2) := rfl
      rw [e4, e3]
      exact nI_clamp (by omega)
    unfold wt_ok
    rw [e1, e2]
    refine ⟨?_, h2, ?_, by omega⟩
    · rw [am_up_ap, if_pos rfl, if_neg (by decide), am_up_ne (by decide)]; exact h1
    · rw [am_up_ap, if_pos rfl, if_pos rfl]
theorem saysM_ok : ∀ (bs : List Int32) {M : aM}, wt_ok M → wt_ok (saysM M bs)
  | [], _, h => h
  | b :: bs, M, h => saysM_ok bs (sayM_ok (b := b) h)
/-- the nodes are the same -/
def sN (M0 M : aM) : Prop := M 3 = M0 3 ∧ M 4 = M0 4 ∧ M 5 = M0 5 ∧ M 6 = M0 6 ∧ M 7 = M0 7 ∧ M 8 = M0 8 ∧ M 10 = M0 10
theorem sN.rf (M : aM) : sN M M := ⟨rfl, rfl, rfl, rfl, rfl, rfl, rfl⟩
theorem sN.say {M0 M : aM} (h : sN M0 M) (b : Int32) : sN M0 (sayM M b) := by
  unfold sN
  rw [sayM_ne M b (by decide) (by decide), sayM_ne M b (by decide) (by decide), sayM_ne M b (by decide) (by decide), sayM_ne M b (by decide) (by decide), sayM_ne M b (by decide) (by decide), sayM_ne M b (by decide) (by decide), sayM_ne M b (by decide) (by decide)]
  exact h
theorem sN.says {M0 : aM} : ∀ (bs : List Int32) {M : aM}, sN M0 M → sN M0 (saysM M bs)
  | [], _, h => h
  | b :: bs, M, h => sN.says bs (h.say b)
theorem sN.has {M0 M : aM} (h : sN M0 M) (x : Int32) : hasN M x = hasN M0 x := by unfold hasN; rw [h.1]
theorem sN.is {M0 M : aM} (h : sN M0 M) (x k : Int32) : isN M x k = isN M0 x k := by unfold isN; rw [h.has, h.2.1]
theorem sN.kind {M0 M : aM} (h : sN M0 M) (x : Int32) : n_kind M x = n_kind M0 x := by unfold n_kind; rw [h.has, h.2.1]
theorem sN.amt {M0 M : aM} (h : sN M0 M) (x : Int32) : n_amt M x = n_amt M0 x := by unfold n_amt; rw [h.has, h.2.2.1]
theorem sN.byte {M0 M : aM} (h : sN M0 M) (x k : Int32) : n_byte M x k = n_byte M0 x k := by
  unfold n_byte
  rw [h.is, h.is, h.2.2.1, h.2.2.2.1, h.2.2.2.2.2.2]
theorem sN.head {M0 M : aM} (h : sN M0 M) (x : Int32) : n_head M x = n_head M0 x := by unfold n_head; rw [h.is, h.2.2.2.2.1]
theorem sN.tail {M0 M : aM} (h : sN M0 M) (x : Int32) : n_tail M x = n_tail M0 x := by unfold n_tail; rw [h.is, h.2.2.2.2.2.1]
theorem sN_qL {M0 M : aM} (h : sN M0 M) (x : Int32) : ∀ (r k : Nat), qL M x r k = qL M0 x r k
  | 0, _ => rfl
  | r + 1, k => by unfold qL; rw [h.byte, sN_qL h x r (k + 1)]
theorem sN_isQ {M0 M : aM} (h : sN M0 M) (x : Int32) : isQ M x = isQ M0 x := by unfold isQ; rw [h.is, h.2.2.1, sN_qL h]
theorem sN.quo {M0 M : aM} (h : sN M0 M) (x : Int32) : n_quo M x = n_quo M0 x := by unfold n_quo; rw [sN_isQ h, h.head, h.is, h.tail, h.tail, h.head]
def w_bts (M0 : aM) (x : Int32) : Nat → Nat → List Int32
  | 0, _ => []
  | r + 1, k => n_byte M0 x (nI k) :: w_bts M0 x r (k + 1)
def w_name (M0 : aM) (x : Int32) : List Int32 := w_bts M0 x (cl (n_amt M0 x)) 0
def sp_Writer_writeName : aS := fun as M K => match as with
  | [.ref a, .int x] => a = 18 ∧ wt_ok M ∧ K none (saysM M (w_name M x))
  | _ => False
set_option maxRecDepth 100000 in
set_option maxHeartbeats 4000000 in
theorem lp_Writer_writeName {G : aG} (hG : am_ok G) {K : aR} {M0 : aM} {x am : Int32} : ∀ (r k : Nat) (M : aM), cl am - k = r → k ≤ cl am → sN M0 M → wt_ok M → K none (saysM M (w_bts M0 x r k)) → am_X G Y_Writer_writeName 2 K 11 [some (.ref 18), some (.int x), some (.int am), some (.int (nI k))] [] M := by
  intro r
  have hcl := cl_lt am
  induction r with
  | zero =>
    intro k M hk hk2 hN hw h
    have e1 : ¬ nI k < am := by rw [lt_cl (by omega)]; omega
    refine am_from (tb_Writer_writeName (ok_Nodes_amountOf hG) (by decide) (ok_Nodes_byteOf hG) (by decide) (ok_Waiting_append hG) (by decide)) k_Writer_writeName 400 ?_
    simp only [q_Writer_writeName_11, r_Writer_writeName_0, r_Writer_writeName_1, r_Writer_writeName_4, r_Writer_writeName_5, r_Writer_writeName_8, r_Writer_writeName_9, r_Writer_writeName_10, r_Writer_writeName_11, r_Writer_writeName_12, r_Writer_writeName_13, r_Writer_writeName_16, r_Writer_writeName_17, r_Writer_writeName_20, r_Writer_writeName_21, r_Writer_writeName_24, r_Writer_writeName_25, r_Writer_writeName_26, r_Writer_writeName_29, r_Writer_writeName_32, r_Writer_writeName_35, r_Writer_writeName_38, ai_aload, ai_getf, ai_iload, ai_callv2, am_push, am_few, ai_istore, am_cut_0, am_cut_s, am_c1, ai_const, ai_cmpge, ai_callv3, ai_iinc, ai_goto, ai_vret, kd_0, fd_0_0, fd_0_1, fd_0_2, fd_0_3, fd_0_4, kd_1, fd_1_0, fd_1_1, ln_2, kd_3, fd_3_0, fd_3_1, fd_3_2, fd_3_3, fd_3_4, fd_3_5, fd_3_6, fd_3_7, fd_3_8, fd_3_9, ln_4, ln_5, ln_6, ln_7, ln_8, ln_9, ln_10, kd_11, fd_11_0, fd_11_1, fd_11_2, fd_11_3, fd_11_4, kd_12, fd_12_0, fd_12_1, fd_12_2, fd_12_3, ln_13, ln_14, ln_15, kd_16, fd_16_0, fd_16_1, fd_16_2, ln_17, kd_18, fd_18_0, fd_18_1, kd_19, fd_19_0, fd_19_1, fd_19_2, fd_19_3, fd_19_4, fd_19_5, fd_19_6, fd_19_7, fd_19_8, fd_19_9, fd_19_10, fd_19_11, fd_19_12, fd_19_13, fd_19_14, fd_19_15, fd_19_16, fd_19_17, fd_19_18, fd_19_19, fd_19_20, ln_20, ln_21, ln_22, ln_23, ln_24, ln_25, ln_26, ln_27, ln_28, ln_29, ln_30, ln_31, ln_32, List.getElem?_cons_zero, List.getElem?_cons_succ, List.set_cons_zero, List.set_cons_succ, true_and, and_true, ↓reduceIte, Int32.reduceLT, Int32.reduceLE, li_10, or_true, true_or, e1]
    exact h
  | succ r ih =>
    intro k M hk hk2 hN hw h
    have e1 : nI k < am := by rw [lt_cl (by omega)]; omega
    refine am_from (tb_Writer_writeName (ok_Nodes_amountOf hG) (by decide) (ok_Nodes_byteOf hG) (by decide) (ok_Waiting_append hG) (by decide)) k_Writer_writeName 400 ?_
    simp only [q_Writer_writeName_11, r_Writer_writeName_0, r_Writer_writeName_1, r_Writer_writeName_4, r_Writer_writeName_5, r_Writer_writeName_8, r_Writer_writeName_9, r_Writer_writeName_10, r_Writer_writeName_11, r_Writer_writeName_12, r_Writer_writeName_13, r_Writer_writeName_16, r_Writer_writeName_17, r_Writer_writeName_20, r_Writer_writeName_21, r_Writer_writeName_24, r_Writer_writeName_25, r_Writer_writeName_26, r_Writer_writeName_29, r_Writer_writeName_32, r_Writer_writeName_35, r_Writer_writeName_38, ai_aload, ai_getf, ai_iload, ai_callv2, am_push, am_few, ai_istore, am_cut_0, am_cut_s, am_c1, ai_const, ai_cmpge, ai_callv3, ai_iinc, ai_goto, ai_vret, kd_0, fd_0_0, fd_0_1, fd_0_2, fd_0_3, fd_0_4, kd_1, fd_1_0, fd_1_1, ln_2, kd_3, fd_3_0, fd_3_1, fd_3_2, fd_3_3, fd_3_4, fd_3_5, fd_3_6, fd_3_7, fd_3_8, fd_3_9, ln_4, ln_5, ln_6, ln_7, ln_8, ln_9, ln_10, kd_11, fd_11_0, fd_11_1, fd_11_2, fd_11_3, fd_11_4, kd_12, fd_12_0, fd_12_1, fd_12_2, fd_12_3, ln_13, ln_14, ln_15, kd_16, fd_16_0, fd_16_1, fd_16_2, ln_17, kd_18, fd_18_0, fd_18_1, kd_19, fd_19_0, fd_19_1, fd_19_2, fd_19_3, fd_19_4, fd_19_5, fd_19_6, fd_19_7, fd_19_8, fd_19_9, fd_19_10, fd_19_11, fd_19_12, fd_19_13, fd_19_14, fd_19_15, fd_19_16, fd_19_17, fd_19_18, fd_19_19, fd_19_20, ln_20, ln_21, ln_22, ln_23, ln_24, ln_25, ln_26, ln_27, ln_28, ln_29, ln_30, ln_31, ln_32, List.getElem?_cons_zero, List.getElem?_cons_succ, List.set_cons_zero, List.set_cons_succ, true_and, and_true, ↓reduceIte, Int32.reduceLT, Int32.reduceLE, li_10, or_true, true_or, ↓sp_Nodes_byteOf, ↓sp_Waiting_append, e1, hN.byte, nI_1]
    exact ⟨hw, ih (k + 1) _ (by omega) (by omega) (hN.say _) (sayM_ok hw) h⟩
set_option maxRecDepth 100000 in
set_option maxHeartbeats 4000000 in
theorem ok_Writer_writeName {G : aG} (hG : am_ok G) : am_Sp G Y_Writer_writeName 2 sp_Writer_writeName := by
  intro as M K h
  unfold sp_Writer_writeName at h
  split at h
  · next a x =>
    obtain ⟨rfl, hw, h⟩ := h
    refine am_entry hG (by decide +kernel) (Nat.le_of_ble_eq_true rfl) ?_
    refine am_go (cuts := k_Writer_writeName) (tb_Writer_writeName (ok_Nodes_amountOf hG) (by decide) (ok_Nodes_byteOf hG) (by decide) (ok_Waiting_append hG) (by decide)) 400 _ _ _ _ ?_
    change am_run _ _ _ _ _ _ [some (.ref 18), some (.int x), none, none] [] _
    simp only [q_Writer_writeName_11, r_Writer_writeName_0, r_Writer_writeName_1, r_Writer_writeName_4, r_Writer_writeName_5, r_Writer_writeName_8, r_Writer_writeName_9, r_Writer_writeName_10, r_Writer_writeName_11, r_Writer_writeName_12, r_Writer_writeName_13, r_Writer_writeName_16, r_Writer_writeName_17, r_Writer_writeName_20, r_Writer_writeName_21, r_Writer_writeName_24, r_Writer_writeName_25, r_Writer_writeName_26, r_Writer_writeName_29, r_Writer_writeName_32, r_Writer_writeName_35, r_Writer_writeName_38, ai_aload, ai_getf, ai_iload, ai_callv2, am_push, am_few, ai_istore, am_cut_0, am_cut_s, am_c1, ai_const, ai_cmpge, ai_callv3, ai_iinc, ai_goto, ai_vret, kd_0, fd_0_0, fd_0_1, fd_0_2, fd_0_3, fd_0_4, kd_1, fd_1_0, fd_1_1, ln_2, kd_3, fd_3_0, fd_3_1, fd_3_2, fd_3_3, fd_3_4, fd_3_5, fd_3_6, fd_3_7, fd_3_8, fd_3_9, ln_4, ln_5, ln_6, ln_7, ln_8, ln_9, ln_10, kd_11, fd_11_0, fd_11_1, fd_11_2, fd_11_3, fd_11_4, kd_12, fd_12_0, fd_12_1, fd_12_2, fd_12_3, ln_13, ln_14, ln_15, kd_16, fd_16_0, fd_16_1, fd_16_2, ln_17, kd_18, fd_18_0, fd_18_1, kd_19, fd_19_0, fd_19_1, fd_19_2, fd_19_3, fd_19_4, fd_19_5, fd_19_6, fd_19_7, fd_19_8, fd_19_9, fd_19_10, fd_19_11, fd_19_12, fd_19_13, fd_19_14, fd_19_15, fd_19_16, fd_19_17, fd_19_18, fd_19_19, fd_19_20, ln_20, ln_21, ln_22, ln_23, ln_24, ln_25, ln_26, ln_27, ln_28, ln_29, ln_30, ln_31, ln_32, List.getElem?_cons_zero, List.getElem?_cons_succ, List.set_cons_zero, List.set_cons_succ, true_and, and_true, ↓reduceIte, Int32.reduceLT, Int32.reduceLE, li_10, or_true, true_or, ↓sp_Nodes_amountOf]
    exact lp_Writer_writeName hG (M0 := M) (cl (n_amt M x)) 0 M (by omega) (Nat.zero_le _) (sN.rf M) hw h
  · cases h
def w_stb (M0 : aM) (x : Int32) : Nat → Nat → List Int32
  | 0, _ => [34]
  | r + 1, k => if n_byte M0 x (nI k) = 34 then 92 :: n_byte M0 x (nI k) :: w_stb M0 x r (k + 1) else if n_byte M0 x (nI k) = 92 then 92 :: n_byte M0 x (nI k) :: w_stb M0 x r (k + 1) else n_byte M0 x (nI k) :: w_stb M0 x r (k + 1)
def w_str (M0 : aM) (x : Int32) : List Int32 := 34 :: w_stb M0 x (cl (n_amt M0 x)) 0
def sp_Writer_writeString : aS := fun as M K => match as with
  | [.ref a, .int x] => a = 18 ∧ wt_ok M ∧ K none (saysM M (w_str M x))
  | _ => False
set_option maxRecDepth 100000 in
set_option maxHeartbeats 4000000 in
theorem lp_Writer_writeString {G : aG} (hG : am_ok G) {K : aR} {M0 : aM} {x am : Int32} : ∀ (r k : Nat) (M : aM) (o : Option Value), cl am - k = r → k ≤ cl am → sN M0 M → wt_ok M → K none (saysM M (w_stb M0 x r k)) → am_X G Y_Writer_writeString 2 K 20 [some (.ref 18), some (.int x), some (.int am), some (.int (nI k)), o] [] M := by
  intro r
  have hcl := cl_lt am
  induction r with
  | zero =>
    intro k M o hk hk2 hN hw h
    have e1 : ¬ nI k < am := by rw [lt_cl (by omega)]; omega
    refine am_from (tb_Writer_writeString (ok_Nodes_amountOf hG) (by decide) (ok_Waiting_append hG) (by decide) (ok_Nodes_byteOf hG) (by decide)) k_Writer_writeString 400 ?_
    simp only [q_Writer_writeString_20, r_Writer_writeString_0, r_Writer_writeString_1, r_Writer_writeString_4, r_Writer_writeString_5, r_Writer_writeString_8, r_Writer_writeString_9, r_Writer_writeString_10, r_Writer_writeString_13, r_Writer_writeString_15, r_Writer_writeString_18, r_Writer_writeString_19, r_Writer_writeString_20, r_Writer_writeString_21, r_Writer_writeString_22, r_Writer_writeString_25, r_Writer_writeString_26, r_Writer_writeString_29, r_Writer_writeString_30, r_Writer_writeString_31, r_Writer_writeString_34, r_Writer_writeString_36, r_Writer_writeString_38, r_Writer_writeString_40, r_Writer_writeString_43, r_Writer_writeString_45, r_Writer_writeString_47, r_Writer_writeString_50, r_Writer_writeString_51, r_Writer_writeString_54, r_Writer_writeString_56, r_Writer_writeString_59, r_Writer_writeString_60, r_Writer_writeString_63, r_Writer_writeString_65, r_Writer_writeString_68, r_Writer_writeString_71, r_Writer_writeString_74, r_Writer_writeString_75, r_Writer_writeString_78, r_Writer_writeString_80, r_Writer_writeString_83, ai_aload, ai_getf, ai_iload, ai_callv2, am_push, am_few, ai_istore, am_cut_0, am_cut_s, am_c1, ai_const, ai_cmpge, ai_callv3, ai_cmpeq, ai_cmpne, ai_iinc, ai_goto, ai_vret, kd_0, fd_0_0, fd_0_1, fd_0_2, fd_0_3, fd_0_4, kd_1, fd_1_0, fd_1_1, ln_2, kd_3, fd_3_0, fd_3_1, fd_3_2, fd_3_3, fd_3_4, fd_3_5, fd_3_6, fd_3_7, fd_3_8, fd_3_9, ln_4, ln_5, ln_6, ln_7, ln_8, ln_9, ln_10, kd_11, fd_11_0, fd_11_1, fd_11_2, fd_11_3, fd_11_4, kd_12, fd_12_0, fd_12_1, fd_12_2, fd_12_3, ln_13, ln_14, ln_15, kd_16, fd_16_0, fd_16_1, fd_16_2, ln_17, kd_18, fd_18_0, fd_18_1, kd_19, fd_19_0, fd_19_1, fd_19_2, fd_19_3, fd_19_4, fd_19_5, fd_19_6, fd_19_7, fd_19_8, fd_19_9, fd_19_10, fd_19_11, fd_19_12, fd_19_13, fd_19_14, fd_19_15, fd_19_16, fd_19_17, fd_19_18, fd_19_19, fd_19_20, ln_20, ln_21, ln_22, ln_23, ln_24, ln_25, ln_26, ln_27, ln_28, ln_29, ln_30, ln_31, ln_32, List.getElem?_cons_zero, List.getElem?_cons_succ, List.set_cons_zero, List.set_cons_succ, true_and, and_true, ↓reduceIte, Int32.reduceLT, Int32.reduceLE, li_10, or_true, true_or, ↓sp_Waiting_append, e1]
    exact ⟨hw, h⟩
  | succ r ih =>
    intro k M o hk hk2 hN hw h
    have e1 : nI k < am := by rw [lt_cl (by omega)]; omega
    refine am_from (tb_Writer_writeString (ok_Nodes_amountOf hG) (by decide) (ok_Waiting_append hG) (by decide) (ok_Nodes_byteOf hG) (by decide)) k_Writer_writeString 400 ?_
    simp only [q_Writer_writeString_20, r_Writer_writeString_0, r_Writer_writeString_1, r_Writer_writeString_4, r_Writer_writeString_5, r_Writer_writeString_8, r_Writer_writeString_9, r_Writer_writeString_10, r_Writer_writeString_13, r_Writer_writeString_15, r_Writer_writeString_18, r_Writer_writeString_19, r_Writer_writeString_20, r_Writer_writeString_21, r_Writer_writeString_22, r_Writer_writeString_25, r_Writer_writeString_26, r_Writer_writeString_29, r_Writer_writeString_30, r_Writer_writeString_31, r_Writer_writeString_34, r_Writer_writeString_36, r_Writer_writeString_38, r_Writer_writeString_40, r_Writer_writeString_43, r_Writer_writeString_45, r_Writer_writeString_47, r_Writer_writeString_50, r_Writer_writeString_51, r_Writer_writeString_54, r_Writer_writeString_56, r_Writer_writeString_59, r_Writer_writeString_60, r_Writer_writeString_63, r_Writer_writeString_65, r_Writer_writeString_68, r_Writer_writeString_71, r_Writer_writeString_74, r_Writer_writeString_75, r_Writer_writeString_78, r_Writer_writeString_80, r_Writer_writeString_83, ai_aload, ai_getf, ai_iload, ai_callv2, am_push, am_few, ai_istore, am_cut_0, am_cut_s, am_c1, ai_const, ai_cmpge, ai_callv3, ai_cmpeq, ai_cmpne, ai_iinc, ai_goto, ai_vret, kd_0, fd_0_0, fd_0_1, fd_0_2, fd_0_3, fd_0_4, kd_1, fd_1_0, fd_1_1, ln_2, kd_3, fd_3_0, fd_3_1, fd_3_2, fd_3_3, fd_3_4, fd_3_5, fd_3_6, fd_3_7, fd_3_8, fd_3_9, ln_4, ln_5, ln_6, ln_7, ln_8, ln_9, ln_10, kd_11, fd_11_0, fd_11_1, fd_11_2, fd_11_3, fd_11_4, kd_12, fd_12_0, fd_12_1, fd_12_2, fd_12_3, ln_13, ln_14, ln_15, kd_16, fd_16_0, fd_16_1, fd_16_2, ln_17, kd_18, fd_18_0, fd_18_1, kd_19, fd_19_0, fd_19_1, fd_19_2, fd_19_3, fd_19_4, fd_19_5, fd_19_6, fd_19_7, fd_19_8, fd_19_9, fd_19_10, fd_19_11, fd_19_12, fd_19_13, fd_19_14, fd_19_15, fd_19_16, fd_19_17, fd_19_18, fd_19_19, fd_19_20, ln_20, ln_21, ln_22, ln_23, ln_24, ln_25, ln_26, ln_27, ln_28, ln_29, ln_30, ln_31, ln_32, List.getElem?_cons_zero, List.getElem?_cons_succ, List.set_cons_zero, List.set_cons_succ, true_and, and_true, ↓reduceIte, Int32.reduceLT, Int32.reduceLE, li_10, or_true, true_or, ↓sp_Nodes_byteOf, ↓sp_Waiting_append, e1, hN.byte, nI_1]
    simp only [w_stb] at h
    have g := fun M o => ih (k + 1) M o (by omega) (by omega)
    by_cases c1 : n_byte M0 x (nI k) = 34
    · simp only [c1, ↓reduceIte] at h ⊢
      exact ⟨hw, sayM_ok hw, g _ _ ((hN.say _).say _) (sayM_ok (sayM_ok hw)) h⟩
    · simp only [c1, ↓reduceIte] at h ⊢
      by_cases c2 : n_byte M0 x (nI k) = 92
      · simp only [c2, ↓reduceIte] at h ⊢
        exact ⟨hw, sayM_ok hw, g _ _ ((hN.say _).say _) (sayM_ok (sayM_ok hw)) h⟩
      · simp only [c2, ↓reduceIte] at h ⊢
        exact ⟨hw, g _ _ (hN.say _) (sayM_ok hw) h⟩
set_option maxRecDepth 100000 in
set_option maxHeartbeats 4000000 in
theorem ok_Writer_writeString {G : aG} (hG : am_ok G) : am_Sp G Y_Writer_writeString 2 sp_Writer_writeString := by
  intro as M K h
  unfold sp_Writer_writeString at h
  split at h
  · next a x =>
    obtain ⟨rfl, hw, h⟩ := h
    refine am_entry hG (by decide +kernel) (Nat.le_of_ble_eq_true rfl) ?_
    refine am_go (cuts := k_Writer_writeString) (tb_Writer_writeString (ok_Nodes_amountOf hG) (by decide) (ok_Waiting_append hG) (by decide) (ok_Nodes_byteOf hG) (by decide)) 400 _ _ _ _ ?_
    change am_run _ _ _ _ _ _ [some (.ref 18), some (.int x), none, none, none] [] _
    simp only [q_Writer_writeString_20, r_Writer_writeString_0, r_Writer_writeString_1, r_Writer_writeString_4, r_Writer_writeString_5, r_Writer_writeString_8, r_Writer_writeString_9, r_Writer_writeString_10, r_Writer_writeString_13, r_Writer_writeString_15, r_Writer_writeString_18, r_Writer_writeString_19, r_Writer_writeString_20, r_Writer_writeString_21, r_Writer_writeString_22, r_Writer_writeString_25, r_Writer_writeString_26, r_Writer_writeString_29, r_Writer_writeString_30, r_Writer_writeString_31, r_Writer_writeString_34, r_Writer_writeString_36, r_Writer_writeString_38, r_Writer_writeString_40, r_Writer_writeString_43, r_Writer_writeString_45, r_Writer_writeString_47, r_Writer_writeString_50, r_Writer_writeString_51, r_Writer_writeString_54, r_Writer_writeString_56, r_Writer_writeString_59, r_Writer_writeString_60, r_Writer_writeString_63, r_Writer_writeString_65, r_Writer_writeString_68, r_Writer_writeString_71, r_Writer_writeString_74, r_Writer_writeString_75, r_Writer_writeString_78, r_Writer_writeString_80, r_Writer_writeString_83, ai_aload, ai_getf, ai_iload, ai_callv2, am_push, am_few, ai_istore, am_cut_0, am_cut_s, am_c1, ai_const, ai_cmpge, ai_callv3, ai_cmpeq, ai_cmpne, ai_iinc, ai_goto, ai_vret, kd_0, fd_0_0, fd_0_1, fd_0_2, fd_0_3, fd_0_4, kd_1, fd_1_0, fd_1_1, ln_2, kd_3, fd_3_0, fd_3_1, fd_3_2, fd_3_3, fd_3_4, fd_3_5, fd_3_6, fd_3_7, fd_3_8, fd_3_9, ln_4, ln_5, ln_6, ln_7, ln_8, ln_9, ln_10, kd_11, fd_11_0, fd_11_1, fd_11_2, fd_11_3, fd_11_4, kd_12, fd_12_0, fd_12_1, fd_12_2, fd_12_3, ln_13, ln_14, ln_15, kd_16, fd_16_0, fd_16_1, fd_16_2, ln_17, kd_18, fd_18_0, fd_18_1, kd_19, fd_19_0, fd_19_1, fd_19_2, fd_19_3, fd_19_4, fd_19_5, fd_19_6, fd_19_7, fd_19_8, fd_19_9, fd_19_10, fd_19_11, fd_19_12, fd_19_13, fd_19_14, fd_19_15, fd_19_16, fd_19_17, fd_19_18, fd_19_19, fd_19_20, ln_20, ln_21, ln_22, ln_23, ln_24, ln_25, ln_26, ln_27, ln_28, ln_29, ln_30, ln_31, ln_32, List.getElem?_cons_zero, List.getElem?_cons_succ, List.set_cons_zero, List.set_cons_succ, true_and, and_true, ↓reduceIte, Int32.reduceLT, Int32.reduceLE, li_10, or_true, true_or, ↓sp_Nodes_amountOf, ↓sp_Waiting_append]
    exact ⟨hw, lp_Writer_writeString hG (M0 := M) (cl (n_amt M x)) 0 (sayM M 34) none (by omega) (Nat.zero_le _) ((sN.rf M).say 34) (sayM_ok hw) h⟩
  · cases h
/-- the powers of ten, from the k-th down -/
def pw : Nat → Int32
  | 0 => 0
  | 1 => 1
  | 2 => 10
  | 3 => 100
  | 4 => 1000
  | 5 => 10000
  | 6 => 100000
  | 7 => 1000000
  | 8 => 10000000
  | _ => 100000000
theorem pw_div : ∀ k, k < 9 → pw (k + 1) / 10 = pw k := by decide +kernel
theorem pw_pos : ∀ k, k < 9 → ¬ pw (k + 1) ≤ 0 := by decide +kernel
theorem pw_ne : ∀ k, k < 9 → ¬ pw (k + 1) = 0 := by decide +kernel
def w_dig (v p : Int32) : Int32 := 48 + (v / p - v / p / 10 * 10)
def w_dgs (v : Int32) : Nat → List Int32
  | 0 => []
  | k + 1 => if v < pw (k + 1) then (if pw (k + 1) = 1 then w_dig v (pw (k + 1)) :: w_dgs v k else w_dgs v k) else w_dig v (pw (k + 1)) :: w_dgs v k
def w_num (v : Int32) : List Int32 := if 0 ≤ v then w_dgs v 9 else 45 :: w_dgs (-v) 9
def sp_Writer_writeNumber : aS := fun as M K => match as with
  | [.ref a, .int v] => a = 18 ∧ wt_ok M ∧ K none (saysM M (w_num v))
  | _ => False
set_option maxRecDepth 100000 in
set_option maxHeartbeats 4000000 in
theorem lp_Writer_writeNumber {G : aG} (hG : am_ok G) {K : aR} {v0 v : Int32} : ∀ (k : Nat) (M : aM), k ≤ 9 → wt_ok M → K none (saysM M (w_dgs v k)) → am_X G Y_Writer_writeNumber 1 K 27 [some (.ref 18), some (.int v0), some (.int v), some (.int (pw k))] [] M := by
  intro k
  induction k with
  | zero =>
    intro M hk hw h
    have e1 : pw 0 ≤ 0 := by decide
    refine am_from (tb_Writer_writeNumber (ok_Waiting_append hG) (by decide)) k_Writer_writeNumber 400 ?_
    simp only [q_Writer_writeNumber_27, r_Writer_writeNumber_0, r_Writer_writeNumber_1, r_Writer_writeNumber_4, r_Writer_writeNumber_5, r_Writer_writeNumber_8, r_Writer_writeNumber_10, r_Writer_writeNumber_13, r_Writer_writeNumber_14, r_Writer_writeNumber_17, r_Writer_writeNumber_18, r_Writer_writeNumber_19, r_Writer_writeNumber_22, r_Writer_writeNumber_23, r_Writer_writeNumber_24, r_Writer_writeNumber_26, r_Writer_writeNumber_27, r_Writer_writeNumber_28, r_Writer_writeNumber_31, r_Writer_writeNumber_32, r_Writer_writeNumber_33, r_Writer_writeNumber_36, r_Writer_writeNumber_37, r_Writer_writeNumber_38, r_Writer_writeNumber_41, r_Writer_writeNumber_42, r_Writer_writeNumber_45, r_Writer_writeNumber_47, r_Writer_writeNumber_48, r_Writer_writeNumber_49, r_Writer_writeNumber_50, r_Writer_writeNumber_52, r_Writer_writeNumber_53, r_Writer_writeNumber_54, r_Writer_writeNumber_57, r_Writer_writeNumber_58, r_Writer_writeNumber_60, r_Writer_writeNumber_61, r_Writer_writeNumber_62, r_Writer_writeNumber_65, ai_iload, ai_ifge, ai_aload, ai_getf, ai_const, ai_callv2, am_push, am_few, ai_ineg, ai_goto, ai_istore, am_cut_0, am_cut_s, am_c1, ai_ifle, ai_cmpge, ai_cmpne, ai_idiv, ai_irem, ai_iadd, ai_bin, ai_vret, kd_0, fd_0_0, fd_0_1, fd_0_2, fd_0_3, fd_0_4, kd_1, fd_1_0, fd_1_1, ln_2, kd_3, fd_3_0, fd_3_1, fd_3_2, fd_3_3, fd_3_4, fd_3_5, fd_3_6, fd_3_7, fd_3_8, fd_3_9, ln_4, ln_5, ln_6, ln_7, ln_8, ln_9, ln_10, kd_11, fd_11_0, fd_11_1, fd_11_2, fd_11_3, fd_11_4, kd_12, fd_12_0, fd_12_1, fd_12_2, fd_12_3, ln_13, ln_14, ln_15, kd_16, fd_16_0, fd_16_1, fd_16_2, ln_17, kd_18, fd_18_0, fd_18_1, kd_19, fd_19_0, fd_19_1, fd_19_2, fd_19_3, fd_19_4, fd_19_5, fd_19_6, fd_19_7, fd_19_8, fd_19_9, fd_19_10, fd_19_11, fd_19_12, fd_19_13, fd_19_14, fd_19_15, fd_19_16, fd_19_17, fd_19_18, fd_19_19, fd_19_20, ln_20, ln_21, ln_22, ln_23, ln_24, ln_25, ln_26, ln_27, ln_28, ln_29, ln_30, ln_31, ln_32, List.getElem?_cons_zero, List.getElem?_cons_succ, List.set_cons_zero, List.set_cons_succ, true_and, and_true, ↓reduceIte, Int32.reduceLT, Int32.reduceLE, li_10, or_true, true_or, e1]
    exact h
  | succ k ih =>
    intro M hk hw h
    have e1 := pw_pos k (by omega)
    have e2 := pw_ne k (by omega)
    have e3 : ¬ (10 : Int32) = 0 := by decide
    refine am_from (tb_Writer_writeNumber (ok_Waiting_append hG) (by decide)) k_Writer_writeNumber 400 ?_
    simp only [q_Writer_writeNumber_27, r_Writer_writeNumber_0, r_Writer_writeNumber_1, r_Writer_writeNumber_4, r_Writer_writeNumber_5, r_Writer_writeNumber_8, r_Writer_writeNumber_10, r_Writer_writeNumber_13, r_Writer_writeNumber_14, r_Writer_writeNumber_17, r_Writer_writeNumber_18, r_Writer_writeNumber_19, r_Writer_writeNumber_22, r_Writer_writeNumber_23, r_Writer_writeNumber_24, r_Writer_writeNumber_26, r_Writer_writeNumber_27, r_Writer_writeNumber_28, r_Writer_writeNumber_31, r_Writer_writeNumber_32, r_Writer_writeNumber_33, r_Writer_writeNumber_36, r_Writer_writeNumber_37, r_Writer_writeNumber_38, r_Writer_writeNumber_41, r_Writer_writeNumber_42, r_Writer_writeNumber_45, r_Writer_writeNumber_47, r_Writer_writeNumber_48, r_Writer_writeNumber_49, r_Writer_writeNumber_50, r_Writer_writeNumber_52, r_Writer_writeNumber_53, r_Writer_writeNumber_54, r_Writer_writeNumber_57, r_Writer_writeNumber_58, r_Writer_writeNumber_60, r_Writer_writeNumber_61, r_Writer_writeNumber_62, r_Writer_writeNumber_65, ai_iload, ai_ifge, ai_aload, ai_getf, ai_const, ai_callv2, am_push, am_few, ai_ineg, ai_goto, ai_istore, am_cut_0, am_cut_s, am_c1, ai_ifle, ai_cmpge, ai_cmpne, ai_idiv, ai_irem, ai_iadd, ai_bin, ai_vret, kd_0, fd_0_0, fd_0_1, fd_0_2, fd_0_3, fd_0_4, kd_1, fd_1_0, fd_1_1, ln_2, kd_3, fd_3_0, fd_3_1, fd_3_2, fd_3_3, fd_3_4, fd_3_5, fd_3_6, fd_3_7, fd_3_8, fd_3_9, ln_4, ln_5, ln_6, ln_7, ln_8, ln_9, ln_10, kd_11, fd_11_0, fd_11_1, fd_11_2, fd_11_3, fd_11_4, kd_12, fd_12_0, fd_12_1, fd_12_2, fd_12_3, ln_13, ln_14, ln_15, kd_16, fd_16_0, fd_16_1, fd_16_2, ln_17, kd_18, fd_18_0, fd_18_1, kd_19, fd_19_0, fd_19_1, fd_19_2, fd_19_3, fd_19_4, fd_19_5, fd_19_6, fd_19_7, fd_19_8, fd_19_9, fd_19_10, fd_19_11, fd_19_12, fd_19_13, fd_19_14, fd_19_15, fd_19_16, fd_19_17, fd_19_18, fd_19_19, fd_19_20, ln_20, ln_21, ln_22, ln_23, ln_24, ln_25, ln_26, ln_27, ln_28, ln_29, ln_30, ln_31, ln_32, List.getElem?_cons_zero, List.getElem?_cons_succ, List.set_cons_zero, List.set_cons_succ, true_and, and_true, ↓reduceIte, Int32.reduceLT, Int32.reduceLE, li_10, or_true, true_or, ↓sp_Waiting_append, e1, e2, e3, not_false_eq_true, pw_div k (by omega)]
    simp only [w_dgs] at h
    have g := fun M => ih M (by omega)
    by_cases c1 : v < pw (k + 1)
    · simp only [c1, ↓reduceIte] at h ⊢
      by_cases c2 : pw (k + 1) = 1
      · simp only [c2, ↓reduceIte] at h ⊢
        exact ⟨hw, g _ (sayM_ok hw) h⟩
      · simp only [c2, ↓reduceIte] at h ⊢
        exact g _ hw h
    · simp only [c1, ↓reduceIte] at h ⊢
      exact ⟨hw, g _ (sayM_ok hw) h⟩
set_option maxRecDepth 100000 in
set_option maxHeartbeats 4000000 in
theorem ok_Writer_writeNumber {G : aG} (hG : am_ok G) : am_Sp G Y_Writer_writeNumber 1 sp_Writer_writeNumber := by
  intro as M K h
  unfold sp_Writer_writeNumber at h
  split at h
  · next a v =>
    obtain ⟨rfl, hw, h⟩ := h
    unfold w_num at h
    by_cases c : 0 ≤ v
    · rw [if_pos c] at h
      refine am_entry hG (by decide +kernel) (Nat.le_of_ble_eq_true rfl) ?_
      refine am_go (cuts := k_Writer_writeNumber) (tb_Writer_writeNumber (ok_Waiting_append hG) (by decide)) 400 _ _ _ _ ?_
      change am_run _ _ _ _ _ _ [some (.ref 18), some (.int v), none, none] [] _
      simp only [q_Writer_writeNumber_27, r_Writer_writeNumber_0, r_Writer_writeNumber_1, r_Writer_writeNumber_4, r_Writer_writeNumber_5, r_Writer_writeNumber_8, r_Writer_writeNumber_10, r_Writer_writeNumber_13, r_Writer_writeNumber_14, r_Writer_writeNumber_17, r_Writer_writeNumber_18, r_Writer_writeNumber_19, r_Writer_writeNumber_22, r_Writer_writeNumber_23, r_Writer_writeNumber_24, r_Writer_writeNumber_26, r_Writer_writeNumber_27, r_Writer_writeNumber_28, r_Writer_writeNumber_31, r_Writer_writeNumber_32, r_Writer_writeNumber_33, r_Writer_writeNumber_36, r_Writer_writeNumber_37, r_Writer_writeNumber_38, r_Writer_writeNumber_41, r_Writer_writeNumber_42, r_Writer_writeNumber_45, r_Writer_writeNumber_47, r_Writer_writeNumber_48, r_Writer_writeNumber_49, r_Writer_writeNumber_50, r_Writer_writeNumber_52, r_Writer_writeNumber_53, r_Writer_writeNumber_54, r_Writer_writeNumber_57, r_Writer_writeNumber_58, r_Writer_writeNumber_60, r_Writer_writeNumber_61, r_Writer_writeNumber_62, r_Writer_writeNumber_65, ai_iload, ai_ifge, ai_aload, ai_getf, ai_const, ai_callv2, am_push, am_few, ai_ineg, ai_goto, ai_istore, am_cut_0, am_cut_s, am_c1, ai_ifle, ai_cmpge, ai_cmpne, ai_idiv, ai_irem, ai_iadd, ai_bin, ai_vret, kd_0, fd_0_0, fd_0_1, fd_0_2, fd_0_3, fd_0_4, kd_1, fd_1_0, fd_1_1, ln_2, kd_3, fd_3_0, fd_3_1, fd_3_2, fd_3_3, fd_3_4, fd_3_5, fd_3_6, fd_3_7, fd_3_8, fd_3_9, ln_4, ln_5, ln_6, ln_7, ln_8, ln_9, ln_10, kd_11, fd_11_0, fd_11_1, fd_11_2, fd_11_3, fd_11_4, kd_12, fd_12_0, fd_12_1, fd_12_2, fd_12_3, ln_13, ln_14, ln_15, kd_16, fd_16_0, fd_16_1, fd_16_2, ln_17, kd_18, fd_18_0, fd_18_1, kd_19, fd_19_0, fd_19_1, fd_19_2, fd_19_3, fd_19_4, fd_19_5, fd_19_6, fd_19_7, fd_19_8, fd_19_9, fd_19_10, fd_19_11, fd_19_12, fd_19_13, fd_19_14, fd_19_15, fd_19_16, fd_19_17, fd_19_18, fd_19_19, fd_19_20, ln_20, ln_21, ln_22, ln_23, ln_24, ln_25, ln_26, ln_27, ln_28, ln_29, ln_30, ln_31, ln_32, List.getElem?_cons_zero, List.getElem?_cons_succ, List.set_cons_zero, List.set_cons_succ, true_and, and_true, ↓reduceIte, Int32.reduceLT, Int32.reduceLE, li_10, or_true, true_or, ↓sp_Waiting_append, c]
      exact lp_Writer_writeNumber hG 9 M (by omega) hw h
    · rw [if_neg c] at h
      refine am_entry hG (by decide +kernel) (Nat.le_of_ble_eq_true rfl) ?_
      refine am_go (cuts := k_Writer_writeNumber) (tb_Writer_writeNumber (ok_Waiting_append hG) (by decide)) 400 _ _ _ _ ?_
      change am_run _ _ _ _ _ _ [some (.ref 18), some (.int v), none, none] [] _
      simp only [q_Writer_writeNumber_27, r_Writer_writeNumber_0, r_Writer_writeNumber_1, r_Writer_writeNumber_4, r_Writer_writeNumber_5, r_Writer_writeNumber_8, r_Writer_writeNumber_10, r_Writer_writeNumber_13, r_Writer_writeNumber_14, r_Writer_writeNumber_17, r_Writer_writeNumber_18, r_Writer_writeNumber_19, r_Writer_writeNumber_22, r_Writer_writeNumber_23, r_Writer_writeNumber_24, r_Writer_writeNumber_26, r_Writer_writeNumber_27, r_Writer_writeNumber_28, r_Writer_writeNumber_31, r_Writer_writeNumber_32, r_Writer_writeNumber_33, r_Writer_writeNumber_36, r_Writer_writeNumber_37, r_Writer_writeNumber_38, r_Writer_writeNumber_41, r_Writer_writeNumber_42, r_Writer_writeNumber_45, r_Writer_writeNumber_47, r_Writer_writeNumber_48, r_Writer_writeNumber_49, r_Writer_writeNumber_50, r_Writer_writeNumber_52, r_Writer_writeNumber_53, r_Writer_writeNumber_54, r_Writer_writeNumber_57, r_Writer_writeNumber_58, r_Writer_writeNumber_60, r_Writer_writeNumber_61, r_Writer_writeNumber_62, r_Writer_writeNumber_65, ai_iload, ai_ifge, ai_aload, ai_getf, ai_const, ai_callv2, am_push, am_few, ai_ineg, ai_goto, ai_istore, am_cut_0, am_cut_s, am_c1, ai_ifle, ai_cmpge, ai_cmpne, ai_idiv, ai_irem, ai_iadd, ai_bin, ai_vret, kd_0, fd_0_0, fd_0_1, fd_0_2, fd_0_3, fd_0_4, kd_1, fd_1_0, fd_1_1, ln_2, kd_3, fd_3_0, fd_3_1, fd_3_2, fd_3_3, fd_3_4, fd_3_5, fd_3_6, fd_3_7, fd_3_8, fd_3_9, ln_4, ln_5, ln_6, ln_7, ln_8, ln_9, ln_10, kd_11, fd_11_0, fd_11_1, fd_11_2, fd_11_3, fd_11_4, kd_12, fd_12_0, fd_12_1, fd_12_2, fd_12_3, ln_13, ln_14, ln_15, kd_16, fd_16_0, fd_16_1, fd_16_2, ln_17, kd_18, fd_18_0, fd_18_1, kd_19, fd_19_0, fd_19_1, fd_19_2, fd_19_3, fd_19_4, fd_19_5, fd_19_6, fd_19_7, fd_19_8, fd_19_9, fd_19_10, fd_19_11, fd_19_12, fd_19_13, fd_19_14, fd_19_15, fd_19_16, fd_19_17, fd_19_18, fd_19_19, fd_19_20, ln_20, ln_21, ln_22, ln_23, ln_24, ln_25, ln_26, ln_27, ln_28, ln_29, ln_30, ln_31, ln_32, List.getElem?_cons_zero, List.getElem?_cons_succ, List.set_cons_zero, List.set_cons_succ, true_and, and_true, ↓reduceIte, Int32.reduceLT, Int32.reduceLE, li_10, or_true, true_or, ↓sp_Waiting_append, c]
      exact ⟨hw, lp_Writer_writeNumber hG 9 _ (by omega) (sayM_ok hw) h⟩
  · cases h
