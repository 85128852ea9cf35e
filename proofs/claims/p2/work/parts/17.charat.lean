/-! "quote".charAt -/
theorem qf_c (k : Nat) : (((QF k &&& 255).toUInt32 % 65536).toInt32) = QF k := by
  unfold QF
  split <;> decide
theorem qf_n (k : Nat) : narrow .char (.int (QF k)) = .int (QF k) := by
  unfold QF
  split <;> rfl
theorem vp_in5 {i : Int32} (h : vp_in i 5) : ¬ i < 0 ∧ i < 5 := by
  have h1 : ¬ i < 0 := fun q => h (Or.inl q)
  refine ⟨h1, ?_⟩
  obtain ⟨j, hj, rfl⟩ := nI_of h1
  have h2 : ¬ 5 ≤ (nI j).toNatClampNeg := fun q => h (Or.inr q)
  rw [nI_clamp hj] at h2
  exact nI_lt (b := 5) (by omega) (by decide)
def sp_Pre_check : aS := fun as M K => match as with
  | [.int i, .int n, v] => am_c1 v = true ∧ ¬ i < 0 ∧ i < n ∧ K (some (.int i)) M
  | _ => False
set_option maxRecDepth 100000 in
set_option maxHeartbeats 4000000 in
theorem ok_Pre_check {G : aG} (hG : am_ok G) : am_Sp G Y_Pre_check 0 sp_Pre_check := by
  intro as M K h
  unfold sp_Pre_check at h
  split at h
  · next i n v =>
    obtain ⟨h0, h1, h2, h⟩ := h
    refine am_entry hG (by decide +kernel) (by cases v <;> first | (cases h0; done) | exact Nat.le_of_ble_eq_true rfl) ?_
    refine am_go (cuts := k_Pre_check) tb_Pre_check 400 _ _ _ _ ?_
    have e : am_l0 Y_Pre_check.2.2.1 [Value.int i, .int n, v] = some (.int i) :: some (.int n) :: am_l0 1 [v] := rfl
    rw [e]
    simp only [r_Pre_check_0, r_Pre_check_1, r_Pre_check_4, r_Pre_check_5, r_Pre_check_6, r_Pre_check_16, r_Pre_check_17, ai_iload, ai_iflt, ai_cmplt, ai_iret, List.getElem?_cons_zero, List.getElem?_cons_succ, List.set_cons_zero, List.set_cons_succ, true_and, and_true, ↓reduceIte, Int32.reduceLT, Int32.reduceLE, li_10, or_true, true_or, h1, h2]
    exact h
  · cases h
def sp_Str_check : aS := fun as M K => match as with
  | [.int i, .int n] => ¬ i < 0 ∧ i < n ∧ K none M
  | _ => False
set_option maxRecDepth 100000 in
set_option maxHeartbeats 4000000 in
theorem ok_Str_check {G : aG} (hG : am_ok G) : am_Sp G Y_Str_check 1 sp_Str_check := by
  intro as M K h
  unfold sp_Str_check at h
  split at h
  · next i n =>
    obtain ⟨h1, h2, h⟩ := h
    refine am_entry hG (by decide +kernel) (Nat.le_of_ble_eq_true rfl) ?_
    refine am_go (cuts := k_Str_check) (tb_Str_check (ok_Pre_check hG) (by decide)) 400 _ _ _ _ ?_
    change am_run _ _ _ _ _ _ [some (.int i), some (.int n)] [] _
    simp only [r_Str_check_0, r_Str_check_1, r_Str_check_2, r_Str_check_5, r_Str_check_8, r_Str_check_9, ai_iload, ai_getq, ai_calls3, am_push, am_few, ai_pop, am_c1, ai_vret, kd_0, fd_0_0, fd_0_1, fd_0_2, fd_0_3, fd_0_4, kd_1, fd_1_0, fd_1_1, ln_2, kd_3, fd_3_0, fd_3_1, fd_3_2, fd_3_3, fd_3_4, fd_3_5, fd_3_6, fd_3_7, fd_3_8, fd_3_9, ln_4, ln_5, ln_6, ln_7, ln_8, ln_9, ln_10, kd_11, fd_11_0, fd_11_1, fd_11_2, fd_11_3, fd_11_4, kd_12, fd_12_0, fd_12_1, fd_12_2, fd_12_3, ln_13, ln_14, ln_15, kd_16, fd_16_0, fd_16_1, fd_16_2, ln_17, kd_18, fd_18_0, fd_18_1, kd_19, fd_19_0, fd_19_1, fd_19_2, fd_19_3, fd_19_4, fd_19_5, fd_19_6, fd_19_7, fd_19_8, fd_19_9, fd_19_10, fd_19_11, fd_19_12, fd_19_13, fd_19_14, fd_19_15, fd_19_16, fd_19_17, fd_19_18, fd_19_19, fd_19_20, ln_20, ln_21, ln_22, ln_23, ln_24, ln_25, ln_26, ln_27, ln_28, ln_29, ln_30, ln_31, ln_32, List.getElem?_cons_zero, List.getElem?_cons_succ, List.set_cons_zero, List.set_cons_succ, true_and, and_true, ↓reduceIte, Int32.reduceLT, Int32.reduceLE, li_10, or_true, true_or, ↓sp_Pre_check, h1, h2, not_false_eq_true, am_c1]
    exact ⟨h, h⟩
  · cases h
def sp_Lat_charAt : aS := fun as M K => match as with
  | [.ref b, .int i] => b = 1003 ∧ vp_in i 5 ∧ K (some (.int (QF i.toNatClampNeg))) M
  | _ => False
set_option maxRecDepth 100000 in
set_option maxHeartbeats 4000000 in
theorem ok_Lat_charAt {G : aG} (hG : am_ok G) : am_Sp G Y_Lat_charAt 2 sp_Lat_charAt := by
  intro as M K h
  unfold sp_Lat_charAt at h
  split at h
  · next b i =>
    obtain ⟨rfl, h1, h⟩ := h
    have h2 := (vp_in5 h1).1
    have h3 := (vp_in5 h1).2
    refine am_entry hG (by decide +kernel) (Nat.le_of_ble_eq_true rfl) ?_
    refine am_go (cuts := k_Lat_charAt) (tb_Lat_charAt (ok_Str_check hG) (by decide)) 400 _ _ _ _ ?_
    change am_run _ _ _ _ _ _ [some (.ref 1003), some (.int i)] [] _
    simp only [r_Lat_charAt_0, r_Lat_charAt_1, r_Lat_charAt_2, r_Lat_charAt_3, r_Lat_charAt_6, r_Lat_charAt_7, r_Lat_charAt_8, r_Lat_charAt_9, r_Lat_charAt_12, r_Lat_charAt_13, r_Lat_charAt_14, ai_iload, ai_aload, ai_xblen, ai_calls2, am_push, am_few, ai_xbald, ai_const, ai_iand, ai_bin, ai_i2c, ai_cret, kd_0, fd_0_0, fd_0_1, fd_0_2, fd_0_3, fd_0_4, kd_1, fd_1_0, fd_1_1, ln_2, kd_3, fd_3_0, fd_3_1, fd_3_2, fd_3_3, fd_3_4, fd_3_5, fd_3_6, fd_3_7, fd_3_8, fd_3_9, ln_4, ln_5, ln_6, ln_7, ln_8, ln_9, ln_10, kd_11, fd_11_0, fd_11_1, fd_11_2, fd_11_3, fd_11_4, kd_12, fd_12_0, fd_12_1, fd_12_2, fd_12_3, ln_13, ln_14, ln_15, kd_16, fd_16_0, fd_16_1, fd_16_2, ln_17, kd_18, fd_18_0, fd_18_1, kd_19, fd_19_0, fd_19_1, fd_19_2, fd_19_3, fd_19_4, fd_19_5, fd_19_6, fd_19_7, fd_19_8, fd_19_9, fd_19_10, fd_19_11, fd_19_12, fd_19_13, fd_19_14, fd_19_15, fd_19_16, fd_19_17, fd_19_18, fd_19_19, fd_19_20, ln_20, ln_21, ln_22, ln_23, ln_24, ln_25, ln_26, ln_27, ln_28, ln_29, ln_30, ln_31, ln_32, List.getElem?_cons_zero, List.getElem?_cons_succ, List.set_cons_zero, List.set_cons_succ, true_and, and_true, ↓reduceIte, Int32.reduceLT, Int32.reduceLE, li_10, or_true, true_or, ↓sp_Str_check, h1, h2, h3, not_false_eq_true, qf_c, qf_n]
    exact h
  · cases h
def sp_Str_isL : aS := fun as M K => match as with
  | [.ref b] => b = 1002 ∧ K (some (.int 1)) M
  | _ => False
set_option maxRecDepth 100000 in
set_option maxHeartbeats 4000000 in
theorem ok_Str_isL {G : aG} (hG : am_ok G) : am_Sp G Y_Str_isL 0 sp_Str_isL := by
  intro as M K h
  unfold sp_Str_isL at h
  split at h
  · next b =>
    obtain ⟨rfl, h⟩ := h
    refine am_entry hG (by decide +kernel) (Nat.le_of_ble_eq_true rfl) ?_
    refine am_go (cuts := k_Str_isL) tb_Str_isL 400 _ _ _ _ ?_
    change am_run _ _ _ _ _ _ [some (.ref 1002)] [] _
    simp only [r_Str_isL_0, r_Str_isL_3, r_Str_isL_6, r_Str_isL_7, r_Str_isL_10, r_Str_isL_13, r_Str_isL_14, r_Str_isL_17, r_Str_isL_18, ai_gets, ai_ifeq, ai_aload, ai_xgetf, ai_ifne, ai_const, ai_goto, ai_zret, List.getElem?_cons_zero, List.getElem?_cons_succ, List.set_cons_zero, List.set_cons_succ, true_and, and_true, ↓reduceIte, Int32.reduceLT, Int32.reduceLE, li_10, or_true, true_or]
    exact h
  · cases h
def sp_Str_charAt : aS := fun as M K => match as with
  | [.ref b, .int i] => b = 1002 ∧ vp_in i 5 ∧ K (some (.int (QF i.toNatClampNeg))) M
  | _ => False
set_option maxRecDepth 100000 in
set_option maxHeartbeats 4000000 in
theorem ok_Str_charAt {G : aG} (hG : am_ok G) : am_Sp G Y_Str_charAt 3 sp_Str_charAt := by
  intro as M K h
  unfold sp_Str_charAt at h
  split at h
  · next b i =>
    obtain ⟨rfl, h1, h⟩ := h
    refine am_entry hG (by decide +kernel) (Nat.le_of_ble_eq_true rfl) ?_
    refine am_go (cuts := k_Str_charAt) (tb_Str_charAt (ok_Str_isL hG) (by decide) (ok_Lat_charAt hG) (by decide)) 400 _ _ _ _ ?_
    change am_run _ _ _ _ _ _ [some (.ref 1002), some (.int i)] [] _
    simp only [r_Str_charAt_0, r_Str_charAt_1, r_Str_charAt_4, r_Str_charAt_7, r_Str_charAt_8, r_Str_charAt_11, r_Str_charAt_12, r_Str_charAt_15, ai_aload, ai_callx1, am_push, am_few, ai_ifeq, ai_xgetf, ai_iload, ai_calls2, ai_cret, kd_0, fd_0_0, fd_0_1, fd_0_2, fd_0_3, fd_0_4, kd_1, fd_1_0, fd_1_1, ln_2, kd_3, fd_3_0, fd_3_1, fd_3_2, fd_3_3, fd_3_4, fd_3_5, fd_3_6, fd_3_7, fd_3_8, fd_3_9, ln_4, ln_5, ln_6, ln_7, ln_8, ln_9, ln_10, kd_11, fd_11_0, fd_11_1, fd_11_2, fd_11_3, fd_11_4, kd_12, fd_12_0, fd_12_1, fd_12_2, fd_12_3, ln_13, ln_14, ln_15, kd_16, fd_16_0, fd_16_1, fd_16_2, ln_17, kd_18, fd_18_0, fd_18_1, kd_19, fd_19_0, fd_19_1, fd_19_2, fd_19_3, fd_19_4, fd_19_5, fd_19_6, fd_19_7, fd_19_8, fd_19_9, fd_19_10, fd_19_11, fd_19_12, fd_19_13, fd_19_14, fd_19_15, fd_19_16, fd_19_17, fd_19_18, fd_19_19, fd_19_20, ln_20, ln_21, ln_22, ln_23, ln_24, ln_25, ln_26, ln_27, ln_28, ln_29, ln_30, ln_31, ln_32, List.getElem?_cons_zero, List.getElem?_cons_succ, List.set_cons_zero, List.set_cons_succ, true_and, and_true, ↓reduceIte, Int32.reduceLT, Int32.reduceLE, li_10, or_true, true_or, ↓sp_Str_isL, ↓sp_Lat_charAt, h1, qf_n]
    exact h
  · cases h
