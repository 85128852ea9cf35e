/-! THE REFERENCE: the stack of write -/
def ent (n j : Nat) (w : Int32) : Prop := (∃ x, w = nI x ∧ x < n ∧ j ≤ x) ∨ (∃ x, w = nI (1000 + x) ∧ x < n ∧ j + 1 ≤ x) ∨ (w = 2000 ∧ j < 200)
def wgt (w : Int32) : Nat := if cl w < 1000 then 8 ^ (201 - cl w) else if cl w < 2000 then 2 * 8 ^ (201 - (cl w - 1000)) else 1
def mu (t : Nat → Int32) : Nat → Nat
  | 0 => 0
  | k + 1 => mu t k + wgt (t k)
theorem mu_eq {s t : Nat → Int32} : ∀ k, (∀ j, j < k → s j = t j) → mu s k = mu t k
  | 0, _ => rfl
  | k + 1, h => by
    unfold mu
    rw [mu_eq k (fun j hj => h j (by omega)), h k (by omega)]
theorem wgt_p {x : Nat} (h : x < 200) : wgt (nI x) = 8 ^ (201 - x) := by
  unfold wgt
  rw [show cl (nI x) = x from nI_clamp (by omega), if_pos (by omega)]
theorem wgt_r {x : Nat} (h : x < 200) : wgt (nI (1000 + x)) = 2 * 8 ^ (201 - x) := by
  unfold wgt
  rw [show cl (nI (1000 + x)) = 1000 + x from nI_clamp (by omega), if_neg (by omega), if_pos (by omega), show 1000 + x - 1000 = x by omega]
theorem wgt_2 : wgt 2000 = 1 := by decide +kernel
theorem pw_8 {x y : Nat} (h : x < y) (hy : y < 200) : 8 * 8 ^ (201 - y) ≤ 8 ^ (201 - x) := by
  rw [← Nat.pow_succ']
  exact Nat.pow_le_pow_right (by decide) (by omega)
theorem pw_8p (x : Nat) (hx : x < 200) : 8 ≤ 8 ^ (201 - x) := by
  have := Nat.pow_le_pow_right (n := 8) (by decide) (show 1 ≤ 201 - x by omega)
  simpa using this
theorem rm_p {x : Nat} (h : x < 200) : nI x - nI x / 1000 * 1000 = nI x := by
  have : ∀ y : Fin 200, nI y.val - nI y.val / 1000 * 1000 = nI y.val := by decide +kernel
  exact this ⟨x, h⟩
theorem rm_r {x : Nat} (h : x < 200) : nI (1000 + x) - nI (1000 + x) / 1000 * 1000 = nI x := by
  have : ∀ y : Fin 200, nI (1000 + y.val) - nI (1000 + y.val) / 1000 * 1000 = nI y.val := by decide +kernel
  exact this ⟨x, h⟩
/-- only what waits, and the stacks, may differ -/
def wq_rel (M N : aM) : Prop := (∀ i, ¬ i = 19 → ¬ i = 30 → ¬ i = 31 → ¬ i = 32 → N i = M i) ∧ (∀ j, ¬ j = 18 → N 19 j = M 19 j) ∧ mw_ok N
theorem wr_rel.wq {M N : aM} (h : wr_rel M N) : wq_rel M N := ⟨fun i a b _ _ => h.1 i a b, h.2.1, h.2.2⟩
theorem wq_rel.tr {M N P : aM} (h1 : wq_rel M N) (h2 : wq_rel N P) : wq_rel M P := ⟨fun i a b c d => (h2.1 i a b c d).trans (h1.1 i a b c d), fun j a => (h2.2.1 j a).trans (h1.2.1 j a), h2.2.2⟩
theorem wq_31 {M N : aM} {j : Nat} {x : Int32} (h : wq_rel M N) : wq_rel M (am_up N 31 j x) := by
  refine ⟨fun i a b c d => ?_, fun k a => ?_, h.2.2⟩
  · rw [am_up_ne c]; exact h.1 i a b c d
  · rw [am_up_ne (by decide)]; exact h.2.1 k a
theorem wq_32 {M N : aM} {j : Nat} {x : Int32} (h : wq_rel M N) : wq_rel M (am_up N 32 j x) := by
  refine ⟨fun i a b c d => ?_, fun k a => ?_, h.2.2⟩
  · rw [am_up_ne d]; exact h.1 i a b c d
  · rw [am_up_ne (by decide)]; exact h.2.1 k a
theorem wq_rel.tree {M N : aM} (h : wq_rel M N) (ht : tr_ok M) : tr_ok N := by
  have e21 := h.1 21 (by decide) (by decide) (by decide) (by decide)
  have e22 := h.1 22 (by decide) (by decide) (by decide) (by decide)
  have e24 := h.1 24 (by decide) (by decide) (by decide) (by decide)
  have e25 := h.1 25 (by decide) (by decide) (by decide) (by decide)
  have eN : mN N = mN M := by unfold mN; rw [h.2.1 5 (by decide)]
  unfold tr_ok
  rw [e21, e22, e24, e25, eN]
  exact ht
theorem wq_rel.mc {M N : aM} (h : wq_rel M N) (hc : mc_ok M) : mc_ok N := by
  unfold mc_ok mN
  rw [h.2.1 5 (by decide)]
  exact hc
/-- what a step of write leaves -/
def st_post (M : aM) (mm : Nat) (w : Int32) (K : aR) : Prop := ∀ (m' : Nat) (N : aM), wq_rel M N → m' ≤ mm + 2 → (∀ j, j < mm → N 31 j = M 31 j) → (∀ j, mm ≤ j → j < m' → ent (mN M) j (N 31 j)) → mu (N 31) m' < mu (M 31) mm + wgt w → K (some (.int (nI m'))) N
def sp_Model_step0 : aS := fun as M K => match as with
  | [.ref a, .int w, .int m] => a = 19 ∧ (tr_ok M ∧ mc_ok M ∧ mw_ok M ∧ m = nI (cl m) ∧ cl m < 200 ∧ ent (mN M) (cl m) w) ∧ st_post M (cl m) w K
  | _ => False
theorem st_none {M N : aM} {mm : Nat} {w : Int32} {K : aR} (h : st_post M mm w K) (hr : wr_rel M N) (hw : 0 < wgt w) : K (some (.int (nI mm))) N := by
  have h31 : N 31 = M 31 := hr.1 31 (by decide) (by decide)
  refine h mm N hr.wq (by omega) (fun j _ => by rw [h31]) (fun j a b => by omega) ?_
  rw [h31]
  omega
theorem st_two {M N : aM} {mm : Nat} {w a b : Int32} {K : aR} (h : st_post M mm w K) (hr : wr_rel M N) (ha : ent (mN M) mm a) (hb : ent (mN M) (mm + 1) b) (hw : wgt a + wgt b < wgt w) : K (some (.int (nI (mm + 2)))) (am_up (am_up N 31 mm a) 31 (mm + 1) b) := by
  have h31 : N 31 = M 31 := hr.1 31 (by decide) (by decide)
  have e0 : ∀ j, j < mm → am_up (am_up N 31 mm a) 31 (mm + 1) b 31 j = M 31 j := by
    intro j hj
    simp only [am_up_ap, ↓reduceIte]
    rw [if_neg (by omega), if_neg (by omega), h31]
  have e1 : am_up (am_up N 31 mm a) 31 (mm + 1) b 31 mm = a := by
    simp only [am_up_ap, ↓reduceIte]
    rw [if_neg (by omega)]
  have e2 : am_up (am_up N 31 mm a) 31 (mm + 1) b 31 (mm + 1) = b := by
    simp only [am_up_ap, ↓reduceIte]
  refine h (mm + 2) _ (wq_31 (wq_31 hr.wq)) (by omega) e0 (fun j p q => ?_) ?_
  · rcases (show j = mm ∨ j = mm + 1 by omega) with rfl | rfl
    · rw [e1]; exact ha
    · rw [e2]; exact hb
  · show mu _ mm + wgt _ + wgt _ < _
    rw [mu_eq mm e0, e1, e2]
    omega
theorem st_one {M N : aM} {mm : Nat} {w a : Int32} {K : aR} (h : st_post M mm w K) (hr : wr_rel M N) (ha : ent (mN M) mm a) (hw : wgt a < wgt w) : K (some (.int (nI (mm + 1)))) (am_up N 31 mm a) := by
  have h31 : N 31 = M 31 := hr.1 31 (by decide) (by decide)
  have e0 : ∀ j, j < mm → am_up N 31 mm a 31 j = M 31 j := by
    intro j hj
    simp only [am_up_ap, ↓reduceIte]
    rw [if_neg (by omega), h31]
  have e1 : am_up N 31 mm a 31 mm = a := by
    simp only [am_up_ap, ↓reduceIte]
  refine h (mm + 1) _ (wq_31 hr.wq) (by omega) e0 (fun j p q => ?_) ?_
  · rcases (show j = mm by omega) with rfl
    rw [e1]; exact ha
  · show mu _ mm + wgt _ < _
    rw [mu_eq mm e0, e1]
    omega
set_option maxRecDepth 100000 in
set_option maxHeartbeats 4000000 in
theorem ok_step_rest {G : aG} (hG : am_ok G) {K : aR} {M : aM} {x mm : Nat} (ht : tr_ok M) (hc : mc_ok M) (hw : mw_ok M) (hx : x < mN M) (hmm : mm + 1 ≤ x) (h : st_post M mm (nI (1000 + x)) K) : am_Met G Y_Model_step 5 [.ref 19, .int (nI (1000 + x)), .int (nI mm)] M K := by
  have h200 := hc.2
  have c0 : ¬ nI (1000 + x) = 2000 := fun q => by
    have := (nI_eq (a := 1000 + x) (b := 2000) (by omega) (by decide)).mp q
    omega
  have l1000 : ((1000 : Int32) = 0) = False := eq_false (by decide)
  have er := rm_r (x := x) (by omega)
  have c1 : ¬ nI (1000 + x) < 1000 := nI_nlt (b := 1000) (by omega) (by omega)
  have vx : vp_in (nI x) 200 := vp_in_nI (by omega) (by decide)
  have cx : (nI x).toNatClampNeg = x := nI_clamp (by omega)
  have vm : vp_in (nI mm) 420 := vp_in_nI (by omega) (by decide)
  have cm : (nI mm).toNatClampNeg = mm := nI_clamp (by omega)
  have vm1 : vp_in (nI (mm + 1)) 420 := vp_in_nI (by omega) (by decide)
  have cm1 : (nI (mm + 1)).toNatClampNeg = mm + 1 := nI_clamp (by omega)
  have em2 : nI mm + 2 = nI (mm + 2) := nI_add mm 2
  have hp := pw_8p x (by omega)
  have hwg : wgt (nI (1000 + x)) = 2 * 8 ^ (201 - x) := wgt_r (by omega)
  have r1 := m_say_rel (b := 32) hw
  have w1 := r1.2.2
  have r2 := m_say_rel (b := 46) w1
  have w2 := r2.2.2
  have r3 := m_say_rel (b := 32) w2
  have s1 : ∀ b, m_say M b 21 = M 21 := fun b => (m_say_rel (b := b) hw).1 21 (by decide) (by decide)
  have s24 : ∀ b, m_say M b 24 = M 24 := fun b => (m_say_rel (b := b) hw).1 24 (by decide) (by decide)
  have s25 : ∀ b, m_say M b 25 = M 25 := fun b => (m_say_rel (b := b) hw).1 25 (by decide) (by decide)
  by_cases c5 : M 21 x = 5
  · have c5' : (M 21 x = 5) = True := eq_true c5
    refine am_entry hG (by decide +kernel) (Nat.le_of_ble_eq_true rfl) ?_
    refine am_go (cuts := k_Model_step) (tb_Model_step (ok_Model_say hG) (by decide) (ok_Model_isQuote0 hG) (by decide) (ok_Model_number0 hG) (by decide) (ok_Model_letters0 hG) (by decide)) 400 _ _ _ _ ?_
    change am_run _ _ _ _ _ _ [some (.ref 19), some (.int (nI (1000 + x))), some (.int (nI mm)), none, none] [] _
    simp only [r_Model_step_0, r_Model_step_1, r_Model_step_4, r_Model_step_7, r_Model_step_8, r_Model_step_10, r_Model_step_13, r_Model_step_14, r_Model_step_15, r_Model_step_16, r_Model_step_19, r_Model_step_20, r_Model_step_21, r_Model_step_22, r_Model_step_25, r_Model_step_28, r_Model_step_29, r_Model_step_32, r_Model_step_33, r_Model_step_35, r_Model_step_37, r_Model_step_40, r_Model_step_41, r_Model_step_44, r_Model_step_45, r_Model_step_46, r_Model_step_47, r_Model_step_50, r_Model_step_51, r_Model_step_53, r_Model_step_56, r_Model_step_59, r_Model_step_61, r_Model_step_64, r_Model_step_65, r_Model_step_68, r_Model_step_69, r_Model_step_70, r_Model_step_71, r_Model_step_74, r_Model_step_75, r_Model_step_77, r_Model_step_80, r_Model_step_81, r_Model_step_83, r_Model_step_86, r_Model_step_87, r_Model_step_89, r_Model_step_92, r_Model_step_93, r_Model_step_96, r_Model_step_97, r_Model_step_100, r_Model_step_101, r_Model_step_102, r_Model_step_105, r_Model_step_106, r_Model_step_107, r_Model_step_108, r_Model_step_109, r_Model_step_110, r_Model_step_111, r_Model_step_112, r_Model_step_113, r_Model_step_114, r_Model_step_115, r_Model_step_118, r_Model_step_119, r_Model_step_120, r_Model_step_121, r_Model_step_124, r_Model_step_126, r_Model_step_129, r_Model_step_130, r_Model_step_131, r_Model_step_134, r_Model_step_137, r_Model_step_138, r_Model_step_140, r_Model_step_143, r_Model_step_144, r_Model_step_147, r_Model_step_148, r_Model_step_149, r_Model_step_152, r_Model_step_153, r_Model_step_156, r_Model_step_157, r_Model_step_158, r_Model_step_159, r_Model_step_160, r_Model_step_161, r_Model_step_162, r_Model_step_163, r_Model_step_164, r_Model_step_165, r_Model_step_167, r_Model_step_170, r_Model_step_172, r_Model_step_175, r_Model_step_177, r_Model_step_180, r_Model_step_181, r_Model_step_184, r_Model_step_185, r_Model_step_188, r_Model_step_189, r_Model_step_192, r_Model_step_193, r_Model_step_194, r_Model_step_195, r_Model_step_196, r_Model_step_197, r_Model_step_200, r_Model_step_201, r_Model_step_202, r_Model_step_203, r_Model_step_204, r_Model_step_207, r_Model_step_208, r_Model_step_209, r_Model_step_210, r_Model_step_211, r_Model_step_212, r_Model_step_213, r_Model_step_214, r_Model_step_215, r_Model_step_218, r_Model_step_219, r_Model_step_220, r_Model_step_221, r_Model_step_224, r_Model_step_225, r_Model_step_227, r_Model_step_230, r_Model_step_231, r_Model_step_233, r_Model_step_236, r_Model_step_239, r_Model_step_240, r_Model_step_243, r_Model_step_244, r_Model_step_245, r_Model_step_246, r_Model_step_249, r_Model_step_250, r_Model_step_251, r_Model_step_254, r_Model_step_255, r_Model_step_256, r_Model_step_259, r_Model_step_262, r_Model_step_263, r_Model_step_264, r_Model_step_267, r_Model_step_268, ai_iload, ai_const, ai_cmpne, ai_aload, ai_callv2, am_push, am_few, ai_iret, ai_irem, ai_istore, am_cut_0, am_cut_s, am_c1, ai_cmplt, ai_goto, ai_ifeq, ai_getf, ai_iald, ai_cmpeq, ai_iast, ai_iadd, ai_bin, ai_ifne, kd_0, fd_0_0, fd_0_1, fd_0_2, fd_0_3, fd_0_4, kd_1, fd_1_0, fd_1_1, ln_2, kd_3, fd_3_0, fd_3_1, fd_3_2, fd_3_3, fd_3_4, fd_3_5, fd_3_6, fd_3_7, fd_3_8, fd_3_9, ln_4, ln_5, ln_6, ln_7, ln_8, ln_9, ln_10, kd_11, fd_11_0, fd_11_1, fd_11_2, fd_11_3, fd_11_4, kd_12, fd_12_0, fd_12_1, fd_12_2, fd_12_3, ln_13, ln_14, ln_15, kd_16, fd_16_0, fd_16_1, fd_16_2, ln_17, kd_18, fd_18_0, fd_18_1, kd_19, fd_19_0, fd_19_1, fd_19_2, fd_19_3, fd_19_4, fd_19_5, fd_19_6, fd_19_7, fd_19_8, fd_19_9, fd_19_10, fd_19_11, fd_19_12, fd_19_13, fd_19_14, fd_19_15, fd_19_16, fd_19_17, fd_19_18, fd_19_19, fd_19_20, ln_20, ln_21, ln_22, ln_23, ln_24, ln_25, ln_26, ln_27, ln_28, ln_29, ln_30, ln_31, ln_32, List.getElem?_cons_zero, List.getElem?_cons_succ, List.set_cons_zero, List.set_cons_succ, true_and, and_true, ↓reduceIte, Int32.reduceLT, Int32.reduceLE, li_10, or_true, true_or, ↓sp_Model_say, c0, l1000, er, c1, vx, cx, c5', hw, not_false_eq_true]
    exact st_none h (m_say_rel hw) (by omega)
  by_cases c4 : M 21 x = 4
  · have c4' : (M 21 x = 4) = True := eq_true c4
    obtain ⟨h1, t1, eh, et, a1, a2, a3, a4⟩ := (ht x hx).2.2 c4
    have e1000 : (1000 : Int32) + nI t1 = nI (1000 + t1) := nI_add 1000 t1
    have p1 := pw_8 a1 (by omega)
    have p2 := pw_8 a3 (by omega)
    refine am_entry hG (by decide +kernel) (Nat.le_of_ble_eq_true rfl) ?_
    refine am_go (cuts := k_Model_step) (tb_Model_step (ok_Model_say hG) (by decide) (ok_Model_isQuote0 hG) (by decide) (ok_Model_number0 hG) (by decide) (ok_Model_letters0 hG) (by decide)) 400 _ _ _ _ ?_
    change am_run _ _ _ _ _ _ [some (.ref 19), some (.int (nI (1000 + x))), some (.int (nI mm)), none, none] [] _
    simp only [r_Model_step_0, r_Model_step_1, r_Model_step_4, r_Model_step_7, r_Model_step_8, r_Model_step_10, r_Model_step_13, r_Model_step_14, r_Model_step_15, r_Model_step_16, r_Model_step_19, r_Model_step_20, r_Model_step_21, r_Model_step_22, r_Model_step_25, r_Model_step_28, r_Model_step_29, r_Model_step_32, r_Model_step_33, r_Model_step_35, r_Model_step_37, r_Model_step_40, r_Model_step_41, r_Model_step_44, r_Model_step_45, r_Model_step_46, r_Model_step_47, r_Model_step_50, r_Model_step_51, r_Model_step_53, r_Model_step_56, r_Model_step_59, r_Model_step_61, r_Model_step_64, r_Model_step_65, r_Model_step_68, r_Model_step_69, r_Model_step_70, r_Model_step_71, r_Model_step_74, r_Model_step_75, r_Model_step_77, r_Model_step_80, r_Model_step_81, r_Model_step_83, r_Model_step_86, r_Model_step_87, r_Model_step_89, r_Model_step_92, r_Model_step_93, r_Model_step_96, r_Model_step_97, r_Model_step_100, r_Model_step_101, r_Model_step_102, r_Model_step_105, r_Model_step_106, r_Model_step_107, r_Model_step_108, r_Model_step_109, r_Model_step_110, r_Model_step_111, r_Model_step_112, r_Model_step_113, r_Model_step_114, r_Model_step_115, r_Model_step_118, r_Model_step_119, r_Model_step_120, r_Model_step_121, r_Model_step_124, r_Model_step_126, r_Model_step_129, r_Model_step_130, r_Model_step_131, r_Model_step_134, r_Model_step_137, r_Model_step_138, r_Model_step_140, r_Model_step_143, r_Model_step_144, r_Model_step_147, r_Model_step_148, r_Model_step_149, r_Model_step_152, r_Model_step_153, r_Model_step_156, r_Model_step_157, r_Model_step_158, r_Model_step_159, r_Model_step_160, r_Model_step_161, r_Model_step_162, r_Model_step_163, r_Model_step_164, r_Model_step_165, r_Model_step_167, r_Model_step_170, r_Model_step_172, r_Model_step_175, r_Model_step_177, r_Model_step_180, r_Model_step_181, r_Model_step_184, r_Model_step_185, r_Model_step_188, r_Model_step_189, r_Model_step_192, r_Model_step_193, r_Model_step_194, r_Model_step_195, r_Model_step_196, r_Model_step_197, r_Model_step_200, r_Model_step_201, r_Model_step_202, r_Model_step_203, r_Model_step_204, r_Model_step_207, r_Model_step_208, r_Model_step_209, r_Model_step_210, r_Model_step_211, r_Model_step_212, r_Model_step_213, r_Model_step_214, r_Model_step_215, r_Model_step_218, r_Model_step_219, r_Model_step_220, r_Model_step_221, r_Model_step_224, r_Model_step_225, r_Model_step_227, r_Model_step_230, r_Model_step_231, r_Model_step_233, r_Model_step_236, r_Model_step_239, r_Model_step_240, r_Model_step_243, r_Model_step_244, r_Model_step_245, r_Model_step_246, r_Model_step_249, r_Model_step_250, r_Model_step_251, r_Model_step_254, r_Model_step_255, r_Model_step_256, r_Model_step_259, r_Model_step_262, r_Model_step_263, r_Model_step_264, r_Model_step_267, r_Model_step_268, ai_iload, ai_const, ai_cmpne, ai_aload, ai_callv2, am_push, am_few, ai_iret, ai_irem, ai_istore, am_cut_0, am_cut_s, am_c1, ai_cmplt, ai_goto, ai_ifeq, ai_getf, ai_iald, ai_cmpeq, ai_iast, ai_iadd, ai_bin, ai_ifne, kd_0, fd_0_0, fd_0_1, fd_0_2, fd_0_3, fd_0_4, kd_1, fd_1_0, fd_1_1, ln_2, kd_3, fd_3_0, fd_3_1, fd_3_2, fd_3_3, fd_3_4, fd_3_5, fd_3_6, fd_3_7, fd_3_8, fd_3_9, ln_4, ln_5, ln_6, ln_7, ln_8, ln_9, ln_10, kd_11, fd_11_0, fd_11_1, fd_11_2, fd_11_3, fd_11_4, kd_12, fd_12_0, fd_12_1, fd_12_2, fd_12_3, ln_13, ln_14, ln_15, kd_16, fd_16_0, fd_16_1, fd_16_2, ln_17, kd_18, fd_18_0, fd_18_1, kd_19, fd_19_0, fd_19_1, fd_19_2, fd_19_3, fd_19_4, fd_19_5, fd_19_6, fd_19_7, fd_19_8, fd_19_9, fd_19_10, fd_19_11, fd_19_12, fd_19_13, fd_19_14, fd_19_15, fd_19_16, fd_19_17, fd_19_18, fd_19_19, fd_19_20, ln_20, ln_21, ln_22, ln_23, ln_24, ln_25, ln_26, ln_27, ln_28, ln_29, ln_30, ln_31, ln_32, List.getElem?_cons_zero, List.getElem?_cons_succ, List.set_cons_zero, List.set_cons_succ, true_and, and_true, ↓reduceIte, Int32.reduceLT, Int32.reduceLE, li_10, or_true, true_or, ↓sp_Model_say, c0, l1000, er, c1, vx, cx, c5, c4', hw, s1, s24, s25, eh, et, e1000, vm, cm, vm1, cm1, nI_1, em2, am_up_ap, Nat.reduceEqDiff, not_false_eq_true]
    refine st_two h (m_say_rel hw) (Or.inr (Or.inl ⟨t1, rfl, a4, by omega⟩)) (Or.inl ⟨h1, rfl, a2, by omega⟩) ?_
    rw [wgt_r (by omega), wgt_p (by omega), hwg]
    omega
  · refine am_entry hG (by decide +kernel) (Nat.le_of_ble_eq_true rfl) ?_
    refine am_go (cuts := k_Model_step) (tb_Model_step (ok_Model_say hG) (by decide) (ok_Model_isQuote0 hG) (by decide) (ok_Model_number0 hG) (by decide) (ok_Model_letters0 hG) (by decide)) 400 _ _ _ _ ?_
    change am_run _ _ _ _ _ _ [some (.ref 19), some (.int (nI (1000 + x))), some (.int (nI mm)), none, none] [] _
    simp only [r_Model_step_0, r_Model_step_1, r_Model_step_4, r_Model_step_7, r_Model_step_8, r_Model_step_10, r_Model_step_13, r_Model_step_14, r_Model_step_15, r_Model_step_16, r_Model_step_19, r_Model_step_20, r_Model_step_21, r_Model_step_22, r_Model_step_25, r_Model_step_28, r_Model_step_29, r_Model_step_32, r_Model_step_33, r_Model_step_35, r_Model_step_37, r_Model_step_40, r_Model_step_41, r_Model_step_44, r_Model_step_45, r_Model_step_46, r_Model_step_47, r_Model_step_50, r_Model_step_51, r_Model_step_53, r_Model_step_56, r_Model_step_59, r_Model_step_61, r_Model_step_64, r_Model_step_65, r_Model_step_68, r_Model_step_69, r_Model_step_70, r_Model_step_71, r_Model_step_74, r_Model_step_75, r_Model_step_77, r_Model_step_80, r_Model_step_81, r_Model_step_83, r_Model_step_86, r_Model_step_87, r_Model_step_89, r_Model_step_92, r_Model_step_93, r_Model_step_96, r_Model_step_97, r_Model_step_100, r_Model_step_101, r_Model_step_102, r_Model_step_105, r_Model_step_106, r_Model_step_107, r_Model_step_108, r_Model_step_109, r_Model_step_110, r_Model_step_111, r_Model_step_112, r_Model_step_113, r_Model_step_114, r_Model_step_115, r_Model_step_118, r_Model_step_119, r_Model_step_120, r_Model_step_121, r_Model_step_124, r_Model_step_126, r_Model_step_129, r_Model_step_130, r_Model_step_131, r_Model_step_134, r_Model_step_137, r_Model_step_138, r_Model_step_140, r_Model_step_143, r_Model_step_144, r_Model_step_147, r_Model_step_148, r_Model_step_149, r_Model_step_152, r_Model_step_153, r_Model_step_156, r_Model_step_157, r_Model_step_158, r_Model_step_159, r_Model_step_160, r_Model_step_161, r_Model_step_162, r_Model_step_163, r_Model_step_164, r_Model_step_165, r_Model_step_167, r_Model_step_170, r_Model_step_172, r_Model_step_175, r_Model_step_177, r_Model_step_180, r_Model_step_181, r_Model_step_184, r_Model_step_185, r_Model_step_188, r_Model_step_189, r_Model_step_192, r_Model_step_193, r_Model_step_194, r_Model_step_195, r_Model_step_196, r_Model_step_197, r_Model_step_200, r_Model_step_201, r_Model_step_202, r_Model_step_203, r_Model_step_204, r_Model_step_207, r_Model_step_208, r_Model_step_209, r_Model_step_210, r_Model_step_211, r_Model_step_212, r_Model_step_213, r_Model_step_214, r_Model_step_215, r_Model_step_218, r_Model_step_219, r_Model_step_220, r_Model_step_221, r_Model_step_224, r_Model_step_225, r_Model_step_227, r_Model_step_230, r_Model_step_231, r_Model_step_233, r_Model_step_236, r_Model_step_239, r_Model_step_240, r_Model_step_243, r_Model_step_244, r_Model_step_245, r_Model_step_246, r_Model_step_249, r_Model_step_250, r_Model_step_251, r_Model_step_254, r_Model_step_255, r_Model_step_256, r_Model_step_259, r_Model_step_262, r_Model_step_263, r_Model_step_264, r_Model_step_267, r_Model_step_268, ai_iload, ai_const, ai_cmpne, ai_aload, ai_callv2, am_push, am_few, ai_iret, ai_irem, ai_istore, am_cut_0, am_cut_s, am_c1, ai_cmplt, ai_goto, ai_ifeq, ai_getf, ai_iald, ai_cmpeq, ai_iast, ai_iadd, ai_bin, ai_ifne, kd_0, fd_0_0, fd_0_1, fd_0_2, fd_0_3, fd_0_4, kd_1, fd_1_0, fd_1_1, ln_2, kd_3, fd_3_0, fd_3_1, fd_3_2, fd_3_3, fd_3_4, fd_3_5, fd_3_6, fd_3_7, fd_3_8, fd_3_9, ln_4, ln_5, ln_6, ln_7, ln_8, ln_9, ln_10, kd_11, fd_11_0, fd_11_1, fd_11_2, fd_11_3, fd_11_4, kd_12, fd_12_0, fd_12_1, fd_12_2, fd_12_3, ln_13, ln_14, ln_15, kd_16, fd_16_0, fd_16_1, fd_16_2, ln_17, kd_18, fd_18_0, fd_18_1, kd_19, fd_19_0, fd_19_1, fd_19_2, fd_19_3, fd_19_4, fd_19_5, fd_19_6, fd_19_7, fd_19_8, fd_19_9, fd_19_10, fd_19_11, fd_19_12, fd_19_13, fd_19_14, fd_19_15, fd_19_16, fd_19_17, fd_19_18, fd_19_19, fd_19_20, ln_20, ln_21, ln_22, ln_23, ln_24, ln_25, ln_26, ln_27, ln_28, ln_29, ln_30, ln_31, ln_32, List.getElem?_cons_zero, List.getElem?_cons_succ, List.set_cons_zero, List.set_cons_succ, true_and, and_true, ↓reduceIte, Int32.reduceLT, Int32.reduceLE, li_10, or_true, true_or, ↓sp_Model_say, c0, l1000, er, c1, vx, cx, c5, c4, hw, w1, w2, vm, cm, vm1, cm1, nI_1, em2, not_false_eq_true]
    refine st_two h (r1.tr (r2.tr r3)) (Or.inr (Or.inr ⟨rfl, by omega⟩)) (Or.inl ⟨x, rfl, hx, by omega⟩) ?_
    rw [wgt_2, wgt_p (by omega), hwg]
    omega
set_option maxRecDepth 100000 in
set_option maxHeartbeats 4000000 in
theorem ok_step_plain {G : aG} (hG : am_ok G) {K : aR} {M : aM} {x mm : Nat} (ht : tr_ok M) (hc : mc_ok M) (hw : mw_ok M) (hx : x < mN M) (hmm : mm ≤ x) (h : st_post M mm (nI x) K) : am_Met G Y_Model_step 5 [.ref 19, .int (nI x), .int (nI mm)] M K := by
  have h200 := hc.2
  have c0 : ¬ nI x = 2000 := fun q => by
    have := (nI_eq (a := x) (b := 2000) (by omega) (by decide)).mp q
    omega
  have l1000 : ((1000 : Int32) = 0) = False := eq_false (by decide)
  have er := rm_p (x := x) (by omega)
  have c1 : nI x < 1000 := nI_lt (b := 1000) (by omega) (by decide)
  have vx : vp_in (nI x) 200 := vp_in_nI (by omega) (by decide)
  have cx : (nI x).toNatClampNeg = x := nI_clamp (by omega)
  have vm : vp_in (nI mm) 420 := vp_in_nI (by omega) (by decide)
  have cm : (nI mm).toNatClampNeg = mm := nI_clamp (by omega)
  have vm1 : vp_in (nI (mm + 1)) 420 := vp_in_nI (by omega) (by decide)
  have cm1 : (nI (mm + 1)).toNatClampNeg = mm + 1 := nI_clamp (by omega)
  have em2 : nI mm + 2 = nI (mm + 2) := nI_add mm 2
  have hp := pw_8p x (by omega)
  have hwg : wgt (nI x) = 8 ^ (201 - x) := wgt_p (by omega)
  have s1 : ∀ b, m_say M b 21 = M 21 := fun b => (m_say_rel (b := b) hw).1 21 (by decide) (by decide)
  have s24 : ∀ b, m_say M b 24 = M 24 := fun b => (m_say_rel (b := b) hw).1 24 (by decide) (by decide)
  have s25 : ∀ b, m_say M b 25 = M 25 := fun b => (m_say_rel (b := b) hw).1 25 (by decide) (by decide)
  by_cases c4 : M 21 x = 4
  · have c4' : (M 21 x = 4) = True := eq_true c4
    obtain ⟨h1, t1, eh, et, a1, a2, a3, a4⟩ := (ht x hx).2.2 c4
    have e1000 : (1000 : Int32) + nI t1 = nI (1000 + t1) := nI_add 1000 t1
    have p1 := pw_8 a1 (by omega)
    have p2 := pw_8 a3 (by omega)
    have vt : vp_in (nI t1) 200 := vp_in_nI (by omega) (by decide)
    have ct : (nI t1).toNatClampNeg = t1 := nI_clamp (by omega)
    have hex : (∃ y, y < mN M ∧ nI x = nI y ∧ M 21 y = 4) = True := eq_true ⟨x, hx, rfl, c4⟩
    have b20 : ∀ b : Bool, (b2 b = 0) = (b = false) := b2_eq0
    refine am_entry hG (by decide +kernel) (Nat.le_of_ble_eq_true rfl) ?_
    refine am_go (cuts := k_Model_step) (tb_Model_step (ok_Model_say hG) (by decide) (ok_Model_isQuote0 hG) (by decide) (ok_Model_number0 hG) (by decide) (ok_Model_letters0 hG) (by decide)) 400 _ _ _ _ ?_
    change am_run _ _ _ _ _ _ [some (.ref 19), some (.int (nI x)), some (.int (nI mm)), none, none] [] _
    simp only [r_Model_step_0, r_Model_step_1, r_Model_step_4, r_Model_step_7, r_Model_step_8, r_Model_step_10, r_Model_step_13, r_Model_step_14, r_Model_step_15, r_Model_step_16, r_Model_step_19, r_Model_step_20, r_Model_step_21, r_Model_step_22, r_Model_step_25, r_Model_step_28, r_Model_step_29, r_Model_step_32, r_Model_step_33, r_Model_step_35, r_Model_step_37, r_Model_step_40, r_Model_step_41, r_Model_step_44, r_Model_step_45, r_Model_step_46, r_Model_step_47, r_Model_step_50, r_Model_step_51, r_Model_step_53, r_Model_step_56, r_Model_step_59, r_Model_step_61, r_Model_step_64, r_Model_step_65, r_Model_step_68, r_Model_step_69, r_Model_step_70, r_Model_step_71, r_Model_step_74, r_Model_step_75, r_Model_step_77, r_Model_step_80, r_Model_step_81, r_Model_step_83, r_Model_step_86, r_Model_step_87, r_Model_step_89, r_Model_step_92, r_Model_step_93, r_Model_step_96, r_Model_step_97, r_Model_step_100, r_Model_step_101, r_Model_step_102, r_Model_step_105, r_Model_step_106, r_Model_step_107, r_Model_step_108, r_Model_step_109, r_Model_step_110, r_Model_step_111, r_Model_step_112, r_Model_step_113, r_Model_step_114, r_Model_step_115, r_Model_step_118, r_Model_step_119, r_Model_step_120, r_Model_step_121, r_Model_step_124, r_Model_step_126, r_Model_step_129, r_Model_step_130, r_Model_step_131, r_Model_step_134, r_Model_step_137, r_Model_step_138, r_Model_step_140, r_Model_step_143, r_Model_step_144, r_Model_step_147, r_Model_step_148, r_Model_step_149, r_Model_step_152, r_Model_step_153, r_Model_step_156, r_Model_step_157, r_Model_step_158, r_Model_step_159, r_Model_step_160, r_Model_step_161, r_Model_step_162, r_Model_step_163, r_Model_step_164, r_Model_step_165, r_Model_step_167, r_Model_step_170, r_Model_step_172, r_Model_step_175, r_Model_step_177, r_Model_step_180, r_Model_step_181, r_Model_step_184, r_Model_step_185, r_Model_step_188, r_Model_step_189, r_Model_step_192, r_Model_step_193, r_Model_step_194, r_Model_step_195, r_Model_step_196, r_Model_step_197, r_Model_step_200, r_Model_step_201, r_Model_step_202, r_Model_step_203, r_Model_step_204, r_Model_step_207, r_Model_step_208, r_Model_step_209, r_Model_step_210, r_Model_step_211, r_Model_step_212, r_Model_step_213, r_Model_step_214, r_Model_step_215, r_Model_step_218, r_Model_step_219, r_Model_step_220, r_Model_step_221, r_Model_step_224, r_Model_step_225, r_Model_step_227, r_Model_step_230, r_Model_step_231, r_Model_step_233, r_Model_step_236, r_Model_step_239, r_Model_step_240, r_Model_step_243, r_Model_step_244, r_Model_step_245, r_Model_step_246, r_Model_step_249, r_Model_step_250, r_Model_step_251, r_Model_step_254, r_Model_step_255, r_Model_step_256, r_Model_step_259, r_Model_step_262, r_Model_step_263, r_Model_step_264, r_Model_step_267, r_Model_step_268, ai_iload, ai_const, ai_cmpne, ai_aload, ai_callv2, am_push, am_few, ai_iret, ai_irem, ai_istore, am_cut_0, am_cut_s, am_c1, ai_cmplt, ai_goto, ai_ifeq, ai_getf, ai_iald, ai_cmpeq, ai_iast, ai_iadd, ai_bin, ai_ifne, kd_0, fd_0_0, fd_0_1, fd_0_2, fd_0_3, fd_0_4, kd_1, fd_1_0, fd_1_1, ln_2, kd_3, fd_3_0, fd_3_1, fd_3_2, fd_3_3, fd_3_4, fd_3_5, fd_3_6, fd_3_7, fd_3_8, fd_3_9, ln_4, ln_5, ln_6, ln_7, ln_8, ln_9, ln_10, kd_11, fd_11_0, fd_11_1, fd_11_2, fd_11_3, fd_11_4, kd_12, fd_12_0, fd_12_1, fd_12_2, fd_12_3, ln_13, ln_14, ln_15, kd_16, fd_16_0, fd_16_1, fd_16_2, ln_17, kd_18, fd_18_0, fd_18_1, kd_19, fd_19_0, fd_19_1, fd_19_2, fd_19_3, fd_19_4, fd_19_5, fd_19_6, fd_19_7, fd_19_8, fd_19_9, fd_19_10, fd_19_11, fd_19_12, fd_19_13, fd_19_14, fd_19_15, fd_19_16, fd_19_17, fd_19_18, fd_19_19, fd_19_20, ln_20, ln_21, ln_22, ln_23, ln_24, ln_25, ln_26, ln_27, ln_28, ln_29, ln_30, ln_31, ln_32, List.getElem?_cons_zero, List.getElem?_cons_succ, List.set_cons_zero, List.set_cons_succ, true_and, and_true, ↓reduceIte, Int32.reduceLT, Int32.reduceLE, li_10, or_true, true_or, ↓sp_Model_isQuote0, c0, l1000, er, c1, vx, cx, c4', ht, hc, hex, not_false_eq_true]
    intro b hb
    cases b
    · have b0 : (b2 false = 0) = True := eq_true rfl
      simp only [r_Model_step_0, r_Model_step_1, r_Model_step_4, r_Model_step_7, r_Model_step_8, r_Model_step_10, r_Model_step_13, r_Model_step_14, r_Model_step_15, r_Model_step_16, r_Model_step_19, r_Model_step_20, r_Model_step_21, r_Model_step_22, r_Model_step_25, r_Model_step_28, r_Model_step_29, r_Model_step_32, r_Model_step_33, r_Model_step_35, r_Model_step_37, r_Model_step_40, r_Model_step_41, r_Model_step_44, r_Model_step_45, r_Model_step_46, r_Model_step_47, r_Model_step_50, r_Model_step_51, r_Model_step_53, r_Model_step_56, r_Model_step_59, r_Model_step_61, r_Model_step_64, r_Model_step_65, r_Model_step_68, r_Model_step_69, r_Model_step_70, r_Model_step_71, r_Model_step_74, r_Model_step_75, r_Model_step_77, r_Model_step_80, r_Model_step_81, r_Model_step_83, r_Model_step_86, r_Model_step_87, r_Model_step_89, r_Model_step_92, r_Model_step_93, r_Model_step_96, r_Model_step_97, r_Model_step_100, r_Model_step_101, r_Model_step_102, r_Model_step_105, r_Model_step_106, r_Model_step_107, r_Model_step_108, r_Model_step_109, r_Model_step_110, r_Model_step_111, r_Model_step_112, r_Model_step_113, r_Model_step_114, r_Model_step_115, r_Model_step_118, r_Model_step_119, r_Model_step_120, r_Model_step_121, r_Model_step_124, r_Model_step_126, r_Model_step_129, r_Model_step_130, r_Model_step_131, r_Model_step_134, r_Model_step_137, r_Model_step_138, r_Model_step_140, r_Model_step_143, r_Model_step_144, r_Model_step_147, r_Model_step_148, r_Model_step_149, r_Model_step_152, r_Model_step_153, r_Model_step_156, r_Model_step_157, r_Model_step_158, r_Model_step_159, r_Model_step_160, r_Model_step_161, r_Model_step_162, r_Model_step_163, r_Model_step_164, r_Model_step_165, r_Model_step_167, r_Model_step_170, r_Model_step_172, r_Model_step_175, r_Model_step_177, r_Model_step_180, r_Model_step_181, r_Model_step_184, r_Model_step_185, r_Model_step_188, r_Model_step_189, r_Model_step_192, r_Model_step_193, r_Model_step_194, r_Model_step_195, r_Model_step_196, r_Model_step_197, r_Model_step_200, r_Model_step_201, r_Model_step_202, r_Model_step_203, r_Model_step_204, r_Model_step_207, r_Model_step_208, r_Model_step_209, r_Model_step_210, r_Model_step_211, r_Model_step_212, r_Model_step_213, r_Model_step_214, r_Model_step_215, r_Model_step_218, r_Model_step_219, r_Model_step_220, r_Model_step_221, r_Model_step_224, r_Model_step_225, r_Model_step_227, r_Model_step_230, r_Model_step_231, r_Model_step_233, r_Model_step_236, r_Model_step_239, r_Model_step_240, r_Model_step_243, r_Model_step_244, r_Model_step_245, r_Model_step_246, r_Model_step_249, r_Model_step_250, r_Model_step_251, r_Model_step_254, r_Model_step_255, r_Model_step_256, r_Model_step_259, r_Model_step_262, r_Model_step_263, r_Model_step_264, r_Model_step_267, r_Model_step_268, ai_iload, ai_const, ai_cmpne, ai_aload, ai_callv2, am_push, am_few, ai_iret, ai_irem, ai_istore, am_cut_0, am_cut_s, am_c1, ai_cmplt, ai_goto, ai_ifeq, ai_getf, ai_iald, ai_cmpeq, ai_iast, ai_iadd, ai_bin, ai_ifne, kd_0, fd_0_0, fd_0_1, fd_0_2, fd_0_3, fd_0_4, kd_1, fd_1_0, fd_1_1, ln_2, kd_3, fd_3_0, fd_3_1, fd_3_2, fd_3_3, fd_3_4, fd_3_5, fd_3_6, fd_3_7, fd_3_8, fd_3_9, ln_4, ln_5, ln_6, ln_7, ln_8, ln_9, ln_10, kd_11, fd_11_0, fd_11_1, fd_11_2, fd_11_3, fd_11_4, kd_12, fd_12_0, fd_12_1, fd_12_2, fd_12_3, ln_13, ln_14, ln_15, kd_16, fd_16_0, fd_16_1, fd_16_2, ln_17, kd_18, fd_18_0, fd_18_1, kd_19, fd_19_0, fd_19_1, fd_19_2, fd_19_3, fd_19_4, fd_19_5, fd_19_6, fd_19_7, fd_19_8, fd_19_9, fd_19_10, fd_19_11, fd_19_12, fd_19_13, fd_19_14, fd_19_15, fd_19_16, fd_19_17, fd_19_18, fd_19_19, fd_19_20, ln_20, ln_21, ln_22, ln_23, ln_24, ln_25, ln_26, ln_27, ln_28, ln_29, ln_30, ln_31, ln_32, List.getElem?_cons_zero, List.getElem?_cons_succ, List.set_cons_zero, List.set_cons_succ, true_and, and_true, ↓reduceIte, Int32.reduceLT, Int32.reduceLE, li_10, or_true, true_or, ↓sp_Model_say, b0, vx, cx, hw, s1, s24, s25, eh, et, e1000, vm, cm, vm1, cm1, nI_1, em2, am_up_ap, Nat.reduceEqDiff, not_false_eq_true]
      refine st_two h (m_say_rel hw) (Or.inr (Or.inl ⟨t1, rfl, a4, by omega⟩)) (Or.inl ⟨h1, rfl, a2, by omega⟩) ?_
      rw [wgt_r (by omega), wgt_p (by omega), hwg]
      omega
    · have b1 : ¬ b2 true = 0 := by decide
      have ht4 : M 21 t1 = 4 := by
        have := hb rfl
        rw [et] at this
        rw [← ct]
        exact this
      obtain ⟨h2, t2, eh2, et2, d1, d2, d3, d4⟩ := (ht t1 a4).2.2 ht4
      have p3 := pw_8 (show x < h2 by omega) (by omega)
      simp only [r_Model_step_0, r_Model_step_1, r_Model_step_4, r_Model_step_7, r_Model_step_8, r_Model_step_10, r_Model_step_13, r_Model_step_14, r_Model_step_15, r_Model_step_16, r_Model_step_19, r_Model_step_20, r_Model_step_21, r_Model_step_22, r_Model_step_25, r_Model_step_28, r_Model_step_29, r_Model_step_32, r_Model_step_33, r_Model_step_35, r_Model_step_37, r_Model_step_40, r_Model_step_41, r_Model_step_44, r_Model_step_45, r_Model_step_46, r_Model_step_47, r_Model_step_50, r_Model_step_51, r_Model_step_53, r_Model_step_56, r_Model_step_59, r_Model_step_61, r_Model_step_64, r_Model_step_65, r_Model_step_68, r_Model_step_69, r_Model_step_70, r_Model_step_71, r_Model_step_74, r_Model_step_75, r_Model_step_77, r_Model_step_80, r_Model_step_81, r_Model_step_83, r_Model_step_86, r_Model_step_87, r_Model_step_89, r_Model_step_92, r_Model_step_93, r_Model_step_96, r_Model_step_97, r_Model_step_100, r_Model_step_101, r_Model_step_102, r_Model_step_105, r_Model_step_106, r_Model_step_107, r_Model_step_108, r_Model_step_109, r_Model_step_110, r_Model_step_111, r_Model_step_112, r_Model_step_113, r_Model_step_114, r_Model_step_115, r_Model_step_118, r_Model_step_119, r_Model_step_120, r_Model_step_121, r_Model_step_124, r_Model_step_126, r_Model_step_129, r_Model_step_130, r_Model_step_131, r_Model_step_134, r_Model_step_137, r_Model_step_138, r_Model_step_140, r_Model_step_143, r_Model_step_144, r_Model_step_147, r_Model_step_148, r_Model_step_149, r_Model_step_152, r_Model_step_153, r_Model_step_156, r_Model_step_157, r_Model_step_158, r_Model_step_159, r_Model_step_160, r_Model_step_161, r_Model_step_162, r_Model_step_163, r_Model_step_164, r_Model_step_165, r_Model_step_167, r_Model_step_170, r_Model_step_172, r_Model_step_175, r_Model_step_177, r_Model_step_180, r_Model_step_181, r_Model_step_184, r_Model_step_185, r_Model_step_188, r_Model_step_189, r_Model_step_192, r_Model_step_193, r_Model_step_194, r_Model_step_195, r_Model_step_196, r_Model_step_197, r_Model_step_200, r_Model_step_201, r_Model_step_202, r_Model_step_203, r_Model_step_204, r_Model_step_207, r_Model_step_208, r_Model_step_209, r_Model_step_210, r_Model_step_211, r_Model_step_212, r_Model_step_213, r_Model_step_214, r_Model_step_215, r_Model_step_218, r_Model_step_219, r_Model_step_220, r_Model_step_221, r_Model_step_224, r_Model_step_225, r_Model_step_227, r_Model_step_230, r_Model_step_231, r_Model_step_233, r_Model_step_236, r_Model_step_239, r_Model_step_240, r_Model_step_243, r_Model_step_244, r_Model_step_245, r_Model_step_246, r_Model_step_249, r_Model_step_250, r_Model_step_251, r_Model_step_254, r_Model_step_255, r_Model_step_256, r_Model_step_259, r_Model_step_262, r_Model_step_263, r_Model_step_264, r_Model_step_267, r_Model_step_268, ai_iload, ai_const, ai_cmpne, ai_aload, ai_callv2, am_push, am_few, ai_iret, ai_irem, ai_istore, am_cut_0, am_cut_s, am_c1, ai_cmplt, ai_goto, ai_ifeq, ai_getf, ai_iald, ai_cmpeq, ai_iast, ai_iadd, ai_bin, ai_ifne, kd_0, fd_0_0, fd_0_1, fd_0_2, fd_0_3, fd_0_4, kd_1, fd_1_0, fd_1_1, ln_2, kd_3, fd_3_0, fd_3_1, fd_3_2, fd_3_3, fd_3_4, fd_3_5, fd_3_6, fd_3_7, fd_3_8, fd_3_9, ln_4, ln_5, ln_6, ln_7, ln_8, ln_9, ln_10, kd_11, fd_11_0, fd_11_1, fd_11_2, fd_11_3, fd_11_4, kd_12, fd_12_0, fd_12_1, fd_12_2, fd_12_3, ln_13, ln_14, ln_15, kd_16, fd_16_0, fd_16_1, fd_16_2, ln_17, kd_18, fd_18_0, fd_18_1, kd_19, fd_19_0, fd_19_1, fd_19_2, fd_19_3, fd_19_4, fd_19_5, fd_19_6, fd_19_7, fd_19_8, fd_19_9, fd_19_10, fd_19_11, fd_19_12, fd_19_13, fd_19_14, fd_19_15, fd_19_16, fd_19_17, fd_19_18, fd_19_19, fd_19_20, ln_20, ln_21, ln_22, ln_23, ln_24, ln_25, ln_26, ln_27, ln_28, ln_29, ln_30, ln_31, ln_32, List.getElem?_cons_zero, List.getElem?_cons_succ, List.set_cons_zero, List.set_cons_succ, true_and, and_true, ↓reduceIte, Int32.reduceLT, Int32.reduceLE, li_10, or_true, true_or, ↓sp_Model_say, b1, vx, cx, hw, s24, s25, et, vt, ct, eh2, vm, cm, nI_1, not_false_eq_true]
      refine st_one h (m_say_rel hw) (Or.inl ⟨h2, rfl, d2, by omega⟩) ?_
      rw [wgt_p (by omega), hwg]
      have := pw_8p h2 (by omega)
      omega
  by_cases c5 : M 21 x = 5
  · have c5' : (M 21 x = 5) = True := eq_true c5
    have r1 := m_say_rel (b := 40) hw
    have w1 := r1.2.2
    refine am_entry hG (by decide +kernel) (Nat.le_of_ble_eq_true rfl) ?_
    refine am_go (cuts := k_Model_step) (tb_Model_step (ok_Model_say hG) (by decide) (ok_Model_isQuote0 hG) (by decide) (ok_Model_number0 hG) (by decide) (ok_Model_letters0 hG) (by decide)) 400 _ _ _ _ ?_
    change am_run _ _ _ _ _ _ [some (.ref 19), some (.int (nI x)), some (.int (nI mm)), none, none] [] _
    simp only [r_Model_step_0, r_Model_step_1, r_Model_step_4, r_Model_step_7, r_Model_step_8, r_Model_step_10, r_Model_step_13, r_Model_step_14, r_Model_step_15, r_Model_step_16, r_Model_step_19, r_Model_step_20, r_Model_step_21, r_Model_step_22, r_Model_step_25, r_Model_step_28, r_Model_step_29, r_Model_step_32, r_Model_step_33, r_Model_step_35, r_Model_step_37, r_Model_step_40, r_Model_step_41, r_Model_step_44, r_Model_step_45, r_Model_step_46, r_Model_step_47, r_Model_step_50, r_Model_step_51, r_Model_step_53, r_Model_step_56, r_Model_step_59, r_Model_step_61, r_Model_step_64, r_Model_step_65, r_Model_step_68, r_Model_step_69, r_Model_step_70, r_Model_step_71, r_Model_step_74, r_Model_step_75, r_Model_step_77, r_Model_step_80, r_Model_step_81, r_Model_step_83, r_Model_step_86, r_Model_step_87, r_Model_step_89, r_Model_step_92, r_Model_step_93, r_Model_step_96, r_Model_step_97, r_Model_step_100, r_Model_step_101, r_Model_step_102, r_Model_step_105, r_Model_step_106, r_Model_step_107, r_Model_step_108, r_Model_step_109, r_Model_step_110, r_Model_step_111, r_Model_step_112, r_Model_step_113, r_Model_step_114, r_Model_step_115, r_Model_step_118, r_Model_step_119, r_Model_step_120, r_Model_step_121, r_Model_step_124, r_Model_step_126, r_Model_step_129, r_Model_step_130, r_Model_step_131, r_Model_step_134, r_Model_step_137, r_Model_step_138, r_Model_step_140, r_Model_step_143, r_Model_step_144, r_Model_step_147, r_Model_step_148, r_Model_step_149, r_Model_step_152, r_Model_step_153, r_Model_step_156, r_Model_step_157, r_Model_step_158, r_Model_step_159, r_Model_step_160, r_Model_step_161, r_Model_step_162, r_Model_step_163, r_Model_step_164, r_Model_step_165, r_Model_step_167, r_Model_step_170, r_Model_step_172, r_Model_step_175, r_Model_step_177, r_Model_step_180, r_Model_step_181, r_Model_step_184, r_Model_step_185, r_Model_step_188, r_Model_step_189, r_Model_step_192, r_Model_step_193, r_Model_step_194, r_Model_step_195, r_Model_step_196, r_Model_step_197, r_Model_step_200, r_Model_step_201, r_Model_step_202, r_Model_step_203, r_Model_step_204, r_Model_step_207, r_Model_step_208, r_Model_step_209, r_Model_step_210, r_Model_step_211, r_Model_step_212, r_Model_step_213, r_Model_step_214, r_Model_step_215, r_Model_step_218, r_Model_step_219, r_Model_step_220, r_Model_step_221, r_Model_step_224, r_Model_step_225, r_Model_step_227, r_Model_step_230, r_Model_step_231, r_Model_step_233, r_Model_step_236, r_Model_step_239, r_Model_step_240, r_Model_step_243, r_Model_step_244, r_Model_step_245, r_Model_step_246, r_Model_step_249, r_Model_step_250, r_Model_step_251, r_Model_step_254, r_Model_step_255, r_Model_step_256, r_Model_step_259, r_Model_step_262, r_Model_step_263, r_Model_step_264, r_Model_step_267, r_Model_step_268, ai_iload, ai_const, ai_cmpne, ai_aload, ai_callv2, am_push, am_few, ai_iret, ai_irem, ai_istore, am_cut_0, am_cut_s, am_c1, ai_cmplt, ai_goto, ai_ifeq, ai_getf, ai_iald, ai_cmpeq, ai_iast, ai_iadd, ai_bin, ai_ifne, kd_0, fd_0_0, fd_0_1, fd_0_2, fd_0_3, fd_0_4, kd_1, fd_1_0, fd_1_1, ln_2, kd_3, fd_3_0, fd_3_1, fd_3_2, fd_3_3, fd_3_4, fd_3_5, fd_3_6, fd_3_7, fd_3_8, fd_3_9, ln_4, ln_5, ln_6, ln_7, ln_8, ln_9, ln_10, kd_11, fd_11_0, fd_11_1, fd_11_2, fd_11_3, fd_11_4, kd_12, fd_12_0, fd_12_1, fd_12_2, fd_12_3, ln_13, ln_14, ln_15, kd_16, fd_16_0, fd_16_1, fd_16_2, ln_17, kd_18, fd_18_0, fd_18_1, kd_19, fd_19_0, fd_19_1, fd_19_2, fd_19_3, fd_19_4, fd_19_5, fd_19_6, fd_19_7, fd_19_8, fd_19_9, fd_19_10, fd_19_11, fd_19_12, fd_19_13, fd_19_14, fd_19_15, fd_19_16, fd_19_17, fd_19_18, fd_19_19, fd_19_20, ln_20, ln_21, ln_22, ln_23, ln_24, ln_25, ln_26, ln_27, ln_28, ln_29, ln_30, ln_31, ln_32, List.getElem?_cons_zero, List.getElem?_cons_succ, List.set_cons_zero, List.set_cons_succ, true_and, and_true, ↓reduceIte, Int32.reduceLT, Int32.reduceLE, li_10, or_true, true_or, ↓sp_Model_say, c0, l1000, er, c1, vx, cx, c4, c5', hw, w1, not_false_eq_true]
    exact st_none h (r1.tr (m_say_rel w1)) (by omega)
  by_cases c9 : M 21 x = 1
  · have c9' : (M 21 x = 1) = True := eq_true c9
    refine am_entry hG (by decide +kernel) (Nat.le_of_ble_eq_true rfl) ?_
    refine am_go (cuts := k_Model_step) (tb_Model_step (ok_Model_say hG) (by decide) (ok_Model_isQuote0 hG) (by decide) (ok_Model_number0 hG) (by decide) (ok_Model_letters0 hG) (by decide)) 400 _ _ _ _ ?_
    change am_run _ _ _ _ _ _ [some (.ref 19), some (.int (nI x)), some (.int (nI mm)), none, none] [] _
    simp only [r_Model_step_0, r_Model_step_1, r_Model_step_4, r_Model_step_7, r_Model_step_8, r_Model_step_10, r_Model_step_13, r_Model_step_14, r_Model_step_15, r_Model_step_16, r_Model_step_19, r_Model_step_20, r_Model_step_21, r_Model_step_22, r_Model_step_25, r_Model_step_28, r_Model_step_29, r_Model_step_32, r_Model_step_33, r_Model_step_35, r_Model_step_37, r_Model_step_40, r_Model_step_41, r_Model_step_44, r_Model_step_45, r_Model_step_46, r_Model_step_47, r_Model_step_50, r_Model_step_51, r_Model_step_53, r_Model_step_56, r_Model_step_59, r_Model_step_61, r_Model_step_64, r_Model_step_65, r_Model_step_68, r_Model_step_69, r_Model_step_70, r_Model_step_71, r_Model_step_74, r_Model_step_75, r_Model_step_77, r_Model_step_80, r_Model_step_81, r_Model_step_83, r_Model_step_86, r_Model_step_87, r_Model_step_89, r_Model_step_92, r_Model_step_93, r_Model_step_96, r_Model_step_97, r_Model_step_100, r_Model_step_101, r_Model_step_102, r_Model_step_105, r_Model_step_106, r_Model_step_107, r_Model_step_108, r_Model_step_109, r_Model_step_110, r_Model_step_111, r_Model_step_112, r_Model_step_113, r_Model_step_114, r_Model_step_115, r_Model_step_118, r_Model_step_119, r_Model_step_120, r_Model_step_121, r_Model_step_124, r_Model_step_126, r_Model_step_129, r_Model_step_130, r_Model_step_131, r_Model_step_134, r_Model_step_137, r_Model_step_138, r_Model_step_140, r_Model_step_143, r_Model_step_144, r_Model_step_147, r_Model_step_148, r_Model_step_149, r_Model_step_152, r_Model_step_153, r_Model_step_156, r_Model_step_157, r_Model_step_158, r_Model_step_159, r_Model_step_160, r_Model_step_161, r_Model_step_162, r_Model_step_163, r_Model_step_164, r_Model_step_165, r_Model_step_167, r_Model_step_170, r_Model_step_172, r_Model_step_175, r_Model_step_177, r_Model_step_180, r_Model_step_181, r_Model_step_184, r_Model_step_185, r_Model_step_188, r_Model_step_189, r_Model_step_192, r_Model_step_193, r_Model_step_194, r_Model_step_195, r_Model_step_196, r_Model_step_197, r_Model_step_200, r_Model_step_201, r_Model_step_202, r_Model_step_203, r_Model_step_204, r_Model_step_207, r_Model_step_208, r_Model_step_209, r_Model_step_210, r_Model_step_211, r_Model_step_212, r_Model_step_213, r_Model_step_214, r_Model_step_215, r_Model_step_218, r_Model_step_219, r_Model_step_220, r_Model_step_221, r_Model_step_224, r_Model_step_225, r_Model_step_227, r_Model_step_230, r_Model_step_231, r_Model_step_233, r_Model_step_236, r_Model_step_239, r_Model_step_240, r_Model_step_243, r_Model_step_244, r_Model_step_245, r_Model_step_246, r_Model_step_249, r_Model_step_250, r_Model_step_251, r_Model_step_254, r_Model_step_255, r_Model_step_256, r_Model_step_259, r_Model_step_262, r_Model_step_263, r_Model_step_264, r_Model_step_267, r_Model_step_268, ai_iload, ai_const, ai_cmpne, ai_aload, ai_callv2, am_push, am_few, ai_iret, ai_irem, ai_istore, am_cut_0, am_cut_s, am_c1, ai_cmplt, ai_goto, ai_ifeq, ai_getf, ai_iald, ai_cmpeq, ai_iast, ai_iadd, ai_bin, ai_ifne, kd_0, fd_0_0, fd_0_1, fd_0_2, fd_0_3, fd_0_4, kd_1, fd_1_0, fd_1_1, ln_2, kd_3, fd_3_0, fd_3_1, fd_3_2, fd_3_3, fd_3_4, fd_3_5, fd_3_6, fd_3_7, fd_3_8, fd_3_9, ln_4, ln_5, ln_6, ln_7, ln_8, ln_9, ln_10, kd_11, fd_11_0, fd_11_1, fd_11_2, fd_11_3, fd_11_4, kd_12, fd_12_0, fd_12_1, fd_12_2, fd_12_3, ln_13, ln_14, ln_15, kd_16, fd_16_0, fd_16_1, fd_16_2, ln_17, kd_18, fd_18_0, fd_18_1, kd_19, fd_19_0, fd_19_1, fd_19_2, fd_19_3, fd_19_4, fd_19_5, fd_19_6, fd_19_7, fd_19_8, fd_19_9, fd_19_10, fd_19_11, fd_19_12, fd_19_13, fd_19_14, fd_19_15, fd_19_16, fd_19_17, fd_19_18, fd_19_19, fd_19_20, ln_20, ln_21, ln_22, ln_23, ln_24, ln_25, ln_26, ln_27, ln_28, ln_29, ln_30, ln_31, ln_32, List.getElem?_cons_zero, List.getElem?_cons_succ, List.set_cons_zero, List.set_cons_succ, true_and, and_true, ↓reduceIte, Int32.reduceLT, Int32.reduceLE, li_10, or_true, true_or, ↓sp_Model_number0, c0, l1000, er, c1, vx, cx, c4, c5, c9', hw, not_false_eq_true]
    exact fun N hN => st_none h hN (by omega)
  · have hk := (ht x hx).1
    have hv : ∃ v, v ≤ 20 ∧ M 22 x = nI v := by
      apply (ht x hx).2.1
      rcases hk with q | q | q | q | q
      · exact absurd q c9
      · exact Or.inl q
      · exact Or.inr q
      · exact absurd q c4
      · exact absurd q c5
    obtain ⟨v, hv1, hv2⟩ := hv
    have hex : (∃ y v, y < 200 ∧ nI x = nI y ∧ v ≤ 20 ∧ M 22 y = nI v) = True := eq_true ⟨x, v, by omega, rfl, hv1, hv2⟩
    refine am_entry hG (by decide +kernel) (Nat.le_of_ble_eq_true rfl) ?_
    refine am_go (cuts := k_Model_step) (tb_Model_step (ok_Model_say hG) (by decide) (ok_Model_isQuote0 hG) (by decide) (ok_Model_number0 hG) (by decide) (ok_Model_letters0 hG) (by decide)) 400 _ _ _ _ ?_
    change am_run _ _ _ _ _ _ [some (.ref 19), some (.int (nI x)), some (.int (nI mm)), none, none] [] _
    simp only [r_Model_step_0, r_Model_step_1, r_Model_step_4, r_Model_step_7, r_Model_step_8, r_Model_step_10, r_Model_step_13, r_Model_step_14, r_Model_step_15, r_Model_step_16, r_Model_step_19, r_Model_step_20, r_Model_step_21, r_Model_step_22, r_Model_step_25, r_Model_step_28, r_Model_step_29, r_Model_step_32, r_Model_step_33, r_Model_step_35, r_Model_step_37, r_Model_step_40, r_Model_step_41, r_Model_step_44, r_Model_step_45, r_Model_step_46, r_Model_step_47, r_Model_step_50, r_Model_step_51, r_Model_step_53, r_Model_step_56, r_Model_step_59, r_Model_step_61, r_Model_step_64, r_Model_step_65, r_Model_step_68, r_Model_step_69, r_Model_step_70, r_Model_step_71, r_Model_step_74, r_Model_step_75, r_Model_step_77, r_Model_step_80, r_Model_step_81, r_Model_step_83, r_Model_step_86, r_Model_step_87, r_Model_step_89, r_Model_step_92, r_Model_step_93, r_Model_step_96, r_Model_step_97, r_Model_step_100, r_Model_step_101, r_Model_step_102, r_Model_step_105, r_Model_step_106, r_Model_step_107, r_Model_step_108, r_Model_step_109, r_Model_step_110, r_Model_step_111, r_Model_step_112, r_Model_step_113, r_Model_step_114, r_Model_step_115, r_Model_step_118, r_Model_step_119, r_Model_step_120, r_Model_step_121, r_Model_step_124, r_Model_step_126, r_Model_step_129, r_Model_step_130, r_Model_step_131, r_Model_step_134, r_Model_step_137, r_Model_step_138, r_Model_step_140, r_Model_step_143, r_Model_step_144, r_Model_step_147, r_Model_step_148, r_Model_step_149, r_Model_step_152, r_Model_step_153, r_Model_step_156, r_Model_step_157, r_Model_step_158, r_Model_step_159, r_Model_step_160, r_Model_step_161, r_Model_step_162, r_Model_step_163, r_Model_step_164, r_Model_step_165, r_Model_step_167, r_Model_step_170, r_Model_step_172, r_Model_step_175, r_Model_step_177, r_Model_step_180, r_Model_step_181, r_Model_step_184, r_Model_step_185, r_Model_step_188, r_Model_step_189, r_Model_step_192, r_Model_step_193, r_Model_step_194, r_Model_step_195, r_Model_step_196, r_Model_step_197, r_Model_step_200, r_Model_step_201, r_Model_step_202, r_Model_step_203, r_Model_step_204, r_Model_step_207, r_Model_step_208, r_Model_step_209, r_Model_step_210, r_Model_step_211, r_Model_step_212, r_Model_step_213, r_Model_step_214, r_Model_step_215, r_Model_step_218, r_Model_step_219, r_Model_step_220, r_Model_step_221, r_Model_step_224, r_Model_step_225, r_Model_step_227, r_Model_step_230, r_Model_step_231, r_Model_step_233, r_Model_step_236, r_Model_step_239, r_Model_step_240, r_Model_step_243, r_Model_step_244, r_Model_step_245, r_Model_step_246, r_Model_step_249, r_Model_step_250, r_Model_step_251, r_Model_step_254, r_Model_step_255, r_Model_step_256, r_Model_step_259, r_Model_step_262, r_Model_step_263, r_Model_step_264, r_Model_step_267, r_Model_step_268, ai_iload, ai_const, ai_cmpne, ai_aload, ai_callv2, am_push, am_few, ai_iret, ai_irem, ai_istore, am_cut_0, am_cut_s, am_c1, ai_cmplt, ai_goto, ai_ifeq, ai_getf, ai_iald, ai_cmpeq, ai_iast, ai_iadd, ai_bin, ai_ifne, kd_0, fd_0_0, fd_0_1, fd_0_2, fd_0_3, fd_0_4, kd_1, fd_1_0, fd_1_1, ln_2, kd_3, fd_3_0, fd_3_1, fd_3_2, fd_3_3, fd_3_4, fd_3_5, fd_3_6, fd_3_7, fd_3_8, fd_3_9, ln_4, ln_5, ln_6, ln_7, ln_8, ln_9, ln_10, kd_11, fd_11_0, fd_11_1, fd_11_2, fd_11_3, fd_11_4, kd_12, fd_12_0, fd_12_1, fd_12_2, fd_12_3, ln_13, ln_14, ln_15, kd_16, fd_16_0, fd_16_1, fd_16_2, ln_17, kd_18, fd_18_0, fd_18_1, kd_19, fd_19_0, fd_19_1, fd_19_2, fd_19_3, fd_19_4, fd_19_5, fd_19_6, fd_19_7, fd_19_8, fd_19_9, fd_19_10, fd_19_11, fd_19_12, fd_19_13, fd_19_14, fd_19_15, fd_19_16, fd_19_17, fd_19_18, fd_19_19, fd_19_20, ln_20, ln_21, ln_22, ln_23, ln_24, ln_25, ln_26, ln_27, ln_28, ln_29, ln_30, ln_31, ln_32, List.getElem?_cons_zero, List.getElem?_cons_succ, List.set_cons_zero, List.set_cons_succ, true_and, and_true, ↓reduceIte, Int32.reduceLT, Int32.reduceLE, li_10, or_true, true_or, ↓sp_Model_letters0, c0, l1000, er, c1, vx, cx, c4, c5, c9, hw, hex, not_false_eq_true]
    exact fun N hN => st_none h hN (by omega)
set_option maxRecDepth 100000 in
set_option maxHeartbeats 4000000 in
theorem ok_Model_step0 {G : aG} (hG : am_ok G) : am_Sp G Y_Model_step 5 sp_Model_step0 := by
  intro as M K h
  unfold sp_Model_step0 at h
  split at h
  · next a w m =>
    obtain ⟨rfl, ⟨ht, hc, hw, em, hm, he⟩, h⟩ := h
    rw [em]
    rcases he with ⟨x, rfl, hx, hj⟩ | ⟨x, rfl, hx, hj⟩ | ⟨rfl, hj⟩
    · exact ok_step_plain hG ht hc hw hx hj h
    · exact ok_step_rest hG ht hc hw hx hj h
    · have l2000 : ((2000 : Int32) = 2000) = True := eq_true rfl
      refine am_entry hG (by decide +kernel) (Nat.le_of_ble_eq_true rfl) ?_
      refine am_go (cuts := k_Model_step) (tb_Model_step (ok_Model_say hG) (by decide) (ok_Model_isQuote0 hG) (by decide) (ok_Model_number0 hG) (by decide) (ok_Model_letters0 hG) (by decide)) 400 _ _ _ _ ?_
      change am_run _ _ _ _ _ _ [some (.ref 19), some (.int 2000), some (.int (nI (cl m))), none, none] [] _
      simp only [r_Model_step_0, r_Model_step_1, r_Model_step_4, r_Model_step_7, r_Model_step_8, r_Model_step_10, r_Model_step_13, r_Model_step_14, r_Model_step_15, r_Model_step_16, r_Model_step_19, r_Model_step_20, r_Model_step_21, r_Model_step_22, r_Model_step_25, r_Model_step_28, r_Model_step_29, r_Model_step_32, r_Model_step_33, r_Model_step_35, r_Model_step_37, r_Model_step_40, r_Model_step_41, r_Model_step_44, r_Model_step_45, r_Model_step_46, r_Model_step_47, r_Model_step_50, r_Model_step_51, r_Model_step_53, r_Model_step_56, r_Model_step_59, r_Model_step_61, r_Model_step_64, r_Model_step_65, r_Model_step_68, r_Model_step_69, r_Model_step_70, r_Model_step_71, r_Model_step_74, r_Model_step_75, r_Model_step_77, r_Model_step_80, r_Model_step_81, r_Model_step_83, r_Model_step_86, r_Model_step_87, r_Model_step_89, r_Model_step_92, r_Model_step_93, r_Model_step_96, r_Model_step_97, r_Model_step_100, r_Model_step_101, r_Model_step_102, r_Model_step_105, r_Model_step_106, r_Model_step_107, r_Model_step_108, r_Model_step_109, r_Model_step_110, r_Model_step_111, r_Model_step_112, r_Model_step_113, r_Model_step_114, r_Model_step_115, r_Model_step_118, r_Model_step_119, r_Model_step_120, r_Model_step_121, r_Model_step_124, r_Model_step_126, r_Model_step_129, r_Model_step_130, r_Model_step_131, r_Model_step_134, r_Model_step_137, r_Model_step_138, r_Model_step_140, r_Model_step_143, r_Model_step_144, r_Model_step_147, r_Model_step_148, r_Model_step_149, r_Model_step_152, r_Model_step_153, r_Model_step_156, r_Model_step_157, r_Model_step_158, r_Model_step_159, r_Model_step_160, r_Model_step_161, r_Model_step_162, r_Model_step_163, r_Model_step_164, r_Model_step_165, r_Model_step_167, r_Model_step_170, r_Model_step_172, r_Model_step_175, r_Model_step_177, r_Model_step_180, r_Model_step_181, r_Model_step_184, r_Model_step_185, r_Model_step_188, r_Model_step_189, r_Model_step_192, r_Model_step_193, r_Model_step_194, r_Model_step_195, r_Model_step_196, r_Model_step_197, r_Model_step_200, r_Model_step_201, r_Model_step_202, r_Model_step_203, r_Model_step_204, r_Model_step_207, r_Model_step_208, r_Model_step_209, r_Model_step_210, r_Model_step_211, r_Model_step_212, r_Model_step_213, r_Model_step_214, r_Model_step_215, r_Model_step_218, r_Model_step_219, r_Model_step_220, r_Model_step_221, r_Model_step_224, r_Model_step_225, r_Model_step_227, r_Model_step_230, r_Model_step_231, r_Model_step_233, r_Model_step_236, r_Model_step_239, r_Model_step_240, r_Model_step_243, r_Model_step_244, r_Model_step_245, r_Model_step_246, r_Model_step_249, r_Model_step_250, r_Model_step_251, r_Model_step_254, r_Model_step_255, r_Model_step_256, r_Model_step_259, r_Model_step_262, r_Model_step_263, r_Model_step_264, r_Model_step_267, r_Model_step_268, ai_iload, ai_const, ai_cmpne, ai_aload, ai_callv2, am_push, am_few, ai_iret, ai_irem, ai_istore, am_cut_0, am_cut_s, am_c1, ai_cmplt, ai_goto, ai_ifeq, ai_getf, ai_iald, ai_cmpeq, ai_iast, ai_iadd, ai_bin, ai_ifne, kd_0, fd_0_0, fd_0_1, fd_0_2, fd_0_3, fd_0_4, kd_1, fd_1_0, fd_1_1, ln_2, kd_3, fd_3_0, fd_3_1, fd_3_2, fd_3_3, fd_3_4, fd_3_5, fd_3_6, fd_3_7, fd_3_8, fd_3_9, ln_4, ln_5, ln_6, ln_7, ln_8, ln_9, ln_10, kd_11, fd_11_0, fd_11_1, fd_11_2, fd_11_3, fd_11_4, kd_12, fd_12_0, fd_12_1, fd_12_2, fd_12_3, ln_13, ln_14, ln_15, kd_16, fd_16_0, fd_16_1, fd_16_2, ln_17, kd_18, fd_18_0, fd_18_1, kd_19, fd_19_0, fd_19_1, fd_19_2, fd_19_3, fd_19_4, fd_19_5, fd_19_6, fd_19_7, fd_19_8, fd_19_9, fd_19_10, fd_19_11, fd_19_12, fd_19_13, fd_19_14, fd_19_15, fd_19_16, fd_19_17, fd_19_18, fd_19_19, fd_19_20, ln_20, ln_21, ln_22, ln_23, ln_24, ln_25, ln_26, ln_27, ln_28, ln_29, ln_30, ln_31, ln_32, List.getElem?_cons_zero, List.getElem?_cons_succ, List.set_cons_zero, List.set_cons_succ, true_and, and_true, ↓reduceIte, Int32.reduceLT, Int32.reduceLE, li_10, or_true, true_or, ↓sp_Model_say, l2000, hw]
      exact st_none h (m_say_rel hw) (by rw [wgt_2]; decide)
  · cases h
def sp_Model_write0 : aS := fun as M K => match as with
  | [.ref a, .int x] => a = 19 ∧ (tr_ok M ∧ mc_ok M ∧ mw_ok M) ∧ ∀ N, wq_rel M N → K (some (.int (b2 (m_has M x)))) N
  | _ => False
theorem ent_lt {n j : Nat} {w : Int32} (hn : n ≤ 200) (h : ent n j w) : j < 200 := by
  rcases h with ⟨x, -, hx, hj⟩ | ⟨x, -, hx, hj⟩ | ⟨-, hj⟩ <;> omega
set_option maxRecDepth 100000 in
set_option maxHeartbeats 4000000 in
theorem lp_Model_write {G : aG} (hG : am_ok G) {K : aR} {M0 : aM} {x : Int32} (ht : tr_ok M0) (hc : mc_ok M0) (hK : ∀ N, wq_rel M0 N → K (some (.int 1)) N) : ∀ (k m : Nat) (M : aM), mu (M 31) m < k → wq_rel M0 M → (∀ j, j < m → ent (mN M0) j (M 31 j)) → am_X G Y_Model_write 6 K 19 [some (.ref 19), some (.int x), some (.int (nI m))] [] M := by
  intro k
  induction k with
  | zero =>
    intro m M h
    omega
  | succ k ih =>
    intro m M hmu hM hent
    have h200 := hc.2
    by_cases c : m = 0
    · subst c
      have z : nI 0 ≤ 0 := by decide
      refine am_from (tb_Model_write (ok_Model_isNode hG) (by decide) (ok_Model_step0 hG) (by decide)) k_Model_write 400 ?_
      simp only [q_Model_write_19, r_Model_write_0, r_Model_write_1, r_Model_write_2, r_Model_write_5, r_Model_write_8, r_Model_write_9, r_Model_write_10, r_Model_write_11, r_Model_write_14, r_Model_write_15, r_Model_write_16, r_Model_write_17, r_Model_write_18, r_Model_write_19, r_Model_write_20, r_Model_write_23, r_Model_write_24, r_Model_write_25, r_Model_write_28, r_Model_write_29, r_Model_write_30, r_Model_write_31, r_Model_write_32, r_Model_write_33, r_Model_write_34, r_Model_write_35, r_Model_write_38, r_Model_write_39, r_Model_write_42, r_Model_write_43, ai_aload, ai_iload, ai_callv2, am_push, am_few, ai_ifne, ai_const, ai_zret, ai_getf, ai_iast, ai_istore, am_cut_0, am_cut_s, am_c1, ai_ifle, ai_isub, ai_bin, ai_iald, ai_callv3, ai_goto, kd_0, fd_0_0, fd_0_1, fd_0_2, fd_0_3, fd_0_4, kd_1, fd_1_0, fd_1_1, ln_2, kd_3, fd_3_0, fd_3_1, fd_3_2, fd_3_3, fd_3_4, fd_3_5, fd_3_6, fd_3_7, fd_3_8, fd_3_9, ln_4, ln_5, ln_6, ln_7, ln_8, ln_9, ln_10, kd_11, fd_11_0, fd_11_1, fd_11_2, fd_11_3, fd_11_4, kd_12, fd_12_0, fd_12_1, fd_12_2, fd_12_3, ln_13, ln_14, ln_15, kd_16, fd_16_0, fd_16_1, fd_16_2, ln_17, kd_18, fd_18_0, fd_18_1, kd_19, fd_19_0, fd_19_1, fd_19_2, fd_19_3, fd_19_4, fd_19_5, fd_19_6, fd_19_7, fd_19_8, fd_19_9, fd_19_10, fd_19_11, fd_19_12, fd_19_13, fd_19_14, fd_19_15, fd_19_16, fd_19_17, fd_19_18, fd_19_19, fd_19_20, ln_20, ln_21, ln_22, ln_23, ln_24, ln_25, ln_26, ln_27, ln_28, ln_29, ln_30, ln_31, ln_32, List.getElem?_cons_zero, List.getElem?_cons_succ, List.set_cons_zero, List.set_cons_succ, true_and, and_true, ↓reduceIte, Int32.reduceLT, Int32.reduceLE, li_10, or_true, true_or, z]
      exact hK M hM
    · obtain ⟨m, rfl⟩ : ∃ q, m = q + 1 := ⟨m - 1, by omega⟩
      have he := hent m (by omega)
      have hj := ent_lt h200 he
      have z : ¬ nI (m + 1) ≤ 0 := nI_nle (by omega) (by omega)
      have e1 : nI (m + 1) - 1 = nI m := nI_pred m
      have vm : vp_in (nI m) 420 := vp_in_nI (by omega) (by decide)
      have cm : (nI m).toNatClampNeg = m := nI_clamp (by omega)
      have ht2 := hM.tree ht
      have hc2 := hM.mc hc
      have hw2 := hM.2.2
      have eN : mN M = mN M0 := by unfold mN; rw [hM.2.1 5 (by decide)]
      have q1 : (nI m = nI (cl (nI m))) = True := eq_true (by rw [show cl (nI m) = m from cm])
      have q3 : ent (mN M) m (M 31 m) := by rw [eN]; exact he
      refine am_from (tb_Model_write (ok_Model_isNode hG) (by decide) (ok_Model_step0 hG) (by decide)) k_Model_write 400 ?_
      simp only [q_Model_write_19, r_Model_write_0, r_Model_write_1, r_Model_write_2, r_Model_write_5, r_Model_write_8, r_Model_write_9, r_Model_write_10, r_Model_write_11, r_Model_write_14, r_Model_write_15, r_Model_write_16, r_Model_write_17, r_Model_write_18, r_Model_write_19, r_Model_write_20, r_Model_write_23, r_Model_write_24, r_Model_write_25, r_Model_write_28, r_Model_write_29, r_Model_write_30, r_Model_write_31, r_Model_write_32, r_Model_write_33, r_Model_write_34, r_Model_write_35, r_Model_write_38, r_Model_write_39, r_Model_write_42, r_Model_write_43, ai_aload, ai_iload, ai_callv2, am_push, am_few, ai_ifne, ai_const, ai_zret, ai_getf, ai_iast, ai_istore, am_cut_0, am_cut_s, am_c1, ai_ifle, ai_isub, ai_bin, ai_iald, ai_callv3, ai_goto, kd_0, fd_0_0, fd_0_1, fd_0_2, fd_0_3, fd_0_4, kd_1, fd_1_0, fd_1_1, ln_2, kd_3, fd_3_0, fd_3_1, fd_3_2, fd_3_3, fd_3_4, fd_3_5, fd_3_6, fd_3_7, fd_3_8, fd_3_9, ln_4, ln_5, ln_6, ln_7, ln_8, ln_9, ln_10, kd_11, fd_11_0, fd_11_1, fd_11_2, fd_11_3, fd_11_4, kd_12, fd_12_0, fd_12_1, fd_12_2, fd_12_3, ln_13, ln_14, ln_15, kd_16, fd_16_0, fd_16_1, fd_16_2, ln_17, kd_18, fd_18_0, fd_18_1, kd_19, fd_19_0, fd_19_1, fd_19_2, fd_19_3, fd_19_4, fd_19_5, fd_19_6, fd_19_7, fd_19_8, fd_19_9, fd_19_10, fd_19_11, fd_19_12, fd_19_13, fd_19_14, fd_19_15, fd_19_16, fd_19_17, fd_19_18, fd_19_19, fd_19_20, ln_20, ln_21, ln_22, ln_23, ln_24, ln_25, ln_26, ln_27, ln_28, ln_29, ln_30, ln_31, ln_32, List.getElem?_cons_zero, List.getElem?_cons_succ, List.set_cons_zero, List.set_cons_succ, true_and, and_true, ↓reduceIte, Int32.reduceLT, Int32.reduceLE, li_10, or_true, true_or, ↓sp_Model_step0, z, e1, vm, cm, ht2, hc2, hw2, q1, hj, q3]
      intro m' N hN hm' hold hnew hlt
      have hmm : mu (M 31) (m + 1) = mu (M 31) m + wgt (M 31 m) := rfl
      refine ih m' N (by omega) (hM.tr hN) ?_
      intro j hjm
      by_cases cj : j < m
      · rw [hold j cj]; exact hent j (by omega)
      · rw [← eN]; exact hnew j (by omega) hjm
set_option maxRecDepth 100000 in
set_option maxHeartbeats 4000000 in
theorem ok_Model_write0 {G : aG} (hG : am_ok G) : am_Sp G Y_Model_write 6 sp_Model_write0 := by
  intro as M K h
  unfold sp_Model_write0 at h
  split at h
  · next a x =>
    obtain ⟨rfl, ⟨ht, hc, hw⟩, h⟩ := h
    cases c : m_has M x
    · rw [c] at h
      refine am_entry hG (by decide +kernel) (Nat.le_of_ble_eq_true rfl) ?_
      refine am_go (cuts := k_Model_write) (tb_Model_write (ok_Model_isNode hG) (by decide) (ok_Model_step0 hG) (by decide)) 400 _ _ _ _ ?_
      change am_run _ _ _ _ _ _ [some (.ref 19), some (.int x), none] [] _
      simp only [q_Model_write_19, r_Model_write_0, r_Model_write_1, r_Model_write_2, r_Model_write_5, r_Model_write_8, r_Model_write_9, r_Model_write_10, r_Model_write_11, r_Model_write_14, r_Model_write_15, r_Model_write_16, r_Model_write_17, r_Model_write_18, r_Model_write_19, r_Model_write_20, r_Model_write_23, r_Model_write_24, r_Model_write_25, r_Model_write_28, r_Model_write_29, r_Model_write_30, r_Model_write_31, r_Model_write_32, r_Model_write_33, r_Model_write_34, r_Model_write_35, r_Model_write_38, r_Model_write_39, r_Model_write_42, r_Model_write_43, ai_aload, ai_iload, ai_callv2, am_push, am_few, ai_ifne, ai_const, ai_zret, ai_getf, ai_iast, ai_istore, am_cut_0, am_cut_s, am_c1, ai_ifle, ai_isub, ai_bin, ai_iald, ai_callv3, ai_goto, kd_0, fd_0_0, fd_0_1, fd_0_2, fd_0_3, fd_0_4, kd_1, fd_1_0, fd_1_1, ln_2, kd_3, fd_3_0, fd_3_1, fd_3_2, fd_3_3, fd_3_4, fd_3_5, fd_3_6, fd_3_7, fd_3_8, fd_3_9, ln_4, ln_5, ln_6, ln_7, ln_8, ln_9, ln_10, kd_11, fd_11_0, fd_11_1, fd_11_2, fd_11_3, fd_11_4, kd_12, fd_12_0, fd_12_1, fd_12_2, fd_12_3, ln_13, ln_14, ln_15, kd_16, fd_16_0, fd_16_1, fd_16_2, ln_17, kd_18, fd_18_0, fd_18_1, kd_19, fd_19_0, fd_19_1, fd_19_2, fd_19_3, fd_19_4, fd_19_5, fd_19_6, fd_19_7, fd_19_8, fd_19_9, fd_19_10, fd_19_11, fd_19_12, fd_19_13, fd_19_14, fd_19_15, fd_19_16, fd_19_17, fd_19_18, fd_19_19, fd_19_20, ln_20, ln_21, ln_22, ln_23, ln_24, ln_25, ln_26, ln_27, ln_28, ln_29, ln_30, ln_31, ln_32, List.getElem?_cons_zero, List.getElem?_cons_succ, List.set_cons_zero, List.set_cons_succ, true_and, and_true, ↓reduceIte, Int32.reduceLT, Int32.reduceLE, li_10, or_true, true_or, ↓sp_Model_isNode, b2_eq0, c]
      exact h M ((wr_rel.rf hw).wq)
    · rw [c] at h
      have hx := m_hasD hc c
      have h200 := hc.2
      have v0 : vp_in 0 420 := vp_in_nI (n := 0) (by decide) (by decide)
      have c0 : (0 : Int32).toNatClampNeg = 0 := rfl
      have hL : am_X G Y_Model_write 6 K 19 [some (.ref 19), some (.int x), some (.int 1)] [] (am_up M 31 0 x) := by
        refine lp_Model_write hG ht hc (fun N hN => h N hN) _ 1 _ (Nat.lt_succ_self _) (wq_31 (wr_rel.rf hw).wq) ?_
        intro j hj
        have : j = 0 := by omega
        subst this
        exact Or.inl ⟨cl x, by simp only [am_up_ap, ↓reduceIte]; exact hx.1, hx.2.1, by omega⟩
      refine am_entry hG (by decide +kernel) (Nat.le_of_ble_eq_true rfl) ?_
      refine am_go (cuts := k_Model_write) (tb_Model_write (ok_Model_isNode hG) (by decide) (ok_Model_step0 hG) (by decide)) 400 _ _ _ _ ?_
      change am_run _ _ _ _ _ _ [some (.ref 19), some (.int x), none] [] _
      simp only [q_Model_write_19, r_Model_write_0, r_Model_write_1, r_Model_write_2, r_Model_write_5, r_Model_write_8, r_Model_write_9, r_Model_write_10, r_Model_write_11, r_Model_write_14, r_Model_write_15, r_Model_write_16, r_Model_write_17, r_Model_write_18, r_Model_write_19, r_Model_write_20, r_Model_write_23, r_Model_write_24, r_Model_write_25, r_Model_write_28, r_Model_write_29, r_Model_write_30, r_Model_write_31, r_Model_write_32, r_Model_write_33, r_Model_write_34, r_Model_write_35, r_Model_write_38, r_Model_write_39, r_Model_write_42, r_Model_write_43, ai_aload, ai_iload, ai_callv2, am_push, am_few, ai_ifne, ai_const, ai_zret, ai_getf, ai_iast, ai_istore, am_cut_0, am_cut_s, am_c1, ai_ifle, ai_isub, ai_bin, ai_iald, ai_callv3, ai_goto, kd_0, fd_0_0, fd_0_1, fd_0_2, fd_0_3, fd_0_4, kd_1, fd_1_0, fd_1_1, ln_2, kd_3, fd_3_0, fd_3_1, fd_3_2, fd_3_3, fd_3_4, fd_3_5, fd_3_6, fd_3_7, fd_3_8, fd_3_9, ln_4, ln_5, ln_6, ln_7, ln_8, ln_9, ln_10, kd_11, fd_11_0, fd_11_1, fd_11_2, fd_11_3, fd_11_4, kd_12, fd_12_0, fd_12_1, fd_12_2, fd_12_3, ln_13, ln_14, ln_15, kd_16, fd_16_0, fd_16_1, fd_16_2, ln_17, kd_18, fd_18_0, fd_18_1, kd_19, fd_19_0, fd_19_1, fd_19_2, fd_19_3, fd_19_4, fd_19_5, fd_19_6, fd_19_7, fd_19_8, fd_19_9, fd_19_10, fd_19_11, fd_19_12, fd_19_13, fd_19_14, fd_19_15, fd_19_16, fd_19_17, fd_19_18, fd_19_19, fd_19_20, ln_20, ln_21, ln_22, ln_23, ln_24, ln_25, ln_26, ln_27, ln_28, ln_29, ln_30, ln_31, ln_32, List.getElem?_cons_zero, List.getElem?_cons_succ, List.set_cons_zero, List.set_cons_succ, true_and, and_true, ↓reduceIte, Int32.reduceLT, Int32.reduceLE, li_10, or_true, true_or, ↓sp_Model_isNode, b2_eq0, c, v0, c0, Bool.true_eq_false]
      exact hL
  · cases h
