/-! THE REFERENCE: a token is the desk's token -/
theorem dg_bg {b : Int32} (h : dgB b = true) : bgB b = false := by
  have h1 : ¬ b < 48 ∧ ¬ 57 < b := by
    unfold dgB at h
    simpa using h
  have a1 : ¬ (b.toInt < 48) := fun q => h1.1 (Int32.lt_iff_toInt_lt.mpr q)
  have a2 : ¬ (57 < b.toInt) := fun q => h1.2 (Int32.lt_iff_toInt_lt.mpr q)
  have lt : b < 97 := Int32.lt_iff_toInt_lt.mpr (show b.toInt < 97 by omega)
  have ne : ∀ k : Int32, (k.toInt < 48 ∨ 57 < k.toInt) → ¬ b = k := fun k hk q => by
    subst q
    omega
  unfold bgB
  simp [lt, ne 43 (by decide), ne 42 (by decide), ne 47 (by decide), ne 61 (by decide), ne 60 (by decide), ne 62 (by decide), ne 33 (by decide), ne 63 (by decide)]
theorem srt_bg {b : Int32} (h : bgB b = true) : srt b = 2 := by
  have nd : ∀ k : Int32, bgB k = false → ¬ b = k := fun k hk q => by
    subst q
    rw [hk] at h
    cases h
  have hd : dgB b = false := by
    cases c : dgB b
    · rfl
    · rw [dg_bg c] at h
      cases h
  have hw : wB b = true := by rw [wB_eq, h]; rfl
  unfold srt
  simp [nd (-1) (by decide), nd 34 (by decide), nd 39 (by decide), nd 40 (by decide), nd 41 (by decide), nd 46 (by decide), nd 45 (by decide), hd, hw]
theorem srt_dg {b : Int32} (h : dgB b = true) : srt b = 1 := by
  have nd : ∀ k : Int32, dgB k = false → ¬ b = k := fun k hk q => by
    subst q
    rw [hk] at h
    cases h
  unfold srt
  simp [nd (-1) (by decide), nd 34 (by decide), nd 39 (by decide), nd 40 (by decide), nd 41 (by decide), nd 46 (by decide), nd 45 (by decide), h]
theorem tok_word {t : Nat → Int32} {V : aM} {s : Nat} (hV : V 2 = t) (hs : s < tl V) (hl : tl V ≤ 400) (hw : wB (t s) = true) :
    if f_tend V s (srt (t s)) = -1 then wkd (t s) (wE t (tl V - (s + 1)) (s + 1) - s) ((dgB (t s) || decide (t s = 45)) && allD t (wE t (tl V - (s + 1)) (s + 1) - (s + 1)) (s + 1)) = 11
    else wkd (t s) (wE t (tl V - (s + 1)) (s + 1) - s) ((dgB (t s) || decide (t s = 45)) && allD t (wE t (tl V - (s + 1)) (s + 1) - (s + 1)) (s + 1)) = mkd (srt (t s)) ∧ f_tend V s (srt (t s)) = nI (wE t (tl V - (s + 1)) (s + 1)) ∧ ¬ srt (t s) = 10 := by
  subst hV
  have hle := wE_le (V 2) (tl V - (s + 1)) (s + 1)
  have hws : f_word V s = wE (V 2) (tl V - (s + 1)) (s + 1) := by
    unfold f_word
    rw [show tl V - s = (tl V - (s + 1)) + 1 by omega, wE, if_pos hw]
  have hws1 : f_word V (s + 1) = wE (V 2) (tl V - (s + 1)) (s + 1) := rfl
  generalize wE (V 2) (tl V - (s + 1)) (s + 1) = e at hle hws hws1 ⊢
  have hne : ¬ nI e = -1 := nI_ne (by omega)
  by_cases c45 : V 2 s = 45
  · have hd : dgB (V 2 s) = false := by rw [c45]; decide
    have hb : bgB (V 2 s) = false := by rw [c45]; decide
    have hsr : srt (V 2 s) = 1 := by rw [c45]; decide
    have hn : nmF (V 2) s = s + 1 := by unfold nmF; rw [if_pos c45]
    have hf : f_tend V s (srt (V 2 s)) = f_num V s := by rw [hsr]; rfl
    rw [hf]
    unfold f_num wkd
    rw [hn, hws1, hsr, hd, hb]
    simp only [c45, decide_true, Bool.false_or, Bool.true_and, ↓reduceIte, Bool.false_eq_true]
    rw [show e - s - 1 = e - (s + 1) by omega]
    by_cases z1 : e - (s + 1) < 1
    · have z2 : ¬ 0 < e - (s + 1) := by omega
      simp only [z1, z2, ↓reduceIte]
      split <;> rfl
    · have z2 : 0 < e - (s + 1) := by omega
      by_cases z3 : 9 < e - (s + 1)
      · have z4 : ¬ e - (s + 1) < 10 := by omega
        simp only [z1, z2, z3, z4, ↓reduceIte]
        split <;> rfl
      · have z4 : e - (s + 1) < 10 := by omega
        cases ca : allD (V 2) (e - (s + 1)) (s + 1)
        · simp [z1, z2, z3, z4]
        · simp only [z1, z2, z3, z4, ↓reduceIte]
          rw [if_neg hne]
          refine ⟨by first | trivial | rfl, by first | trivial | rfl, by first | trivial | decide⟩
  · cases hd : dgB (V 2 s)
    · have hb : bgB (V 2 s) = true := by
        have := hw
        rw [wB_eq, hd] at this
        simpa [c45] using this
      have hsr := srt_bg hb
      have hf : f_tend V s (srt (V 2 s)) = f_name V s := by rw [hsr]; rfl
      rw [hf]
      unfold f_name wkd
      rw [hws, hsr, hb]
      simp only [c45, decide_false, Bool.or_self, Bool.false_and, ↓reduceIte, Bool.false_eq_true]
      by_cases z1 : 12 < e - s
      · simp [z1]
      · simp only [z1, ↓reduceIte]
        rw [if_neg hne]
        refine ⟨by first | trivial | rfl, by first | trivial | rfl, by first | trivial | decide⟩
    · have hb := dg_bg hd
      have hsr := srt_dg hd
      have hn : nmF (V 2) s = s := by unfold nmF; rw [if_neg c45]
      have hf : f_tend V s (srt (V 2 s)) = f_num V s := by rw [hsr]; rfl
      rw [hf]
      unfold f_num wkd
      rw [hn, hws, hsr, hb]
      have hall : allD (V 2) (e - s) s = allD (V 2) (e - (s + 1)) (s + 1) := by
        rw [show e - s = (e - (s + 1)) + 1 by omega, allD, hd, Bool.true_and]
      rw [hall]
      simp only [c45, decide_false, Bool.or_false, Bool.true_and, ↓reduceIte, Bool.false_eq_true]
      have z1 : ¬ e - s < 1 := by omega
      have z2 : 0 < e - s := by omega
      by_cases z3 : 9 < e - s
      · have z4 : ¬ e - s < 10 := by omega
        simp only [z1, z2, z3, z4, ↓reduceIte]
        split <;> rfl
      · have z4 : e - s < 10 := by omega
        cases ca : allD (V 2) (e - (s + 1)) (s + 1)
        · simp [z1, z2, z3, z4]
        · simp only [z1, z2, z3, z4, ↓reduceIte]
          rw [if_neg hne]
          refine ⟨by first | trivial | rfl, by first | trivial | rfl, by first | trivial | decide⟩
theorem m_at_m1 {M : aM} {s : Nat} (ht : mt_ok M) (hs : s ≤ 400) : m_at (tkP M s) (-1) = f_at (vw M) (nI s - 1) := by
  have e1 : tkP M s 19 2 = nI s := rfl
  have e2 : tkP M s 19 1 = M 19 1 := rfl
  have e3 : tkP M s 20 = M 20 := rfl
  have e4 : vw M 1 1 = M 19 1 := rfl
  have e5 : vw M 2 = M 20 := rfl
  have e6 : nI s + (-1) = nI s - 1 := (Int32.sub_eq_add_neg _ _).symm
  unfold m_at f_at
  rw [e1, e2, e3, e4, e5, e6]
  by_cases c1 : nI s - 1 < 0
  · rw [if_pos c1, if_pos c1]
  · rw [if_neg c1, if_neg c1]
    by_cases c2 : nI s - 1 < M 19 1
    · rw [if_pos c2, if_pos c2]
      have c3 : nI s - 1 < 400 := by
        obtain ⟨j, hj, e⟩ := nI_of c1
        rw [e] at c2 ⊢
        rw [ht.1] at c2
        have := (nI_ltI hj (by have := ht.2; omega)).mp c2
        exact nI_lt (b := 400) (by have := ht.2; omega) (by decide)
      rw [if_pos c3]
    · rw [if_neg c2, if_neg c2]
theorem tkP_mu (M : aM) (S : Nat) : am_up (am_up M 19 2 (nI S)) 19 3 (nI S) = tkP M S := by rfl
theorem tkP_2 (M : aM) (S : Nat) : tkP M S 19 2 = nI S := by rfl
set_option maxRecDepth 100000 in
set_option maxHeartbeats 4000000 in
theorem ok_tkc_end {G : aG} (hG : am_ok G) {K : aR} {M : aM} {S : Nat} (ht : mt_ok M) (hb : tb_ok M) (hat : at_ok M) (hS : skB (M 20) (m_tl M - cl (M 19 2)) false (cl (M 19 2)) = S) (htN : mt_ok (tkP M S)) (hpk : m_at (tkP M S) 0 = -1) (h : K (some (.int 10)) (tkP M S)) : am_Met G Y_Model_token 3 [.ref 19] M K := by
  have hmu := tkP_mu M S
  have n0 : ((0 : Int32) ≤ -1) = False := eq_false (by decide)
  refine am_entry hG (by decide +kernel) (Nat.le_of_ble_eq_true rfl) ?_
  refine am_go (cuts := k_Model_token) (tb_Model_token (ok_Model_skip hG) (by decide) (ok_Model_peek hG) (by decide) (ok_Model_isByte hG) (by decide) (ok_Model_string hG) (by decide) (ok_Model_isDigit hG) (by decide) (ok_Model_isBegin hG) (by decide)) 400 _ _ _ _ ?_
  change am_run _ _ _ _ _ _ [some (.ref 19), none, none, none, none] [] _
  simp only [q_Model_token_159, r_Model_token_0, r_Model_token_1, r_Model_token_4, r_Model_token_5, r_Model_token_6, r_Model_token_9, r_Model_token_12, r_Model_token_13, r_Model_token_14, r_Model_token_17, r_Model_token_18, r_Model_token_19, r_Model_token_22, r_Model_token_24, r_Model_token_25, r_Model_token_26, r_Model_token_28, r_Model_token_31, r_Model_token_32, r_Model_token_34, r_Model_token_37, r_Model_token_38, r_Model_token_40, r_Model_token_43, r_Model_token_44, r_Model_token_45, r_Model_token_48, r_Model_token_49, r_Model_token_50, r_Model_token_53, r_Model_token_54, r_Model_token_56, r_Model_token_59, r_Model_token_61, r_Model_token_64, r_Model_token_65, r_Model_token_67, r_Model_token_70, r_Model_token_72, r_Model_token_75, r_Model_token_77, r_Model_token_78, r_Model_token_79, r_Model_token_81, r_Model_token_84, r_Model_token_85, r_Model_token_86, r_Model_token_89, r_Model_token_92, r_Model_token_95, r_Model_token_96, r_Model_token_97, r_Model_token_100, r_Model_token_103, r_Model_token_106, r_Model_token_107, r_Model_token_110, r_Model_token_111, r_Model_token_112, r_Model_token_113, r_Model_token_114, r_Model_token_117, r_Model_token_118, r_Model_token_119, r_Model_token_122, r_Model_token_123, r_Model_token_126, r_Model_token_128, r_Model_token_131, r_Model_token_133, r_Model_token_134, r_Model_token_135, r_Model_token_137, r_Model_token_140, r_Model_token_141, r_Model_token_144, r_Model_token_145, r_Model_token_146, r_Model_token_149, r_Model_token_152, r_Model_token_154, r_Model_token_155, r_Model_token_156, r_Model_token_157, r_Model_token_158, r_Model_token_159, r_Model_token_160, r_Model_token_161, r_Model_token_164, r_Model_token_167, r_Model_token_170, r_Model_token_171, r_Model_token_174, r_Model_token_175, r_Model_token_176, r_Model_token_179, r_Model_token_182, r_Model_token_185, r_Model_token_186, r_Model_token_189, r_Model_token_190, r_Model_token_192, r_Model_token_195, r_Model_token_196, r_Model_token_199, r_Model_token_200, r_Model_token_201, r_Model_token_202, r_Model_token_203, r_Model_token_204, r_Model_token_205, r_Model_token_208, r_Model_token_209, r_Model_token_210, r_Model_token_213, r_Model_token_214, r_Model_token_215, r_Model_token_218, r_Model_token_219, r_Model_token_221, r_Model_token_224, r_Model_token_225, r_Model_token_226, r_Model_token_227, r_Model_token_230, r_Model_token_231, r_Model_token_233, r_Model_token_234, r_Model_token_237, r_Model_token_239, r_Model_token_242, r_Model_token_244, r_Model_token_246, r_Model_token_249, r_Model_token_250, r_Model_token_253, r_Model_token_255, r_Model_token_256, r_Model_token_257, r_Model_token_260, r_Model_token_263, r_Model_token_264, r_Model_token_266, r_Model_token_269, r_Model_token_270, r_Model_token_273, r_Model_token_275, ai_aload, ai_callv1, am_push, am_few, ai_getf, ai_putf, ai_const, ai_callv2, ai_istore, am_cut_0, am_cut_s, am_c1, ai_iload, ai_ifge, ai_iret, ai_cmpeq, ai_cmpne, ai_iadd, ai_bin, ai_goto, ai_calls1, ai_ifne, ai_ifeq, ai_isub, ai_ifle, ai_cmpge, ai_cmpgt, kd_0, fd_0_0, fd_0_1, fd_0_2, fd_0_3, fd_0_4, kd_1, fd_1_0, fd_1_1, ln_2, kd_3, fd_3_0, fd_3_1, fd_3_2, fd_3_3, fd_3_4, fd_3_5, fd_3_6, fd_3_7, fd_3_8, fd_3_9, ln_4, ln_5, ln_6, ln_7, ln_8, ln_9, ln_10, kd_11, fd_11_0, fd_11_1, fd_11_2, fd_11_3, fd_11_4, kd_12, fd_12_0, fd_12_1, fd_12_2, fd_12_3, ln_13, ln_14, ln_15, kd_16, fd_16_0, fd_16_1, fd_16_2, ln_17, kd_18, fd_18_0, fd_18_1, kd_19, fd_19_0, fd_19_1, fd_19_2, fd_19_3, fd_19_4, fd_19_5, fd_19_6, fd_19_7, fd_19_8, fd_19_9, fd_19_10, fd_19_11, fd_19_12, fd_19_13, fd_19_14, fd_19_15, fd_19_16, fd_19_17, fd_19_18, fd_19_19, fd_19_20, ln_20, ln_21, ln_22, ln_23, ln_24, ln_25, ln_26, ln_27, ln_28, ln_29, ln_30, ln_31, ln_32, List.getElem?_cons_zero, List.getElem?_cons_succ, List.set_cons_zero, List.set_cons_succ, true_and, and_true, ↓reduceIte, Int32.reduceLT, Int32.reduceLE, li_10, or_true, true_or, ↓sp_Model_skip, ↓sp_Model_peek, ht, hb, hat, hS, am_up_ap, Nat.reduceEqDiff, hmu, htN, hpk, n0]
  exact h
set_option maxRecDepth 100000 in
set_option maxHeartbeats 4000000 in
theorem ok_tkc_40 {G : aG} (hG : am_ok G) {K : aR} {M : aM} {S : Nat} (ht : mt_ok M) (hb : tb_ok M) (hat : at_ok M) (hS : skB (M 20) (m_tl M - cl (M 19 2)) false (cl (M 19 2)) = S) (htN : mt_ok (tkP M S)) (hpk : m_at (tkP M S) 0 = 40) (h : K (some (.int 12)) (am_up (tkP M S) 19 2 (nI (S + 1)))) : am_Met G Y_Model_token 3 [.ref 19] M K := by
  have hmu := tkP_mu M S
  have hN2 := tkP_2 M S
  have n0 : ((0 : Int32) ≤ 40) = True := eq_true (by decide)
  refine am_entry hG (by decide +kernel) (Nat.le_of_ble_eq_true rfl) ?_
  refine am_go (cuts := k_Model_token) (tb_Model_token (ok_Model_skip hG) (by decide) (ok_Model_peek hG) (by decide) (ok_Model_isByte hG) (by decide) (ok_Model_string hG) (by decide) (ok_Model_isDigit hG) (by decide) (ok_Model_isBegin hG) (by decide)) 400 _ _ _ _ ?_
  change am_run _ _ _ _ _ _ [some (.ref 19), none, none, none, none] [] _
  simp only [q_Model_token_159, r_Model_token_0, r_Model_token_1, r_Model_token_4, r_Model_token_5, r_Model_token_6, r_Model_token_9, r_Model_token_12, r_Model_token_13, r_Model_token_14, r_Model_token_17, r_Model_token_18, r_Model_token_19, r_Model_token_22, r_Model_token_24, r_Model_token_25, r_Model_token_26, r_Model_token_28, r_Model_token_31, r_Model_token_32, r_Model_token_34, r_Model_token_37, r_Model_token_38, r_Model_token_40, r_Model_token_43, r_Model_token_44, r_Model_token_45, r_Model_token_48, r_Model_token_49, r_Model_token_50, r_Model_token_53, r_Model_token_54, r_Model_token_56, r_Model_token_59, r_Model_token_61, r_Model_token_64, r_Model_token_65, r_Model_token_67, r_Model_token_70, r_Model_token_72, r_Model_token_75, r_Model_token_77, r_Model_token_78, r_Model_token_79, r_Model_token_81, r_Model_token_84, r_Model_token_85, r_Model_token_86, r_Model_token_89, r_Model_token_92, r_Model_token_95, r_Model_token_96, r_Model_token_97, r_Model_token_100, r_Model_token_103, r_Model_token_106, r_Model_token_107, r_Model_token_110, r_Model_token_111, r_Model_token_112, r_Model_token_113, r_Model_token_114, r_Model_token_117, r_Model_token_118, r_Model_token_119, r_Model_token_122, r_Model_token_123, r_Model_token_126, r_Model_token_128, r_Model_token_131, r_Model_token_133, r_Model_token_134, r_Model_token_135, r_Model_token_137, r_Model_token_140, r_Model_token_141, r_Model_token_144, r_Model_token_145, r_Model_token_146, r_Model_token_149, r_Model_token_152, r_Model_token_154, r_Model_token_155, r_Model_token_156, r_Model_token_157, r_Model_token_158, r_Model_token_159, r_Model_token_160, r_Model_token_161, r_Model_token_164, r_Model_token_167, r_Model_token_170, r_Model_token_171, r_Model_token_174, r_Model_token_175, r_Model_token_176, r_Model_token_179, r_Model_token_182, r_Model_token_185, r_Model_token_186, r_Model_token_189, r_Model_token_190, r_Model_token_192, r_Model_token_195, r_Model_token_196, r_Model_token_199, r_Model_token_200, r_Model_token_201, r_Model_token_202, r_Model_token_203, r_Model_token_204, r_Model_token_205, r_Model_token_208, r_Model_token_209, r_Model_token_210, r_Model_token_213, r_Model_token_214, r_Model_token_215, r_Model_token_218, r_Model_token_219, r_Model_token_221, r_Model_token_224, r_Model_token_225, r_Model_token_226, r_Model_token_227, r_Model_token_230, r_Model_token_231, r_Model_token_233, r_Model_token_234, r_Model_token_237, r_Model_token_239, r_Model_token_242, r_Model_token_244, r_Model_token_246, r_Model_token_249, r_Model_token_250, r_Model_token_253, r_Model_token_255, r_Model_token_256, r_Model_token_257, r_Model_token_260, r_Model_token_263, r_Model_token_264, r_Model_token_266, r_Model_token_269, r_Model_token_270, r_Model_token_273, r_Model_token_275, ai_aload, ai_callv1, am_push, am_few, ai_getf, ai_putf, ai_const, ai_callv2, ai_istore, am_cut_0, am_cut_s, am_c1, ai_iload, ai_ifge, ai_iret, ai_cmpeq, ai_cmpne, ai_iadd, ai_bin, ai_goto, ai_calls1, ai_ifne, ai_ifeq, ai_isub, ai_ifle, ai_cmpge, ai_cmpgt, kd_0, fd_0_0, fd_0_1, fd_0_2, fd_0_3, fd_0_4, kd_1, fd_1_0, fd_1_1, ln_2, kd_3, fd_3_0, fd_3_1, fd_3_2, fd_3_3, fd_3_4, fd_3_5, fd_3_6, fd_3_7, fd_3_8, fd_3_9, ln_4, ln_5, ln_6, ln_7, ln_8, ln_9, ln_10, kd_11, fd_11_0, fd_11_1, fd_11_2, fd_11_3, fd_11_4, kd_12, fd_12_0, fd_12_1, fd_12_2, fd_12_3, ln_13, ln_14, ln_15, kd_16, fd_16_0, fd_16_1, fd_16_2, ln_17, kd_18, fd_18_0, fd_18_1, kd_19, fd_19_0, fd_19_1, fd_19_2, fd_19_3, fd_19_4, fd_19_5, fd_19_6, fd_19_7, fd_19_8, fd_19_9, fd_19_10, fd_19_11, fd_19_12, fd_19_13, fd_19_14, fd_19_15, fd_19_16, fd_19_17, fd_19_18, fd_19_19, fd_19_20, ln_20, ln_21, ln_22, ln_23, ln_24, ln_25, ln_26, ln_27, ln_28, ln_29, ln_30, ln_31, ln_32, List.getElem?_cons_zero, List.getElem?_cons_succ, List.set_cons_zero, List.set_cons_succ, true_and, and_true, ↓reduceIte, Int32.reduceLT, Int32.reduceLE, li_10, or_true, true_or, ↓sp_Model_skip, ↓sp_Model_peek, ht, hb, hat, hS, am_up_ap, Nat.reduceEqDiff, hmu, htN, hpk, n0, hN2, nI_1]
  exact h
set_option maxRecDepth 100000 in
set_option maxHeartbeats 4000000 in
theorem ok_tkc_41 {G : aG} (hG : am_ok G) {K : aR} {M : aM} {S : Nat} (ht : mt_ok M) (hb : tb_ok M) (hat : at_ok M) (hS : skB (M 20) (m_tl M - cl (M 19 2)) false (cl (M 19 2)) = S) (htN : mt_ok (tkP M S)) (hpk : m_at (tkP M S) 0 = 41) (h : K (some (.int 13)) (am_up (tkP M S) 19 2 (nI (S + 1)))) : am_Met G Y_Model_token 3 [.ref 19] M K := by
  have hmu := tkP_mu M S
  have hN2 := tkP_2 M S
  have n0 : ((0 : Int32) ≤ 41) = True := eq_true (by decide)
  have n40 : ((41 : Int32) = 40) = False := eq_false (by decide)
  refine am_entry hG (by decide +kernel) (Nat.le_of_ble_eq_true rfl) ?_
  refine am_go (cuts := k_Model_token) (tb_Model_token (ok_Model_skip hG) (by decide) (ok_Model_peek hG) (by decide) (ok_Model_isByte hG) (by decide) (ok_Model_string hG) (by decide) (ok_Model_isDigit hG) (by decide) (ok_Model_isBegin hG) (by decide)) 400 _ _ _ _ ?_
  change am_run _ _ _ _ _ _ [some (.ref 19), none, none, none, none] [] _
  simp only [q_Model_token_159, r_Model_token_0, r_Model_token_1, r_Model_token_4, r_Model_token_5, r_Model_token_6, r_Model_token_9, r_Model_token_12, r_Model_token_13, r_Model_token_14, r_Model_token_17, r_Model_token_18, r_Model_token_19, r_Model_token_22, r_Model_token_24, r_Model_token_25, r_Model_token_26, r_Model_token_28, r_Model_token_31, r_Model_token_32, r_Model_token_34, r_Model_token_37, r_Model_token_38, r_Model_token_40, r_Model_token_43, r_Model_token_44, r_Model_token_45, r_Model_token_48, r_Model_token_49, r_Model_token_50, r_Model_token_53, r_Model_token_54, r_Model_token_56, r_Model_token_59, r_Model_token_61, r_Model_token_64, r_Model_token_65, r_Model_token_67, r_Model_token_70, r_Model_token_72, r_Model_token_75, r_Model_token_77, r_Model_token_78, r_Model_token_79, r_Model_token_81, r_Model_token_84, r_Model_token_85, r_Model_token_86, r_Model_token_89, r_Model_token_92, r_Model_token_95, r_Model_token_96, r_Model_token_97, r_Model_token_100, r_Model_token_103, r_Model_token_106, r_Model_token_107, r_Model_token_110, r_Model_token_111, r_Model_token_112, r_Model_token_113, r_Model_token_114, r_Model_token_117, r_Model_token_118, r_Model_token_119, r_Model_token_122, r_Model_token_123, r_Model_token_126, r_Model_token_128, r_Model_token_131, r_Model_token_133, r_Model_token_134, r_Model_token_135, r_Model_token_137, r_Model_token_140, r_Model_token_141, r_Model_token_144, r_Model_token_145, r_Model_token_146, r_Model_token_149, r_Model_token_152, r_Model_token_154, r_Model_token_155, r_Model_token_156, r_Model_token_157, r_Model_token_158, r_Model_token_159, r_Model_token_160, r_Model_token_161, r_Model_token_164, r_Model_token_167, r_Model_token_170, r_Model_token_171, r_Model_token_174, r_Model_token_175, r_Model_token_176, r_Model_token_179, r_Model_token_182, r_Model_token_185, r_Model_token_186, r_Model_token_189, r_Model_token_190, r_Model_token_192, r_Model_token_195, r_Model_token_196, r_Model_token_199, r_Model_token_200, r_Model_token_201, r_Model_token_202, r_Model_token_203, r_Model_token_204, r_Model_token_205, r_Model_token_208, r_Model_token_209, r_Model_token_210, r_Model_token_213, r_Model_token_214, r_Model_token_215, r_Model_token_218, r_Model_token_219, r_Model_token_221, r_Model_token_224, r_Model_token_225, r_Model_token_226, r_Model_token_227, r_Model_token_230, r_Model_token_231, r_Model_token_233, r_Model_token_234, r_Model_token_237, r_Model_token_239, r_Model_token_242, r_Model_token_244, r_Model_token_246, r_Model_token_249, r_Model_token_250, r_Model_token_253, r_Model_token_255, r_Model_token_256, r_Model_token_257, r_Model_token_260, r_Model_token_263, r_Model_token_264, r_Model_token_266, r_Model_token_269, r_Model_token_270, r_Model_token_273, r_Model_token_275, ai_aload, ai_callv1, am_push, am_few, ai_getf, ai_putf, ai_const, ai_callv2, ai_istore, am_cut_0, am_cut_s, am_c1, ai_iload, ai_ifge, ai_iret, ai_cmpeq, ai_cmpne, ai_iadd, ai_bin, ai_goto, ai_calls1, ai_ifne, ai_ifeq, ai_isub, ai_ifle, ai_cmpge, ai_cmpgt, kd_0, fd_0_0, fd_0_1, fd_0_2, fd_0_3, fd_0_4, kd_1, fd_1_0, fd_1_1, ln_2, kd_3, fd_3_0, fd_3_1, fd_3_2, fd_3_3, fd_3_4, fd_3_5, fd_3_6, fd_3_7, fd_3_8, fd_3_9, ln_4, ln_5, ln_6, ln_7, ln_8, ln_9, ln_10, kd_11, fd_11_0, fd_11_1, fd_11_2, fd_11_3, fd_11_4, kd_12, fd_12_0, fd_12_1, fd_12_2, fd_12_3, ln_13, ln_14, ln_15, kd_16, fd_16_0, fd_16_1, fd_16_2, ln_17, kd_18, fd_18_0, fd_18_1, kd_19, fd_19_0, fd_19_1, fd_19_2, fd_19_3, fd_19_4, fd_19_5, fd_19_6, fd_19_7, fd_19_8, fd_19_9, fd_19_10, fd_19_11, fd_19_12, fd_19_13, fd_19_14, fd_19_15, fd_19_16, fd_19_17, fd_19_18, fd_19_19, fd_19_20, ln_20, ln_21, ln_22, ln_23, ln_24, ln_25, ln_26, ln_27, ln_28, ln_29, ln_30, ln_31, ln_32, List.getElem?_cons_zero, List.getElem?_cons_succ, List.set_cons_zero, List.set_cons_succ, true_and, and_true, ↓reduceIte, Int32.reduceLT, Int32.reduceLE, li_10, or_true, true_or, ↓sp_Model_skip, ↓sp_Model_peek, ht, hb, hat, hS, am_up_ap, Nat.reduceEqDiff, hmu, htN, hpk, n0, hN2, nI_1, n40]
  exact h
set_option maxRecDepth 100000 in
set_option maxHeartbeats 4000000 in
theorem ok_tkc_39 {G : aG} (hG : am_ok G) {K : aR} {M : aM} {S : Nat} (ht : mt_ok M) (hb : tb_ok M) (hat : at_ok M) (hS : skB (M 20) (m_tl M - cl (M 19 2)) false (cl (M 19 2)) = S) (htN : mt_ok (tkP M S)) (hpk : m_at (tkP M S) 0 = 39) (h : K (some (.int 14)) (am_up (tkP M S) 19 2 (nI (S + 1)))) : am_Met G Y_Model_token 3 [.ref 19] M K := by
  have hmu := tkP_mu M S
  have hN2 := tkP_2 M S
  have n0 : ((0 : Int32) ≤ 39) = True := eq_true (by decide)
  have n40 : ((39 : Int32) = 40) = False := eq_false (by decide)
  have n41 : ((39 : Int32) = 41) = False := eq_false (by decide)
  refine am_entry hG (by decide +kernel) (Nat.le_of_ble_eq_true rfl) ?_
  refine am_go (cuts := k_Model_token) (tb_Model_token (ok_Model_skip hG) (by decide) (ok_Model_peek hG) (by decide) (ok_Model_isByte hG) (by decide) (ok_Model_string hG) (by decide) (ok_Model_isDigit hG) (by decide) (ok_Model_isBegin hG) (by decide)) 400 _ _ _ _ ?_
  change am_run _ _ _ _ _ _ [some (.ref 19), none, none, none, none] [] _
  simp only [q_Model_token_159, r_Model_token_0, r_Model_token_1, r_Model_token_4, r_Model_token_5, r_Model_token_6, r_Model_token_9, r_Model_token_12, r_Model_token_13, r_Model_token_14, r_Model_token_17, r_Model_token_18, r_Model_token_19, r_Model_token_22, r_Model_token_24, r_Model_token_25, r_Model_token_26, r_Model_token_28, r_Model_token_31, r_Model_token_32, r_Model_token_34, r_Model_token_37, r_Model_token_38, r_Model_token_40, r_Model_token_43, r_Model_token_44, r_Model_token_45, r_Model_token_48, r_Model_token_49, r_Model_token_50, r_Model_token_53, r_Model_token_54, r_Model_token_56, r_Model_token_59, r_Model_token_61, r_Model_token_64, r_Model_token_65, r_Model_token_67, r_Model_token_70, r_Model_token_72, r_Model_token_75, r_Model_token_77, r_Model_token_78, r_Model_token_79, r_Model_token_81, r_Model_token_84, r_Model_token_85, r_Model_token_86, r_Model_token_89, r_Model_token_92, r_Model_token_95, r_Model_token_96, r_Model_token_97, r_Model_token_100, r_Model_token_103, r_Model_token_106, r_Model_token_107, r_Model_token_110, r_Model_token_111, r_Model_token_112, r_Model_token_113, r_Model_token_114, r_Model_token_117, r_Model_token_118, r_Model_token_119, r_Model_token_122, r_Model_token_123, r_Model_token_126, r_Model_token_128, r_Model_token_131, r_Model_token_133, r_Model_token_134, r_Model_token_135, r_Model_token_137, r_Model_token_140, r_Model_token_141, r_Model_token_144, r_Model_token_145, r_Model_token_146, r_Model_token_149, r_Model_token_152, r_Model_token_154, r_Model_token_155, r_Model_token_156, r_Model_token_157, r_Model_token_158, r_Model_token_159, r_Model_token_160, r_Model_token_161, r_Model_token_164, r_Model_token_167, r_Model_token_170, r_Model_token_171, r_Model_token_174, r_Model_token_175, r_Model_token_176, r_Model_token_179, r_Model_token_182, r_Model_token_185, r_Model_token_186, r_Model_token_189, r_Model_token_190, r_Model_token_192, r_Model_token_195, r_Model_token_196, r_Model_token_199, r_Model_token_200, r_Model_token_201, r_Model_token_202, r_Model_token_203, r_Model_token_204, r_Model_token_205, r_Model_token_208, r_Model_token_209, r_Model_token_210, r_Model_token_213, r_Model_token_214, r_Model_token_215, r_Model_token_218, r_Model_token_219, r_Model_token_221, r_Model_token_224, r_Model_token_225, r_Model_token_226, r_Model_token_227, r_Model_token_230, r_Model_token_231, r_Model_token_233, r_Model_token_234, r_Model_token_237, r_Model_token_239, r_Model_token_242, r_Model_token_244, r_Model_token_246, r_Model_token_249, r_Model_token_250, r_Model_token_253, r_Model_token_255, r_Model_token_256, r_Model_token_257, r_Model_token_260, r_Model_token_263, r_Model_token_264, r_Model_token_266, r_Model_token_269, r_Model_token_270, r_Model_token_273, r_Model_token_275, ai_aload, ai_callv1, am_push, am_few, ai_getf, ai_putf, ai_const, ai_callv2, ai_istore, am_cut_0, am_cut_s, am_c1, ai_iload, ai_ifge, ai_iret, ai_cmpeq, ai_cmpne, ai_iadd, ai_bin, ai_goto, ai_calls1, ai_ifne, ai_ifeq, ai_isub, ai_ifle, ai_cmpge, ai_cmpgt, kd_0, fd_0_0, fd_0_1, fd_0_2, fd_0_3, fd_0_4, kd_1, fd_1_0, fd_1_1, ln_2, kd_3, fd_3_0, fd_3_1, fd_3_2, fd_3_3, fd_3_4, fd_3_5, fd_3_6, fd_3_7, fd_3_8, fd_3_9, ln_4, ln_5, ln_6, ln_7, ln_8, ln_9, ln_10, kd_11, fd_11_0, fd_11_1, fd_11_2, fd_11_3, fd_11_4, kd_12, fd_12_0, fd_12_1, fd_12_2, fd_12_3, ln_13, ln_14, ln_15, kd_16, fd_16_0, fd_16_1, fd_16_2, ln_17, kd_18, fd_18_0, fd_18_1, kd_19, fd_19_0, fd_19_1, fd_19_2, fd_19_3, fd_19_4, fd_19_5, fd_19_6, fd_19_7, fd_19_8, fd_19_9, fd_19_10, fd_19_11, fd_19_12, fd_19_13, fd_19_14, fd_19_15, fd_19_16, fd_19_17, fd_19_18, fd_19_19, fd_19_20, ln_20, ln_21, ln_22, ln_23, ln_24, ln_25, ln_26, ln_27, ln_28, ln_29, ln_30, ln_31, ln_32, List.getElem?_cons_zero, List.getElem?_cons_succ, List.set_cons_zero, List.set_cons_succ, true_and, and_true, ↓reduceIte, Int32.reduceLT, Int32.reduceLE, li_10, or_true, true_or, ↓sp_Model_skip, ↓sp_Model_peek, ht, hb, hat, hS, am_up_ap, Nat.reduceEqDiff, hmu, htN, hpk, n0, hN2, nI_1, n40, n41]
  exact h
set_option maxRecDepth 100000 in
set_option maxHeartbeats 4000000 in
theorem ok_tkc_46 {G : aG} (hG : am_ok G) {K : aR} {M : aM} {S : Nat} (ht : mt_ok M) (hb : tb_ok M) (hat : at_ok M) (hS : skB (M 20) (m_tl M - cl (M 19 2)) false (cl (M 19 2)) = S) (htN : mt_ok (tkP M S)) (hpk : m_at (tkP M S) 0 = 46) {x y : Int32} (p1 : m_at (tkP M S) (-1) = x) (p2 : m_at (tkP M S) 1 = y) (h : K (some (.int (if wB x = true then 11 else if wB y = true then 11 else 15))) (am_up (tkP M S) 19 2 (nI (S + 1)))) : am_Met G Y_Model_token 3 [.ref 19] M K := by
  have hmu := tkP_mu M S
  have hN2 := tkP_2 M S
  have n0 : ((0 : Int32) ≤ 46) = True := eq_true (by decide)
  have n40 : ((46 : Int32) = 40) = False := eq_false (by decide)
  have n41 : ((46 : Int32) = 41) = False := eq_false (by decide)
  have n39 : ((46 : Int32) = 39) = False := eq_false (by decide)
  cases w1 : wB x
  · cases w2 : wB y
    · simp only [w1, w2, Bool.false_eq_true, ↓reduceIte] at h
      refine am_entry hG (by decide +kernel) (Nat.le_of_ble_eq_true rfl) ?_
      refine am_go (cuts := k_Model_token) (tb_Model_token (ok_Model_skip hG) (by decide) (ok_Model_peek hG) (by decide) (ok_Model_isByte hG) (by decide) (ok_Model_string hG) (by decide) (ok_Model_isDigit hG) (by decide) (ok_Model_isBegin hG) (by decide)) 400 _ _ _ _ ?_
      change am_run _ _ _ _ _ _ [some (.ref 19), none, none, none, none] [] _
      simp only [q_Model_token_159, r_Model_token_0, r_Model_token_1, r_Model_token_4, r_Model_token_5, r_Model_token_6, r_Model_token_9, r_Model_token_12, r_Model_token_13, r_Model_token_14, r_Model_token_17, r_Model_token_18, r_Model_token_19, r_Model_token_22, r_Model_token_24, r_Model_token_25, r_Model_token_26, r_Model_token_28, r_Model_token_31, r_Model_token_32, r_Model_token_34, r_Model_token_37, r_Model_token_38, r_Model_token_40, r_Model_token_43, r_Model_token_44, r_Model_token_45, r_Model_token_48, r_Model_token_49, r_Model_token_50, r_Model_token_53, r_Model_token_54, r_Model_token_56, r_Model_token_59, r_Model_token_61, r_Model_token_64, r_Model_token_65, r_Model_token_67, r_Model_token_70, r_Model_token_72, r_Model_token_75, r_Model_token_77, r_Model_token_78, r_Model_token_79, r_Model_token_81, r_Model_token_84, r_Model_token_85, r_Model_token_86, r_Model_token_89, r_Model_token_92, r_Model_token_95, r_Model_token_96, r_Model_token_97, r_Model_token_100, r_Model_token_103, r_Model_token_106, r_Model_token_107, r_Model_token_110, r_Model_token_111, r_Model_token_112, r_Model_token_113, r_Model_token_114, r_Model_token_117, r_Model_token_118, r_Model_token_119, r_Model_token_122, r_Model_token_123, r_Model_token_126, r_Model_token_128, r_Model_token_131, r_Model_token_133, r_Model_token_134, r_Model_token_135, r_Model_token_137, r_Model_token_140, r_Model_token_141, r_Model_token_144, r_Model_token_145, r_Model_token_146, r_Model_token_149, r_Model_token_152, r_Model_token_154, r_Model_token_155, r_Model_token_156, r_Model_token_157, r_Model_token_158, r_Model_token_159, r_Model_token_160, r_Model_token_161, r_Model_token_164, r_Model_token_167, r_Model_token_170, r_Model_token_171, r_Model_token_174, r_Model_token_175, r_Model_token_176, r_Model_token_179, r_Model_token_182, r_Model_token_185, r_Model_token_186, r_Model_token_189, r_Model_token_190, r_Model_token_192, r_Model_token_195, r_Model_token_196, r_Model_token_199, r_Model_token_200, r_Model_token_201, r_Model_token_202, r_Model_token_203, r_Model_token_204, r_Model_token_205, r_Model_token_208, r_Model_token_209, r_Model_token_210, r_Model_token_213, r_Model_token_214, r_Model_token_215, r_Model_token_218, r_Model_token_219, r_Model_token_221, r_Model_token_224, r_Model_token_225, r_Model_token_226, r_Model_token_227, r_Model_token_230, r_Model_token_231, r_Model_token_233, r_Model_token_234, r_Model_token_237, r_Model_token_239, r_Model_token_242, r_Model_token_244, r_Model_token_246, r_Model_token_249, r_Model_token_250, r_Model_token_253, r_Model_token_255, r_Model_token_256, r_Model_token_257, r_Model_token_260, r_Model_token_263, r_Model_token_264, r_Model_token_266, r_Model_token_269, r_Model_token_270, r_Model_token_273, r_Model_token_275, ai_aload, ai_callv1, am_push, am_few, ai_getf, ai_putf, ai_const, ai_callv2, ai_istore, am_cut_0, am_cut_s, am_c1, ai_iload, ai_ifge, ai_iret, ai_cmpeq, ai_cmpne, ai_iadd, ai_bin, ai_goto, ai_calls1, ai_ifne, ai_ifeq, ai_isub, ai_ifle, ai_cmpge, ai_cmpgt, kd_0, fd_0_0, fd_0_1, fd_0_2, fd_0_3, fd_0_4, kd_1, fd_1_0, fd_1_1, ln_2, kd_3, fd_3_0, fd_3_1, fd_3_2, fd_3_3, fd_3_4, fd_3_5, fd_3_6, fd_3_7, fd_3_8, fd_3_9, ln_4, ln_5, ln_6, ln_7, ln_8, ln_9, ln_10, kd_11, fd_11_0, fd_11_1, fd_11_2, fd_11_3, fd_11_4, kd_12, fd_12_0, fd_12_1, fd_12_2, fd_12_3, ln_13, ln_14, ln_15, kd_16, fd_16_0, fd_16_1, fd_16_2, ln_17, kd_18, fd_18_0, fd_18_1, kd_19, fd_19_0, fd_19_1, fd_19_2, fd_19_3, fd_19_4, fd_19_5, fd_19_6, fd_19_7, fd_19_8, fd_19_9, fd_19_10, fd_19_11, fd_19_12, fd_19_13, fd_19_14, fd_19_15, fd_19_16, fd_19_17, fd_19_18, fd_19_19, fd_19_20, ln_20, ln_21, ln_22, ln_23, ln_24, ln_25, ln_26, ln_27, ln_28, ln_29, ln_30, ln_31, ln_32, List.getElem?_cons_zero, List.getElem?_cons_succ, List.set_cons_zero, List.set_cons_succ, true_and, and_true, ↓reduceIte, Int32.reduceLT, Int32.reduceLE, li_10, or_true, true_or, ↓sp_Model_skip, ↓sp_Model_peek, ↓sp_Model_isByte, ht, hb, hat, hS, am_up_ap, Nat.reduceEqDiff, hmu, htN, hpk, n0, hN2, nI_1, n40, n41, n39, p1, p2, w1, w2, b2_eq0]
      exact h
    · simp only [w1, w2, Bool.false_eq_true, ↓reduceIte] at h
      refine am_entry hG (by decide +kernel) (Nat.le_of_ble_eq_true rfl) ?_
      refine am_go (cuts := k_Model_token) (tb_Model_token (ok_Model_skip hG) (by decide) (ok_Model_peek hG) (by decide) (ok_Model_isByte hG) (by decide) (ok_Model_string hG) (by decide) (ok_Model_isDigit hG) (by decide) (ok_Model_isBegin hG) (by decide)) 400 _ _ _ _ ?_
      change am_run _ _ _ _ _ _ [some (.ref 19), none, none, none, none] [] _
      simp only [q_Model_token_159, r_Model_token_0, r_Model_token_1, r_Model_token_4, r_Model_token_5, r_Model_token_6, r_Model_token_9, r_Model_token_12, r_Model_token_13, r_Model_token_14, r_Model_token_17, r_Model_token_18, r_Model_token_19, r_Model_token_22, r_Model_token_24, r_Model_token_25, r_Model_token_26, r_Model_token_28, r_Model_token_31, r_Model_token_32, r_Model_token_34, r_Model_token_37, r_Model_token_38, r_Model_token_40, r_Model_token_43, r_Model_token_44, r_Model_token_45, r_Model_token_48, r_Model_token_49, r_Model_token_50, r_Model_token_53, r_Model_token_54, r_Model_token_56, r_Model_token_59, r_Model_token_61, r_Model_token_64, r_Model_token_65, r_Model_token_67, r_Model_token_70, r_Model_token_72, r_Model_token_75, r_Model_token_77, r_Model_token_78, r_Model_token_79, r_Model_token_81, r_Model_token_84, r_Model_token_85, r_Model_token_86, r_Model_token_89, r_Model_token_92, r_Model_token_95, r_Model_token_96, r_Model_token_97, r_Model_token_100, r_Model_token_103, r_Model_token_106, r_Model_token_107, r_Model_token_110, r_Model_token_111, r_Model_token_112, r_Model_token_113, r_Model_token_114, r_Model_token_117, r_Model_token_118, r_Model_token_119, r_Model_token_122, r_Model_token_123, r_Model_token_126, r_Model_token_128, r_Model_token_131, r_Model_token_133, r_Model_token_134, r_Model_token_135, r_Model_token_137, r_Model_token_140, r_Model_token_141, r_Model_token_144, r_Model_token_145, r_Model_token_146, r_Model_token_149, r_Model_token_152, r_Model_token_154, r_Model_token_155, r_Model_token_156, r_Model_token_157, r_Model_token_158, r_Model_token_159, r_Model_token_160, r_Model_token_161, r_Model_token_164, r_Model_token_167, r_Model_token_170, r_Model_token_171, r_Model_token_174, r_Model_token_175, r_Model_token_176, r_Model_token_179, r_Model_token_182, r_Model_token_185, r_Model_token_186, r_Model_token_189, r_Model_token_190, r_Model_token_192, r_Model_token_195, r_Model_token_196, r_Model_token_199, r_Model_token_200, r_Model_token_201, r_Model_token_202, r_Model_token_203, r_Model_token_204, r_Model_token_205, r_Model_token_208, r_Model_token_209, r_Model_token_210, r_Model_token_213, r_Model_token_214, r_Model_token_215, r_Model_token_218, r_Model_token_219, r_Model_token_221, r_Model_token_224, r_Model_token_225, r_Model_token_226, r_Model_token_227, r_Model_token_230, r_Model_token_231, r_Model_token_233, r_Model_token_234, r_Model_token_237, r_Model_token_239, r_Model_token_242, r_Model_token_244, r_Model_token_246, r_Model_token_249, r_Model_token_250, r_Model_token_253, r_Model_token_255, r_Model_token_256, r_Model_token_257, r_Model_token_260, r_Model_token_263, r_Model_token_264, r_Model_token_266, r_Model_token_269, r_Model_token_270, r_Model_token_273, r_Model_token_275, ai_aload, ai_callv1, am_push, am_few, ai_getf, ai_putf, ai_const, ai_callv2, ai_istore, am_cut_0, am_cut_s, am_c1, ai_iload, ai_ifge, ai_iret, ai_cmpeq, ai_cmpne, ai_iadd, ai_bin, ai_goto, ai_calls1, ai_ifne, ai_ifeq, ai_isub, ai_ifle, ai_cmpge, ai_cmpgt, kd_0, fd_0_0, fd_0_1, fd_0_2, fd_0_3, fd_0_4, kd_1, fd_1_0, fd_1_1, ln_2, kd_3, fd_3_0, fd_3_1, fd_3_2, fd_3_3, fd_3_4, fd_3_5, fd_3_6, fd_3_7, fd_3_8, fd_3_9, ln_4, ln_5, ln_6, ln_7, ln_8, ln_9, ln_10, kd_11, fd_11_0, fd_11_1, fd_11_2, fd_11_3, fd_11_4, kd_12, fd_12_0, fd_12_1, fd_12_2, fd_12_3, ln_13, ln_14, ln_15, kd_16, fd_16_0, fd_16_1, fd_16_2, ln_17, kd_18, fd_18_0, fd_18_1, kd_19, fd_19_0, fd_19_1, fd_19_2, fd_19_3, fd_19_4, fd_19_5, fd_19_6, fd_19_7, fd_19_8, fd_19_9, fd_19_10, fd_19_11, fd_19_12, fd_19_13, fd_19_14, fd_19_15, fd_19_16, fd_19_17, fd_19_18, fd_19_19, fd_19_20, ln_20, ln_21, ln_22, ln_23, ln_24, ln_25, ln_26, ln_27, ln_28, ln_29, ln_30, ln_31, ln_32, List.getElem?_cons_zero, List.getElem?_cons_succ, List.set_cons_zero, List.set_cons_succ, true_and, and_true, ↓reduceIte, Int32.reduceLT, Int32.reduceLE, li_10, or_true, true_or, ↓sp_Model_skip, ↓sp_Model_peek, ↓sp_Model_isByte, ht, hb, hat, hS, am_up_ap, Nat.reduceEqDiff, hmu, htN, hpk, n0, hN2, nI_1, n40, n41, n39, p1, p2, w1, w2, b2_eq0, Bool.true_eq_false]
      exact h
  · simp only [w1, ↓reduceIte] at h
    refine am_entry hG (by decide +kernel) (Nat.le_of_ble_eq_true rfl) ?_
    refine am_go (cuts := k_Model_token) (tb_Model_token (ok_Model_skip hG) (by decide) (ok_Model_peek hG) (by decide) (ok_Model_isByte hG) (by decide) (ok_Model_string hG) (by decide) (ok_Model_isDigit hG) (by decide) (ok_Model_isBegin hG) (by decide)) 400 _ _ _ _ ?_
    change am_run _ _ _ _ _ _ [some (.ref 19), none, none, none, none] [] _
    simp only [q_Model_token_159, r_Model_token_0, r_Model_token_1, r_Model_token_4, r_Model_token_5, r_Model_token_6, r_Model_token_9, r_Model_token_12, r_Model_token_13, r_Model_token_14, r_Model_token_17, r_Model_token_18, r_Model_token_19, r_Model_token_22, r_Model_token_24, r_Model_token_25, r_Model_token_26, r_Model_token_28, r_Model_token_31, r_Model_token_32, r_Model_token_34, r_Model_token_37, r_Model_token_38, r_Model_token_40, r_Model_token_43, r_Model_token_44, r_Model_token_45, r_Model_token_48, r_Model_token_49, r_Model_token_50, r_Model_token_53, r_Model_token_54, r_Model_token_56, r_Model_token_59, r_Model_token_61, r_Model_token_64, r_Model_token_65, r_Model_token_67, r_Model_token_70, r_Model_token_72, r_Model_token_75, r_Model_token_77, r_Model_token_78, r_Model_token_79, r_Model_token_81, r_Model_token_84, r_Model_token_85, r_Model_token_86, r_Model_token_89, r_Model_token_92, r_Model_token_95, r_Model_token_96, r_Model_token_97, r_Model_token_100, r_Model_token_103, r_Model_token_106, r_Model_token_107, r_Model_token_110, r_Model_token_111, r_Model_token_112, r_Model_token_113, r_Model_token_114, r_Model_token_117, r_Model_token_118, r_Model_token_119, r_Model_token_122, r_Model_token_123, r_Model_token_126, r_Model_token_128, r_Model_token_131, r_Model_token_133, r_Model_token_134, r_Model_token_135, r_Model_token_137, r_Model_token_140, r_Model_token_141, r_Model_token_144, r_Model_token_145, r_Model_token_146, r_Model_token_149, r_Model_token_152, r_Model_token_154, r_Model_token_155, r_Model_token_156, r_Model_token_157, r_Model_token_158, r_Model_token_159, r_Model_token_160, r_Model_token_161, r_Model_token_164, r_Model_token_167, r_Model_token_170, r_Model_token_171, r_Model_token_174, r_Model_token_175, r_Model_token_176, r_Model_token_179, r_Model_token_182, r_Model_token_185, r_Model_token_186, r_Model_token_189, r_Model_token_190, r_Model_token_192, r_Model_token_195, r_Model_token_196, r_Model_token_199, r_Model_token_200, r_Model_token_201, r_Model_token_202, r_Model_token_203, r_Model_token_204, r_Model_token_205, r_Model_token_208, r_Model_token_209, r_Model_token_210, r_Model_token_213, r_Model_token_214, r_Model_token_215, r_Model_token_218, r_Model_token_219, r_Model_token_221, r_Model_token_224, r_Model_token_225, r_Model_token_226, r_Model_token_227, r_Model_token_230, r_Model_token_231, r_Model_token_233, r_Model_token_234, r_Model_token_237, r_Model_token_239, r_Model_token_242, r_Model_token_244, r_Model_token_246, r_Model_token_249, r_Model_token_250, r_Model_token_253, r_Model_token_255, r_Model_token_256, r_Model_token_257, r_Model_token_260, r_Model_token_263, r_Model_token_264, r_Model_token_266, r_Model_token_269, r_Model_token_270, r_Model_token_273, r_Model_token_275, ai_aload, ai_callv1, am_push, am_few, ai_getf, ai_putf, ai_const, ai_callv2, ai_istore, am_cut_0, am_cut_s, am_c1, ai_iload, ai_ifge, ai_iret, ai_cmpeq, ai_cmpne, ai_iadd, ai_bin, ai_goto, ai_calls1, ai_ifne, ai_ifeq, ai_isub, ai_ifle, ai_cmpge, ai_cmpgt, kd_0, fd_0_0, fd_0_1, fd_0_2, fd_0_3, fd_0_4, kd_1, fd_1_0, fd_1_1, ln_2, kd_3, fd_3_0, fd_3_1, fd_3_2, fd_3_3, fd_3_4, fd_3_5, fd_3_6, fd_3_7, fd_3_8, fd_3_9, ln_4, ln_5, ln_6, ln_7, ln_8, ln_9, ln_10, kd_11, fd_11_0, fd_11_1, fd_11_2, fd_11_3, fd_11_4, kd_12, fd_12_0, fd_12_1, fd_12_2, fd_12_3, ln_13, ln_14, ln_15, kd_16, fd_16_0, fd_16_1, fd_16_2, ln_17, kd_18, fd_18_0, fd_18_1, kd_19, fd_19_0, fd_19_1, fd_19_2, fd_19_3, fd_19_4, fd_19_5, fd_19_6, fd_19_7, fd_19_8, fd_19_9, fd_19_10, fd_19_11, fd_19_12, fd_19_13, fd_19_14, fd_19_15, fd_19_16, fd_19_17, fd_19_18, fd_19_19, fd_19_20, ln_20, ln_21, ln_22, ln_23, ln_24, ln_25, ln_26, ln_27, ln_28, ln_29, ln_30, ln_31, ln_32, List.getElem?_cons_zero, List.getElem?_cons_succ, List.set_cons_zero, List.set_cons_succ, true_and, and_true, ↓reduceIte, Int32.reduceLT, Int32.reduceLE, li_10, or_true, true_or, ↓sp_Model_skip, ↓sp_Model_peek, ↓sp_Model_isByte, ht, hb, hat, hS, am_up_ap, Nat.reduceEqDiff, hmu, htN, hpk, n0, hN2, nI_1, n40, n41, n39, p1, p2, w1, b2_eq0, Bool.true_eq_false]
    exact h
set_option maxRecDepth 100000 in
set_option maxHeartbeats 4000000 in
theorem ok_tkc_34 {G : aG} (hG : am_ok G) {K : aR} {M : aM} {S : Nat} (ht : mt_ok M) (hb : tb_ok M) (hat : at_ok M) (hS : skB (M 20) (m_tl M - cl (M 19 2)) false (cl (M 19 2)) = S) (htN : mt_ok (tkP M S)) (hatN : at_ok (tkP M S)) (hpk : m_at (tkP M S) 0 = 34) (h : strK K (tkP M S) (stE (tkP M S 20) (m_tl (tkP M S)) 21 (cl (tkP M S 19 2) + 1))) : am_Met G Y_Model_token 3 [.ref 19] M K := by
  have hmu := tkP_mu M S
  have n0 : ((0 : Int32) ≤ 34) = True := eq_true (by decide)
  have n40 : ((34 : Int32) = 40) = False := eq_false (by decide)
  have n41 : ((34 : Int32) = 41) = False := eq_false (by decide)
  have n39 : ((34 : Int32) = 39) = False := eq_false (by decide)
  have n46 : ((34 : Int32) = 46) = False := eq_false (by decide)
  refine am_entry hG (by decide +kernel) (Nat.le_of_ble_eq_true rfl) ?_
  refine am_go (cuts := k_Model_token) (tb_Model_token (ok_Model_skip hG) (by decide) (ok_Model_peek hG) (by decide) (ok_Model_isByte hG) (by decide) (ok_Model_string hG) (by decide) (ok_Model_isDigit hG) (by decide) (ok_Model_isBegin hG) (by decide)) 400 _ _ _ _ ?_
  change am_run _ _ _ _ _ _ [some (.ref 19), none, none, none, none] [] _
  simp only [q_Model_token_159, r_Model_token_0, r_Model_token_1, r_Model_token_4, r_Model_token_5, r_Model_token_6, r_Model_token_9, r_Model_token_12, r_Model_token_13, r_Model_token_14, r_Model_token_17, r_Model_token_18, r_Model_token_19, r_Model_token_22, r_Model_token_24, r_Model_token_25, r_Model_token_26, r_Model_token_28, r_Model_token_31, r_Model_token_32, r_Model_token_34, r_Model_token_37, r_Model_token_38, r_Model_token_40, r_Model_token_43, r_Model_token_44, r_Model_token_45, r_Model_token_48, r_Model_token_49, r_Model_token_50, r_Model_token_53, r_Model_token_54, r_Model_token_56, r_Model_token_59, r_Model_token_61, r_Model_token_64, r_Model_token_65, r_Model_token_67, r_Model_token_70, r_Model_token_72, r_Model_token_75, r_Model_token_77, r_Model_token_78, r_Model_token_79, r_Model_token_81, r_Model_token_84, r_Model_token_85, r_Model_token_86, r_Model_token_89, r_Model_token_92, r_Model_token_95, r_Model_token_96, r_Model_token_97, r_Model_token_100, r_Model_token_103, r_Model_token_106, r_Model_token_107, r_Model_token_110, r_Model_token_111, r_Model_token_112, r_Model_token_113, r_Model_token_114, r_Model_token_117, r_Model_token_118, r_Model_token_119, r_Model_token_122, r_Model_token_123, r_Model_token_126, r_Model_token_128, r_Model_token_131, r_Model_token_133, r_Model_token_134, r_Model_token_135, r_Model_token_137, r_Model_token_140, r_Model_token_141, r_Model_token_144, r_Model_token_145, r_Model_token_146, r_Model_token_149, r_Model_token_152, r_Model_token_154, r_Model_token_155, r_Model_token_156, r_Model_token_157, r_Model_token_158, r_Model_token_159, r_Model_token_160, r_Model_token_161, r_Model_token_164, r_Model_token_167, r_Model_token_170, r_Model_token_171, r_Model_token_174, r_Model_token_175, r_Model_token_176, r_Model_token_179, r_Model_token_182, r_Model_token_185, r_Model_token_186, r_Model_token_189, r_Model_token_190, r_Model_token_192, r_Model_token_195, r_Model_token_196, r_Model_token_199, r_Model_token_200, r_Model_token_201, r_Model_token_202, r_Model_token_203, r_Model_token_204, r_Model_token_205, r_Model_token_208, r_Model_token_209, r_Model_token_210, r_Model_token_213, r_Model_token_214, r_Model_token_215, r_Model_token_218, r_Model_token_219, r_Model_token_221, r_Model_token_224, r_Model_token_225, r_Model_token_226, r_Model_token_227, r_Model_token_230, r_Model_token_231, r_Model_token_233, r_Model_token_234, r_Model_token_237, r_Model_token_239, r_Model_token_242, r_Model_token_244, r_Model_token_246, r_Model_token_249, r_Model_token_250, r_Model_token_253, r_Model_token_255, r_Model_token_256, r_Model_token_257, r_Model_token_260, r_Model_token_263, r_Model_token_264, r_Model_token_266, r_Model_token_269, r_Model_token_270, r_Model_token_273, r_Model_token_275, ai_aload, ai_callv1, am_push, am_few, ai_getf, ai_putf, ai_const, ai_callv2, ai_istore, am_cut_0, am_cut_s, am_c1, ai_iload, ai_ifge, ai_iret, ai_cmpeq, ai_cmpne, ai_iadd, ai_bin, ai_goto, ai_calls1, ai_ifne, ai_ifeq, ai_isub, ai_ifle, ai_cmpge, ai_cmpgt, kd_0, fd_0_0, fd_0_1, fd_0_2, fd_0_3, fd_0_4, kd_1, fd_1_0, fd_1_1, ln_2, kd_3, fd_3_0, fd_3_1, fd_3_2, fd_3_3, fd_3_4, fd_3_5, fd_3_6, fd_3_7, fd_3_8, fd_3_9, ln_4, ln_5, ln_6, ln_7, ln_8, ln_9, ln_10, kd_11, fd_11_0, fd_11_1, fd_11_2, fd_11_3, fd_11_4, kd_12, fd_12_0, fd_12_1, fd_12_2, fd_12_3, ln_13, ln_14, ln_15, kd_16, fd_16_0, fd_16_1, fd_16_2, ln_17, kd_18, fd_18_0, fd_18_1, kd_19, fd_19_0, fd_19_1, fd_19_2, fd_19_3, fd_19_4, fd_19_5, fd_19_6, fd_19_7, fd_19_8, fd_19_9, fd_19_10, fd_19_11, fd_19_12, fd_19_13, fd_19_14, fd_19_15, fd_19_16, fd_19_17, fd_19_18, fd_19_19, fd_19_20, ln_20, ln_21, ln_22, ln_23, ln_24, ln_25, ln_26, ln_27, ln_28, ln_29, ln_30, ln_31, ln_32, List.getElem?_cons_zero, List.getElem?_cons_succ, List.set_cons_zero, List.set_cons_succ, true_and, and_true, ↓reduceIte, Int32.reduceLT, Int32.reduceLE, li_10, or_true, true_or, ↓sp_Model_skip, ↓sp_Model_peek, ↓sp_Model_string, ht, hb, hat, hS, am_up_ap, Nat.reduceEqDiff, hmu, htN, hpk, n0, hatN, n40, n41, n39, n46]
  exact h
set_option maxRecDepth 100000 in
set_option maxHeartbeats 4000000 in
theorem ok_tkc_bad {G : aG} (hG : am_ok G) {K : aR} {M : aM} {S : Nat} (ht : mt_ok M) (hb : tb_ok M) (hat : at_ok M) (hS : skB (M 20) (m_tl M - cl (M 19 2)) false (cl (M 19 2)) = S) (htN : mt_ok (tkP M S)) {B : Int32} (hpk : m_at (tkP M S) 0 = B) (n0 : 0 ≤ B) (n40 : ¬ B = 40) (n41 : ¬ B = 41) (n39 : ¬ B = 39) (n46 : ¬ B = 46) (n34 : ¬ B = 34) (cw : wB B = false) (h : K (some (.int 11)) (tkP M S)) : am_Met G Y_Model_token 3 [.ref 19] M K := by
  have hmu := tkP_mu M S
  refine am_entry hG (by decide +kernel) (Nat.le_of_ble_eq_true rfl) ?_
  refine am_go (cuts := k_Model_token) (tb_Model_token (ok_Model_skip hG) (by decide) (ok_Model_peek hG) (by decide) (ok_Model_isByte hG) (by decide) (ok_Model_string hG) (by decide) (ok_Model_isDigit hG) (by decide) (ok_Model_isBegin hG) (by decide)) 400 _ _ _ _ ?_
  change am_run _ _ _ _ _ _ [some (.ref 19), none, none, none, none] [] _
  simp only [q_Model_token_159, r_Model_token_0, r_Model_token_1, r_Model_token_4, r_Model_token_5, r_Model_token_6, r_Model_token_9, r_Model_token_12, r_Model_token_13, r_Model_token_14, r_Model_token_17, r_Model_token_18, r_Model_token_19, r_Model_token_22, r_Model_token_24, r_Model_token_25, r_Model_token_26, r_Model_token_28, r_Model_token_31, r_Model_token_32, r_Model_token_34, r_Model_token_37, r_Model_token_38, r_Model_token_40, r_Model_token_43, r_Model_token_44, r_Model_token_45, r_Model_token_48, r_Model_token_49, r_Model_token_50, r_Model_token_53, r_Model_token_54, r_Model_token_56, r_Model_token_59, r_Model_token_61, r_Model_token_64, r_Model_token_65, r_Model_token_67, r_Model_token_70, r_Model_token_72, r_Model_token_75, r_Model_token_77, r_Model_token_78, r_Model_token_79, r_Model_token_81, r_Model_token_84, r_Model_token_85, r_Model_token_86, r_Model_token_89, r_Model_token_92, r_Model_token_95, r_Model_token_96, r_Model_token_97, r_Model_token_100, r_Model_token_103, r_Model_token_106, r_Model_token_107, r_Model_token_110, r_Model_token_111, r_Model_token_112, r_Model_token_113, r_Model_token_114, r_Model_token_117, r_Model_token_118, r_Model_token_119, r_Model_token_122, r_Model_token_123, r_Model_token_126, r_Model_token_128, r_Model_token_131, r_Model_token_133, r_Model_token_134, r_Model_token_135, r_Model_token_137, r_Model_token_140, r_Model_token_141, r_Model_token_144, r_Model_token_145, r_Model_token_146, r_Model_token_149, r_Model_token_152, r_Model_token_154, r_Model_token_155, r_Model_token_156, r_Model_token_157, r_Model_token_158, r_Model_token_159, r_Model_token_160, r_Model_token_161, r_Model_token_164, r_Model_token_167, r_Model_token_170, r_Model_token_171, r_Model_token_174, r_Model_token_175, r_Model_token_176, r_Model_token_179, r_Model_token_182, r_Model_token_185, r_Model_token_186, r_Model_token_189, r_Model_token_190, r_Model_token_192, r_Model_token_195, r_Model_token_196, r_Model_token_199, r_Model_token_200, r_Model_token_201, r_Model_token_202, r_Model_token_203, r_Model_token_204, r_Model_token_205, r_Model_token_208, r_Model_token_209, r_Model_token_210, r_Model_token_213, r_Model_token_214, r_Model_token_215, r_Model_token_218, r_Model_token_219, r_Model_token_221, r_Model_token_224, r_Model_token_225, r_Model_token_226, r_Model_token_227, r_Model_token_230, r_Model_token_231, r_Model_token_233, r_Model_token_234, r_Model_token_237, r_Model_token_239, r_Model_token_242, r_Model_token_244, r_Model_token_246, r_Model_token_249, r_Model_token_250, r_Model_token_253, r_Model_token_255, r_Model_token_256, r_Model_token_257, r_Model_token_260, r_Model_token_263, r_Model_token_264, r_Model_token_266, r_Model_token_269, r_Model_token_270, r_Model_token_273, r_Model_token_275, ai_aload, ai_callv1, am_push, am_few, ai_getf, ai_putf, ai_const, ai_callv2, ai_istore, am_cut_0, am_cut_s, am_c1, ai_iload, ai_ifge, ai_iret, ai_cmpeq, ai_cmpne, ai_iadd, ai_bin, ai_goto, ai_calls1, ai_ifne, ai_ifeq, ai_isub, ai_ifle, ai_cmpge, ai_cmpgt, kd_0, fd_0_0, fd_0_1, fd_0_2, fd_0_3, fd_0_4, kd_1, fd_1_0, fd_1_1, ln_2, kd_3, fd_3_0, fd_3_1, fd_3_2, fd_3_3, fd_3_4, fd_3_5, fd_3_6, fd_3_7, fd_3_8, fd_3_9, ln_4, ln_5, ln_6, ln_7, ln_8, ln_9, ln_10, kd_11, fd_11_0, fd_11_1, fd_11_2, fd_11_3, fd_11_4, kd_12, fd_12_0, fd_12_1, fd_12_2, fd_12_3, ln_13, ln_14, ln_15, kd_16, fd_16_0, fd_16_1, fd_16_2, ln_17, kd_18, fd_18_0, fd_18_1, kd_19, fd_19_0, fd_19_1, fd_19_2, fd_19_3, fd_19_4, fd_19_5, fd_19_6, fd_19_7, fd_19_8, fd_19_9, fd_19_10, fd_19_11, fd_19_12, fd_19_13, fd_19_14, fd_19_15, fd_19_16, fd_19_17, fd_19_18, fd_19_19, fd_19_20, ln_20, ln_21, ln_22, ln_23, ln_24, ln_25, ln_26, ln_27, ln_28, ln_29, ln_30, ln_31, ln_32, List.getElem?_cons_zero, List.getElem?_cons_succ, List.set_cons_zero, List.set_cons_succ, true_and, and_true, ↓reduceIte, Int32.reduceLT, Int32.reduceLE, li_10, or_true, true_or, ↓sp_Model_skip, ↓sp_Model_peek, ↓sp_Model_isByte, ht, hb, hat, hS, am_up_ap, Nat.reduceEqDiff, hmu, htN, hpk, n0, n40, n41, n39, n46, n34, cw, b2_eq0]
  exact h
set_option maxRecDepth 100000 in
set_option maxHeartbeats 4000000 in
theorem ok_tkc_w0 {G : aG} (hG : am_ok G) {K : aR} {N : aM} {B : Int32} (htN : mt_ok N) (hpk : m_at N 0 = B) (cw : wB B = true) (L : am_X G Y_Model_token 3 K 159 [some (.ref 19), some (.int B), some (.int (nI 1)), some (.int (b2 (dgB B || decide (B = 45)))), none] [] N) : am_X G Y_Model_token 3 K 159 [some (.ref 19), some (.int B), some (.int 0), some (.int 1), none] [] N := by
  have e01 : (0 : Int32) + 1 = nI 1 := rfl
  cases cd : dgB B
  · rw [cd] at L
    by_cases c45 : B = 45
    · have c45' : (B = 45) = True := eq_true c45
      rw [decide_eq_true c45] at L
      refine am_from (tb_Model_token (ok_Model_skip hG) (by decide) (ok_Model_peek hG) (by decide) (ok_Model_isByte hG) (by decide) (ok_Model_string hG) (by decide) (ok_Model_isDigit hG) (by decide) (ok_Model_isBegin hG) (by decide)) k_Model_token 400 ?_
      simp only [q_Model_token_159, r_Model_token_0, r_Model_token_1, r_Model_token_4, r_Model_token_5, r_Model_token_6, r_Model_token_9, r_Model_token_12, r_Model_token_13, r_Model_token_14, r_Model_token_17, r_Model_token_18, r_Model_token_19, r_Model_token_22, r_Model_token_24, r_Model_token_25, r_Model_token_26, r_Model_token_28, r_Model_token_31, r_Model_token_32, r_Model_token_34, r_Model_token_37, r_Model_token_38, r_Model_token_40, r_Model_token_43, r_Model_token_44, r_Model_token_45, r_Model_token_48, r_Model_token_49, r_Model_token_50, r_Model_token_53, r_Model_token_54, r_Model_token_56, r_Model_token_59, r_Model_token_61, r_Model_token_64, r_Model_token_65, r_Model_token_67, r_Model_token_70, r_Model_token_72, r_Model_token_75, r_Model_token_77, r_Model_token_78, r_Model_token_79, r_Model_token_81, r_Model_token_84, r_Model_token_85, r_Model_token_86, r_Model_token_89, r_Model_token_92, r_Model_token_95, r_Model_token_96, r_Model_token_97, r_Model_token_100, r_Model_token_103, r_Model_token_106, r_Model_token_107, r_Model_token_110, r_Model_token_111, r_Model_token_112, r_Model_token_113, r_Model_token_114, r_Model_token_117, r_Model_token_118, r_Model_token_119, r_Model_token_122, r_Model_token_123, r_Model_token_126, r_Model_token_128, r_Model_token_131, r_Model_token_133, r_Model_token_134, r_Model_token_135, r_Model_token_137, r_Model_token_140, r_Model_token_141, r_Model_token_144, r_Model_token_145, r_Model_token_146, r_Model_token_149, r_Model_token_152, r_Model_token_154, r_Model_token_155, r_Model_token_156, r_Model_token_157, r_Model_token_158, r_Model_token_159, r_Model_token_160, r_Model_token_161, r_Model_token_164, r_Model_token_167, r_Model_token_170, r_Model_token_171, r_Model_token_174, r_Model_token_175, r_Model_token_176, r_Model_token_179, r_Model_token_182, r_Model_token_185, r_Model_token_186, r_Model_token_189, r_Model_token_190, r_Model_token_192, r_Model_token_195, r_Model_token_196, r_Model_token_199, r_Model_token_200, r_Model_token_201, r_Model_token_202, r_Model_token_203, r_Model_token_204, r_Model_token_205, r_Model_token_208, r_Model_token_209, r_Model_token_210, r_Model_token_213, r_Model_token_214, r_Model_token_215, r_Model_token_218, r_Model_token_219, r_Model_token_221, r_Model_token_224, r_Model_token_225, r_Model_token_226, r_Model_token_227, r_Model_token_230, r_Model_token_231, r_Model_token_233, r_Model_token_234, r_Model_token_237, r_Model_token_239, r_Model_token_242, r_Model_token_244, r_Model_token_246, r_Model_token_249, r_Model_token_250, r_Model_token_253, r_Model_token_255, r_Model_token_256, r_Model_token_257, r_Model_token_260, r_Model_token_263, r_Model_token_264, r_Model_token_266, r_Model_token_269, r_Model_token_270, r_Model_token_273, r_Model_token_275, ai_aload, ai_callv1, am_push, am_few, ai_getf, ai_putf, ai_const, ai_callv2, ai_istore, am_cut_0, am_cut_s, am_c1, ai_iload, ai_ifge, ai_iret, ai_cmpeq, ai_cmpne, ai_iadd, ai_bin, ai_goto, ai_calls1, ai_ifne, ai_ifeq, ai_isub, ai_ifle, ai_cmpge, ai_cmpgt, kd_0, fd_0_0, fd_0_1, fd_0_2, fd_0_3, fd_0_4, kd_1, fd_1_0, fd_1_1, ln_2, kd_3, fd_3_0, fd_3_1, fd_3_2, fd_3_3, fd_3_4, fd_3_5, fd_3_6, fd_3_7, fd_3_8, fd_3_9, ln_4, ln_5, ln_6, ln_7, ln_8, ln_9, ln_10, kd_11, fd_11_0, fd_11_1, fd_11_2, fd_11_3, fd_11_4, kd_12, fd_12_0, fd_12_1, fd_12_2, fd_12_3, ln_13, ln_14, ln_15, kd_16, fd_16_0, fd_16_1, fd_16_2, ln_17, kd_18, fd_18_0, fd_18_1, kd_19, fd_19_0, fd_19_1, fd_19_2, fd_19_3, fd_19_4, fd_19_5, fd_19_6, fd_19_7, fd_19_8, fd_19_9, fd_19_10, fd_19_11, fd_19_12, fd_19_13, fd_19_14, fd_19_15, fd_19_16, fd_19_17, fd_19_18, fd_19_19, fd_19_20, ln_20, ln_21, ln_22, ln_23, ln_24, ln_25, ln_26, ln_27, ln_28, ln_29, ln_30, ln_31, ln_32, List.getElem?_cons_zero, List.getElem?_cons_succ, List.set_cons_zero, List.set_cons_succ, true_and, and_true, ↓reduceIte, Int32.reduceLT, Int32.reduceLE, li_10, or_true, true_or, ↓sp_Model_peek, ↓sp_Model_isByte, ↓sp_Model_isDigit, htN, hpk, cw, cd, c45', b2_eq0, Bool.true_eq_false, e01]
      exact L
    · rw [decide_eq_false c45] at L
      refine am_from (tb_Model_token (ok_Model_skip hG) (by decide) (ok_Model_peek hG) (by decide) (ok_Model_isByte hG) (by decide) (ok_Model_string hG) (by decide) (ok_Model_isDigit hG) (by decide) (ok_Model_isBegin hG) (by decide)) k_Model_token 400 ?_
      simp only [q_Model_token_159, r_Model_token_0, r_Model_token_1, r_Model_token_4, r_Model_token_5, r_Model_token_6, r_Model_token_9, r_Model_token_12, r_Model_token_13, r_Model_token_14, r_Model_token_17, r_Model_token_18, r_Model_token_19, r_Model_token_22, r_Model_token_24, r_Model_token_25, r_Model_token_26, r_Model_token_28, r_Model_token_31, r_Model_token_32, r_Model_token_34, r_Model_token_37, r_Model_token_38, r_Model_token_40, r_Model_token_43, r_Model_token_44, r_Model_token_45, r_Model_token_48, r_Model_token_49, r_Model_token_50, r_Model_token_53, r_Model_token_54, r_Model_token_56, r_Model_token_59, r_Model_token_61, r_Model_token_64, r_Model_token_65, r_Model_token_67, r_Model_token_70, r_Model_token_72, r_Model_token_75, r_Model_token_77, r_Model_token_78, r_Model_token_79, r_Model_token_81, r_Model_token_84, r_Model_token_85, r_Model_token_86, r_Model_token_89, r_Model_token_92, r_Model_token_95, r_Model_token_96, r_Model_token_97, r_Model_token_100, r_Model_token_103, r_Model_token_106, r_Model_token_107, r_Model_token_110, r_Model_token_111, r_Model_token_112, r_Model_token_113, r_Model_token_114, r_Model_token_117, r_Model_token_118, r_Model_token_119, r_Model_token_122, r_Model_token_123, r_Model_token_126, r_Model_token_128, r_Model_token_131, r_Model_token_133, r_Model_token_134, r_Model_token_135, r_Model_token_137, r_Model_token_140, r_Model_token_141, r_Model_token_144, r_Model_token_145, r_Model_token_146, r_Model_token_149, r_Model_token_152, r_Model_token_154, r_Model_token_155, r_Model_token_156, r_Model_token_157, r_Model_token_158, r_Model_token_159, r_Model_token_160, r_Model_token_161, r_Model_token_164, r_Model_token_167, r_Model_token_170, r_Model_token_171, r_Model_token_174, r_Model_token_175, r_Model_token_176, r_Model_token_179, r_Model_token_182, r_Model_token_185, r_Model_token_186, r_Model_token_189, r_Model_token_190, r_Model_token_192, r_Model_token_195, r_Model_token_196, r_Model_token_199, r_Model_token_200, r_Model_token_201, r_Model_token_202, r_Model_token_203, r_Model_token_204, r_Model_token_205, r_Model_token_208, r_Model_token_209, r_Model_token_210, r_Model_token_213, r_Model_token_214, r_Model_token_215, r_Model_token_218, r_Model_token_219, r_Model_token_221, r_Model_token_224, r_Model_token_225, r_Model_token_226, r_Model_token_227, r_Model_token_230, r_Model_token_231, r_Model_token_233, r_Model_token_234, r_Model_token_237, r_Model_token_239, r_Model_token_242, r_Model_token_244, r_Model_token_246, r_Model_token_249, r_Model_token_250, r_Model_token_253, r_Model_token_255, r_Model_token_256, r_Model_token_257, r_Model_token_260, r_Model_token_263, r_Model_token_264, r_Model_token_266, r_Model_token_269, r_Model_token_270, r_Model_token_273, r_Model_token_275, ai_aload, ai_callv1, am_push, am_few, ai_getf, ai_putf, ai_const, ai_callv2, ai_istore, am_cut_0, am_cut_s, am_c1, ai_iload, ai_ifge, ai_iret, ai_cmpeq, ai_cmpne, ai_iadd, ai_bin, ai_goto, ai_calls1, ai_ifne, ai_ifeq, ai_isub, ai_ifle, ai_cmpge, ai_cmpgt, kd_0, fd_0_0, fd_0_1, fd_0_2, fd_0_3, fd_0_4, kd_1, fd_1_0, fd_1_1, ln_2, kd_3, fd_3_0, fd_3_1, fd_3_2, fd_3_3, fd_3_4, fd_3_5, fd_3_6, fd_3_7, fd_3_8, fd_3_9, ln_4, ln_5, ln_6, ln_7, ln_8, ln_9, ln_10, kd_11, fd_11_0, fd_11_1, fd_11_2, fd_11_3, fd_11_4, kd_12, fd_12_0, fd_12_1, fd_12_2, fd_12_3, ln_13, ln_14, ln_15, kd_16, fd_16_0, fd_16_1, fd_16_2, ln_17, kd_18, fd_18_0, fd_18_1, kd_19, fd_19_0, fd_19_1, fd_19_2, fd_19_3, fd_19_4, fd_19_5, fd_19_6, fd_19_7, fd_19_8, fd_19_9, fd_19_10, fd_19_11, fd_19_12, fd_19_13, fd_19_14, fd_19_15, fd_19_16, fd_19_17, fd_19_18, fd_19_19, fd_19_20, ln_20, ln_21, ln_22, ln_23, ln_24, ln_25, ln_26, ln_27, ln_28, ln_29, ln_30, ln_31, ln_32, List.getElem?_cons_zero, List.getElem?_cons_succ, List.set_cons_zero, List.set_cons_succ, true_and, and_true, ↓reduceIte, Int32.reduceLT, Int32.reduceLE, li_10, or_true, true_or, ↓sp_Model_peek, ↓sp_Model_isByte, ↓sp_Model_isDigit, htN, hpk, cw, cd, c45, b2_eq0, Bool.true_eq_false, e01]
      exact L
  · rw [cd] at L
    refine am_from (tb_Model_token (ok_Model_skip hG) (by decide) (ok_Model_peek hG) (by decide) (ok_Model_isByte hG) (by decide) (ok_Model_string hG) (by decide) (ok_Model_isDigit hG) (by decide) (ok_Model_isBegin hG) (by decide)) k_Model_token 400 ?_
    simp only [q_Model_token_159, r_Model_token_0, r_Model_token_1, r_Model_token_4, r_Model_token_5, r_Model_token_6, r_Model_token_9, r_Model_token_12, r_Model_token_13, r_Model_token_14, r_Model_token_17, r_Model_token_18, r_Model_token_19, r_Model_token_22, r_Model_token_24, r_Model_token_25, r_Model_token_26, r_Model_token_28, r_Model_token_31, r_Model_token_32, r_Model_token_34, r_Model_token_37, r_Model_token_38, r_Model_token_40, r_Model_token_43, r_Model_token_44, r_Model_token_45, r_Model_token_48, r_Model_token_49, r_Model_token_50, r_Model_token_53, r_Model_token_54, r_Model_token_56, r_Model_token_59, r_Model_token_61, r_Model_token_64, r_Model_token_65, r_Model_token_67, r_Model_token_70, r_Model_token_72, r_Model_token_75, r_Model_token_77, r_Model_token_78, r_Model_token_79, r_Model_token_81, r_Model_token_84, r_Model_token_85, r_Model_token_86, r_Model_token_89, r_Model_token_92, r_Model_token_95, r_Model_token_96, r_Model_token_97, r_Model_token_100, r_Model_token_103, r_Model_token_106, r_Model_token_107, r_Model_token_110, r_Model_token_111, r_Model_token_112, r_Model_token_113, r_Model_token_114, r_Model_token_117, r_Model_token_118, r_Model_token_119, r_Model_token_122, r_Model_token_123, r_Model_token_126, r_Model_token_128, r_Model_token_131, r_Model_token_133, r_Model_token_134, r_Model_token_135, r_Model_token_137, r_Model_token_140, r_Model_token_141, r_Model_token_144, r_Model_token_145, r_Model_token_146, r_Model_token_149, r_Model_token_152, r_Model_token_154, r_Model_token_155, r_Model_token_156, r_Model_token_157, r_Model_token_158, r_Model_token_159, r_Model_token_160, r_Model_token_161, r_Model_token_164, r_Model_token_167, r_Model_token_170, r_Model_token_171, r_Model_token_174, r_Model_token_175, r_Model_token_176, r_Model_token_179, r_Model_token_182, r_Model_token_185, r_Model_token_186, r_Model_token_189, r_Model_token_190, r_Model_token_192, r_Model_token_195, r_Model_token_196, r_Model_token_199, r_Model_token_200, r_Model_token_201, r_Model_token_202, r_Model_token_203, r_Model_token_204, r_Model_token_205, r_Model_token_208, r_Model_token_209, r_Model_token_210, r_Model_token_213, r_Model_token_214, r_Model_token_215, r_Model_token_218, r_Model_token_219, r_Model_token_221, r_Model_token_224, r_Model_token_225, r_Model_token_226, r_Model_token_227, r_Model_token_230, r_Model_token_231, r_Model_token_233, r_Model_token_234, r_Model_token_237, r_Model_token_239, r_Model_token_242, r_Model_token_244, r_Model_token_246, r_Model_token_249, r_Model_token_250, r_Model_token_253, r_Model_token_255, r_Model_token_256, r_Model_token_257, r_Model_token_260, r_Model_token_263, r_Model_token_264, r_Model_token_266, r_Model_token_269, r_Model_token_270, r_Model_token_273, r_Model_token_275, ai_aload, ai_callv1, am_push, am_few, ai_getf, ai_putf, ai_const, ai_callv2, ai_istore, am_cut_0, am_cut_s, am_c1, ai_iload, ai_ifge, ai_iret, ai_cmpeq, ai_cmpne, ai_iadd, ai_bin, ai_goto, ai_calls1, ai_ifne, ai_ifeq, ai_isub, ai_ifle, ai_cmpge, ai_cmpgt, kd_0, fd_0_0, fd_0_1, fd_0_2, fd_0_3, fd_0_4, kd_1, fd_1_0, fd_1_1, ln_2, kd_3, fd_3_0, fd_3_1, fd_3_2, fd_3_3, fd_3_4, fd_3_5, fd_3_6, fd_3_7, fd_3_8, fd_3_9, ln_4, ln_5, ln_6, ln_7, ln_8, ln_9, ln_10, kd_11, fd_11_0, fd_11_1, fd_11_2, fd_11_3, fd_11_4, kd_12, fd_12_0, fd_12_1, fd_12_2, fd_12_3, ln_13, ln_14, ln_15, kd_16, fd_16_0, fd_16_1, fd_16_2, ln_17, kd_18, fd_18_0, fd_18_1, kd_19, fd_19_0, fd_19_1, fd_19_2, fd_19_3, fd_19_4, fd_19_5, fd_19_6, fd_19_7, fd_19_8, fd_19_9, fd_19_10, fd_19_11, fd_19_12, fd_19_13, fd_19_14, fd_19_15, fd_19_16, fd_19_17, fd_19_18, fd_19_19, fd_19_20, ln_20, ln_21, ln_22, ln_23, ln_24, ln_25, ln_26, ln_27, ln_28, ln_29, ln_30, ln_31, ln_32, List.getElem?_cons_zero, List.getElem?_cons_succ, List.set_cons_zero, List.set_cons_succ, true_and, and_true, ↓reduceIte, Int32.reduceLT, Int32.reduceLE, li_10, or_true, true_or, ↓sp_Model_peek, ↓sp_Model_isByte, ↓sp_Model_isDigit, htN, hpk, cw, cd, b2_eq0, Bool.true_eq_false, e01]
    exact L
set_option maxRecDepth 100000 in
set_option maxHeartbeats 4000000 in
theorem ok_tkc_word {G : aG} (hG : am_ok G) {K : aR} {M : aM} {S : Nat} (ht : mt_ok M) (hb : tb_ok M) (hat : at_ok M) (hS : skB (M 20) (m_tl M - cl (M 19 2)) false (cl (M 19 2)) = S) (htN : mt_ok (tkP M S)) {B : Int32} (hpk : m_at (tkP M S) 0 = B) (n0 : 0 ≤ B) (n40 : ¬ B = 40) (n41 : ¬ B = 41) (n39 : ¬ B = 39) (n46 : ¬ B = 46) (n34 : ¬ B = 34) (cw : wB B = true) (L : am_X G Y_Model_token 3 K 159 [some (.ref 19), some (.int B), some (.int 0), some (.int 1), none] [] (tkP M S)) : am_Met G Y_Model_token 3 [.ref 19] M K := by
  have hmu := tkP_mu M S
  refine am_entry hG (by decide +kernel) (Nat.le_of_ble_eq_true rfl) ?_
  refine am_go (cuts := k_Model_token) (tb_Model_token (ok_Model_skip hG) (by decide) (ok_Model_peek hG) (by decide) (ok_Model_isByte hG) (by decide) (ok_Model_string hG) (by decide) (ok_Model_isDigit hG) (by decide) (ok_Model_isBegin hG) (by decide)) 400 _ _ _ _ ?_
  change am_run _ _ _ _ _ _ [some (.ref 19), none, none, none, none] [] _
  simp only [q_Model_token_159, r_Model_token_0, r_Model_token_1, r_Model_token_4, r_Model_token_5, r_Model_token_6, r_Model_token_9, r_Model_token_12, r_Model_token_13, r_Model_token_14, r_Model_token_17, r_Model_token_18, r_Model_token_19, r_Model_token_22, r_Model_token_24, r_Model_token_25, r_Model_token_26, r_Model_token_28, r_Model_token_31, r_Model_token_32, r_Model_token_34, r_Model_token_37, r_Model_token_38, r_Model_token_40, r_Model_token_43, r_Model_token_44, r_Model_token_45, r_Model_token_48, r_Model_token_49, r_Model_token_50, r_Model_token_53, r_Model_token_54, r_Model_token_56, r_Model_token_59, r_Model_token_61, r_Model_token_64, r_Model_token_65, r_Model_token_67, r_Model_token_70, r_Model_token_72, r_Model_token_75, r_Model_token_77, r_Model_token_78, r_Model_token_79, r_Model_token_81, r_Model_token_84, r_Model_token_85, r_Model_token_86, r_Model_token_89, r_Model_token_92, r_Model_token_95, r_Model_token_96, r_Model_token_97, r_Model_token_100, r_Model_token_103, r_Model_token_106, r_Model_token_107, r_Model_token_110, r_Model_token_111, r_Model_token_112, r_Model_token_113, r_Model_token_114, r_Model_token_117, r_Model_token_118, r_Model_token_119, r_Model_token_122, r_Model_token_123, r_Model_token_126, r_Model_token_128, r_Model_token_131, r_Model_token_133, r_Model_token_134, r_Model_token_135, r_Model_token_137, r_Model_token_140, r_Model_token_141, r_Model_token_144, r_Model_token_145, r_Model_token_146, r_Model_token_149, r_Model_token_152, r_Model_token_154, r_Model_token_155, r_Model_token_156, r_Model_token_157, r_Model_token_158, r_Model_token_159, r_Model_token_160, r_Model_token_161, r_Model_token_164, r_Model_token_167, r_Model_token_170, r_Model_token_171, r_Model_token_174, r_Model_token_175, r_Model_token_176, r_Model_token_179, r_Model_token_182, r_Model_token_185, r_Model_token_186, r_Model_token_189, r_Model_token_190, r_Model_token_192, r_Model_token_195, r_Model_token_196, r_Model_token_199, r_Model_token_200, r_Model_token_201, r_Model_token_202, r_Model_token_203, r_Model_token_204, r_Model_token_205, r_Model_token_208, r_Model_token_209, r_Model_token_210, r_Model_token_213, r_Model_token_214, r_Model_token_215, r_Model_token_218, r_Model_token_219, r_Model_token_221, r_Model_token_224, r_Model_token_225, r_Model_token_226, r_Model_token_227, r_Model_token_230, r_Model_token_231, r_Model_token_233, r_Model_token_234, r_Model_token_237, r_Model_token_239, r_Model_token_242, r_Model_token_244, r_Model_token_246, r_Model_token_249, r_Model_token_250, r_Model_token_253, r_Model_token_255, r_Model_token_256, r_Model_token_257, r_Model_token_260, r_Model_token_263, r_Model_token_264, r_Model_token_266, r_Model_token_269, r_Model_token_270, r_Model_token_273, r_Model_token_275, ai_aload, ai_callv1, am_push, am_few, ai_getf, ai_putf, ai_const, ai_callv2, ai_istore, am_cut_0, am_cut_s, am_c1, ai_iload, ai_ifge, ai_iret, ai_cmpeq, ai_cmpne, ai_iadd, ai_bin, ai_goto, ai_calls1, ai_ifne, ai_ifeq, ai_isub, ai_ifle, ai_cmpge, ai_cmpgt, kd_0, fd_0_0, fd_0_1, fd_0_2, fd_0_3, fd_0_4, kd_1, fd_1_0, fd_1_1, ln_2, kd_3, fd_3_0, fd_3_1, fd_3_2, fd_3_3, fd_3_4, fd_3_5, fd_3_6, fd_3_7, fd_3_8, fd_3_9, ln_4, ln_5, ln_6, ln_7, ln_8, ln_9, ln_10, kd_11, fd_11_0, fd_11_1, fd_11_2, fd_11_3, fd_11_4, kd_12, fd_12_0, fd_12_1, fd_12_2, fd_12_3, ln_13, ln_14, ln_15, kd_16, fd_16_0, fd_16_1, fd_16_2, ln_17, kd_18, fd_18_0, fd_18_1, kd_19, fd_19_0, fd_19_1, fd_19_2, fd_19_3, fd_19_4, fd_19_5, fd_19_6, fd_19_7, fd_19_8, fd_19_9, fd_19_10, fd_19_11, fd_19_12, fd_19_13, fd_19_14, fd_19_15, fd_19_16, fd_19_17, fd_19_18, fd_19_19, fd_19_20, ln_20, ln_21, ln_22, ln_23, ln_24, ln_25, ln_26, ln_27, ln_28, ln_29, ln_30, ln_31, ln_32, List.getElem?_cons_zero, List.getElem?_cons_succ, List.set_cons_zero, List.set_cons_succ, true_and, and_true, ↓reduceIte, Int32.reduceLT, Int32.reduceLE, li_10, or_true, true_or, ↓sp_Model_skip, ↓sp_Model_peek, ↓sp_Model_isByte, ht, hb, hat, hS, am_up_ap, Nat.reduceEqDiff, hmu, htN, hpk, n0, n40, n41, n39, n46, n34, cw, b2_eq0, Bool.true_eq_false]
  exact L
theorem ft_10 (V : aM) (S : Nat) : f_tend V S 10 = nI (S + 1) := by unfold f_tend; rw [if_neg (by decide), if_neg (by decide), if_neg (by decide), if_neg (by decide), if_neg (by decide)]
theorem ft_6 (V : aM) (S : Nat) : f_tend V S 6 = nI (S + 1) := by unfold f_tend; rw [if_neg (by decide), if_neg (by decide), if_neg (by decide), if_neg (by decide), if_neg (by decide)]
theorem ft_7 (V : aM) (S : Nat) : f_tend V S 7 = nI (S + 1) := by unfold f_tend; rw [if_neg (by decide), if_neg (by decide), if_neg (by decide), if_neg (by decide), if_neg (by decide)]
theorem ft_8 (V : aM) (S : Nat) : f_tend V S 8 = nI (S + 1) := by unfold f_tend; rw [if_neg (by decide), if_neg (by decide), if_neg (by decide), if_neg (by decide), if_neg (by decide)]
theorem ft_9 (V : aM) (S : Nat) : f_tend V S 9 = if wB (f_at V (nI S - 1)) = true then -1 else if wB (bt (V 2) (tl V) (S + 1)) = true then -1 else nI (S + 1) := by unfold f_tend; rw [if_neg (by decide), if_neg (by decide), if_neg (by decide), if_pos rfl]
theorem ft_3 (V : aM) (S : Nat) : f_tend V S 3 = stE (V 2) (tl V) 21 (S + 1) := by unfold f_tend; rw [if_neg (by decide), if_neg (by decide), if_pos rfl]; unfold f_str; rfl
theorem ft_11 (V : aM) (S : Nat) : f_tend V S 11 = -1 := by unfold f_tend; rw [if_neg (by decide), if_neg (by decide), if_neg (by decide), if_neg (by decide), if_pos rfl]
theorem mk_6 : mkd 6 = 12 := by decide
theorem mk_7 : mkd 7 = 13 := by decide
theorem mk_8 : mkd 8 = 14 := by decide
theorem mk_9 : mkd 9 = 15 := by decide
theorem mk_3 : mkd 3 = 3 := by decide
theorem vw_2 (M : aM) : vw M 2 = M 20 := by rfl
theorem vw_tl (M : aM) : tl (vw M) = m_tl M := by rfl
theorem tkP_20 (M : aM) (S : Nat) : tkP M S 20 = M 20 := by rfl
theorem tkP_tl (M : aM) (S : Nat) : m_tl (tkP M S) = m_tl M := by rfl
set_option maxRecDepth 100000 in
set_option maxHeartbeats 4000000 in
theorem ok_Model_token {G : aG} (hG : am_ok G) : am_Sp G Y_Model_token 3 sp_Model_token := by
  intro as M K h
  unfold sp_Model_token at h
  split at h
  · next a =>
    obtain ⟨rfl, ⟨ht, hb, hat⟩, h⟩ := h
    obtain ⟨S, hS⟩ : ∃ S, skB (M 20) (m_tl M - cl (M 19 2)) false (cl (M 19 2)) = S := ⟨_, rfl⟩
    have hs : sc_s (vw M) (cl (M 19 2)) = S := hS
    have hSl : S ≤ m_tl M := by
      have := skB_le (M 20) (m_tl M - cl (M 19 2)) false (cl (M 19 2))
      have := hat.2
      omega
    have h400 := ht.2
    unfold tokK at h
    unfold sc_e sc_k at h
    rw [hs] at h
    rw [vw_2, vw_tl] at h
    have htN : mt_ok (tkP M S) := ht
    have hpk : m_at (tkP M S) 0 = bt (M 20) (m_tl M) S := m_at_bt (M := tkP M S) (p := S) (j := 0) ht rfl (by omega)
    have hatN : at_ok (tkP M S) := ⟨by show nI S = nI (cl (nI S)); rw [show cl (nI S) = S from nI_clamp (by omega)], by show cl (nI S) ≤ m_tl M; rw [show cl (nI S) = S from nI_clamp (by omega)]; exact hSl⟩
    have hse : ¬ nI (S + 1) = -1 := nI_ne (by omega)
    obtain ⟨B, hB⟩ : ∃ B, bt (M 20) (m_tl M) S = B := ⟨_, rfl⟩
    rw [hB] at hpk h
    have hid : am_up (tkP M S) 19 2 (nI S) = tkP M S := am_up_id (tkP M S) 19 2
    by_cases cm : B = -1
    · subst cm
      have k10 : srt (-1) = 10 := by decide
      have e10 := ft_10 (vw M) S
      rw [k10, e10, if_neg hse, if_pos rfl] at h
      exact ok_tkc_end hG ht hb hat hS htN hpk h
    have hlt : S < m_tl M := bt_lt (t := M 20) (by rw [hB]; exact cm)
    have hBe : M 20 S = B := by
      rw [← hB]
      unfold bt
      rw [if_pos hlt]
    have hB0 : 0 ≤ B := by
      have := hb S hlt
      rw [hBe] at this
      exact Int32.not_lt.mp this
    by_cases c40 : B = 40
    · subst c40
      have k10 : srt 40 = 6 := by decide
      have e10 := ft_6 (vw M) S
      rw [k10, e10, if_neg hse, if_neg (by decide), mk_6] at h
      exact ok_tkc_40 hG ht hb hat hS htN hpk h
    by_cases c41 : B = 41
    · subst c41
      have k10 : srt 41 = 7 := by decide
      have e10 := ft_7 (vw M) S
      rw [k10, e10, if_neg hse, if_neg (by decide), mk_7] at h
      exact ok_tkc_41 hG ht hb hat hS htN hpk h
    by_cases c39 : B = 39
    · subst c39
      have k10 : srt 39 = 8 := by decide
      have e10 := ft_8 (vw M) S
      rw [k10, e10, if_neg hse, if_neg (by decide), mk_8] at h
      exact ok_tkc_39 hG ht hb hat hS htN hpk h
    by_cases c46 : B = 46
    · subst c46
      have k10 : srt 46 = 9 := by decide
      have e10 := ft_9 (vw M) S
      rw [k10, e10, vw_2, vw_tl, mk_9] at h
      have p1 : m_at (tkP M S) (-1) = f_at (vw M) (nI S - 1) := m_at_m1 ht (by omega)
      have p2 : m_at (tkP M S) 1 = bt (M 20) (m_tl M) (S + 1) := m_at_bt (M := tkP M S) (p := S) (j := 1) ht rfl (by omega)
      refine ok_tkc_46 hG ht hb hat hS htN hpk p1 p2 ?_
      cases w1 : wB (f_at (vw M) (nI S - 1))
      · rw [w1] at h
        cases w2 : wB (bt (M 20) (m_tl M) (S + 1))
        · rw [w2] at h
          simp only [Bool.false_eq_true, ↓reduceIte] at h
          rw [if_neg hse, if_neg (by decide)] at h
          simp only [Bool.false_eq_true, ↓reduceIte]
          exact h
        · rw [w2] at h
          simp only [Bool.false_eq_true, ↓reduceIte] at h
          simp only [Bool.false_eq_true, ↓reduceIte]
          exact h _
      · rw [w1] at h
        simp only [↓reduceIte] at h
        simp only [↓reduceIte]
        exact h _
    by_cases c34 : B = 34
    · subst c34
      have k10 : srt 34 = 3 := by decide
      have e10 := ft_3 (vw M) S
      rw [vw_2, vw_tl] at e10
      rw [k10, e10, mk_3] at h
      refine ok_tkc_34 hG ht hb hat hS htN hatN hpk ?_
      have ecl : cl (tkP M S 19 2) = S := nI_clamp (by omega)
      rw [ecl, tkP_20, tkP_tl]
      unfold strK
      by_cases ce : stE (M 20) (m_tl M) 21 (S + 1) = -1
      · rw [if_pos ce] at h ⊢
        have := h (nI S)
        rw [hid] at this
        exact this
      · rw [if_neg ce, if_neg (by decide)] at h
        rw [if_neg ce]
        exact h
    cases cw : wB B
    · have hsr : srt B = 11 := by
        have hd : dgB B = false := by
          cases q : dgB B
          · rfl
          · rw [wB_eq, q] at cw
            simp at cw
        have n45 : ¬ B = 45 := fun q => by rw [q] at cw; revert cw; decide
        unfold srt
        simp [cm, c34, c39, c40, c41, c46, n45, hd, cw]
      have e10 := ft_11 (vw M) S
      rw [hsr, e10, if_pos rfl] at h
      have := h (nI S)
      rw [hid] at this
      exact ok_tkc_bad hG ht hb hat hS htN hpk hB0 c40 c41 c39 c46 c34 cw this
    · have W := tok_word (t := M 20) (V := vw M) (s := S) rfl hlt h400 (by rw [hBe]; exact cw)
      rw [hBe] at W
      rw [vw_tl] at W
      have L : am_X G Y_Model_token 3 K 159 [some (.ref 19), some (.int B), some (.int (nI 1)), some (.int (b2 (dgB B || decide (B = 45)))), none] [] (tkP M S) := by
        refine lp_Model_token hG (c := B) htN rfl (by omega) (m_tl M - (S + 1)) 1 _ none (by omega) (by show S + 1 + (m_tl M - (S + 1)) = m_tl M; omega) ?_
        show K (some (.int (wkd B (wE (M 20) (m_tl M - (S + 1)) (S + 1) - S) ((dgB B || decide (B = 45)) && allD (M 20) (wE (M 20) (m_tl M - (S + 1)) (S + 1) - (S + 1)) (S + 1))))) (am_up (tkP M S) 19 2 (nI (wE (M 20) (m_tl M - (S + 1)) (S + 1))))
        by_cases ce : f_tend (vw M) S (srt B) = -1
        · rw [if_pos ce] at h W
          rw [W]
          exact h _
        · rw [if_neg ce] at h W
          obtain ⟨w1, w2, w3⟩ := W
          rw [if_neg w3] at h
          rw [w1, ← w2]
          exact h
      exact ok_tkc_word hG ht hb hat hS htN hpk hB0 c40 c41 c39 c46 c34 cw (ok_tkc_w0 hG htN hpk cw L)
  · cases h
