/-! THE TOKENS -/
def tk (M : aM) (c : Nat) (d i : Int32) : Int32 := if i < 0 then d else if i < M 12 3 then (if i < 401 then M c i.toNatClampNeg else d) else d
def sp_Tokens_sortOf : aS := fun as M K => match as with
  | [.ref a, .int i] => a = 12 ∧ K (some (.int (tk M 13 11 i))) M
  | _ => False
set_option maxRecDepth 100000 in
set_option maxHeartbeats 4000000 in
theorem ok_Tokens_sortOf {G : aG} (hG : am_ok G) : am_Sp G Y_Tokens_sortOf 0 sp_Tokens_sortOf := by
  intro as M K h
  unfold sp_Tokens_sortOf at h
  split at h
  · next a i =>
    obtain ⟨rfl, h⟩ := h
    refine am_entry hG (by decide +kernel) (Nat.le_of_ble_eq_true rfl) ?_
    refine am_go (cuts := k_Tokens_sortOf) tb_Tokens_sortOf 400 _ _ _ _ ?_
    change am_run _ _ _ _ _ _ [some (.ref 12), some (.int i)] [] _
    simp only [r_Tokens_sortOf_0, r_Tokens_sortOf_1, r_Tokens_sortOf_4, r_Tokens_sortOf_5, r_Tokens_sortOf_6, r_Tokens_sortOf_9, r_Tokens_sortOf_12, r_Tokens_sortOf_13, r_Tokens_sortOf_14, r_Tokens_sortOf_17, r_Tokens_sortOf_18, r_Tokens_sortOf_21, r_Tokens_sortOf_22, r_Tokens_sortOf_25, r_Tokens_sortOf_26, r_Tokens_sortOf_27, r_Tokens_sortOf_30, r_Tokens_sortOf_32, ai_iload, ai_iflt, ai_aload, ai_getf, ai_cmpge, ai_alen, ai_iald, ai_goto, ai_const, ai_iret, kd_0, fd_0_0, fd_0_1, fd_0_2, fd_0_3, fd_0_4, kd_1, fd_1_0, fd_1_1, ln_2, kd_3, fd_3_0, fd_3_1, fd_3_2, fd_3_3, fd_3_4, fd_3_5, fd_3_6, fd_3_7, fd_3_8, fd_3_9, ln_4, ln_5, ln_6, ln_7, ln_8, ln_9, ln_10, kd_11, fd_11_0, fd_11_1, fd_11_2, fd_11_3, fd_11_4, kd_12, fd_12_0, fd_12_1, fd_12_2, fd_12_3, ln_13, ln_14, ln_15, kd_16, fd_16_0, fd_16_1, fd_16_2, ln_17, kd_18, fd_18_0, fd_18_1, kd_19, fd_19_0, fd_19_1, fd_19_2, fd_19_3, fd_19_4, fd_19_5, fd_19_6, fd_19_7, fd_19_8, fd_19_9, fd_19_10, fd_19_11, fd_19_12, fd_19_13, fd_19_14, fd_19_15, fd_19_16, fd_19_17, fd_19_18, fd_19_19, fd_19_20, ln_20, ln_21, ln_22, ln_23, ln_24, ln_25, ln_26, ln_27, ln_28, ln_29, ln_30, ln_31, ln_32, List.getElem?_cons_zero, List.getElem?_cons_succ, List.set_cons_zero, List.set_cons_succ, true_and, and_true, ↓reduceIte, Int32.reduceLT, Int32.reduceLE, li_10, or_true, true_or]
    unfold tk at h
    by_cases h1 : i < 0
    · simp only [h1, ↓reduceIte] at h ⊢; exact h
    · simp only [h1, ↓reduceIte] at h ⊢
      by_cases h2 : i < M 12 3
      · simp only [h2, ↓reduceIte] at h ⊢
        by_cases h3 : i < 401
        · simp only [h3, ↓reduceIte] at h
          rw [if_pos (show i < Int32.ofNat 401 from h3)]
          exact ⟨vin_lt h1 h3 (by decide), h⟩
        · simp only [h3, ↓reduceIte] at h
          rw [if_neg (show ¬ i < Int32.ofNat 401 from h3)]; exact h
      · simp only [h2, ↓reduceIte] at h ⊢; exact h
  · cases h
def sp_Tokens_startOf : aS := fun as M K => match as with
  | [.ref a, .int i] => a = 12 ∧ K (some (.int (tk M 14 (-1) i))) M
  | _ => False
set_option maxRecDepth 100000 in
set_option maxHeartbeats 4000000 in
theorem ok_Tokens_startOf {G : aG} (hG : am_ok G) : am_Sp G Y_Tokens_startOf 0 sp_Tokens_startOf := by
  intro as M K h
  unfold sp_Tokens_startOf at h
  split at h
  · next a i =>
    obtain ⟨rfl, h⟩ := h
    refine am_entry hG (by decide +kernel) (Nat.le_of_ble_eq_true rfl) ?_
    refine am_go (cuts := k_Tokens_startOf) tb_Tokens_startOf 400 _ _ _ _ ?_
    change am_run _ _ _ _ _ _ [some (.ref 12), some (.int i)] [] _
    simp only [r_Tokens_startOf_0, r_Tokens_startOf_1, r_Tokens_startOf_4, r_Tokens_startOf_5, r_Tokens_startOf_6, r_Tokens_startOf_9, r_Tokens_startOf_12, r_Tokens_startOf_13, r_Tokens_startOf_14, r_Tokens_startOf_17, r_Tokens_startOf_18, r_Tokens_startOf_21, r_Tokens_startOf_22, r_Tokens_startOf_25, r_Tokens_startOf_26, r_Tokens_startOf_27, r_Tokens_startOf_30, r_Tokens_startOf_31, ai_iload, ai_iflt, ai_aload, ai_getf, ai_cmpge, ai_alen, ai_iald, ai_goto, ai_const, ai_iret, kd_0, fd_0_0, fd_0_1, fd_0_2, fd_0_3, fd_0_4, kd_1, fd_1_0, fd_1_1, ln_2, kd_3, fd_3_0, fd_3_1, fd_3_2, fd_3_3, fd_3_4, fd_3_5, fd_3_6, fd_3_7, fd_3_8, fd_3_9, ln_4, ln_5, ln_6, ln_7, ln_8, ln_9, ln_10, kd_11, fd_11_0, fd_11_1, fd_11_2, fd_11_3, fd_11_4, kd_12, fd_12_0, fd_12_1, fd_12_2, fd_12_3, ln_13, ln_14, ln_15, kd_16, fd_16_0, fd_16_1, fd_16_2, ln_17, kd_18, fd_18_0, fd_18_1, kd_19, fd_19_0, fd_19_1, fd_19_2, fd_19_3, fd_19_4, fd_19_5, fd_19_6, fd_19_7, fd_19_8, fd_19_9, fd_19_10, fd_19_11, fd_19_12, fd_19_13, fd_19_14, fd_19_15, fd_19_16, fd_19_17, fd_19_18, fd_19_19, fd_19_20, ln_20, ln_21, ln_22, ln_23, ln_24, ln_25, ln_26, ln_27, ln_28, ln_29, ln_30, ln_31, ln_32, List.getElem?_cons_zero, List.getElem?_cons_succ, List.set_cons_zero, List.set_cons_succ, true_and, and_true, ↓reduceIte, Int32.reduceLT, Int32.reduceLE, li_10, or_true, true_or]
    unfold tk at h
    by_cases h1 : i < 0
    · simp only [h1, ↓reduceIte] at h ⊢; exact h
    · simp only [h1, ↓reduceIte] at h ⊢
      by_cases h2 : i < M 12 3
      · simp only [h2, ↓reduceIte] at h ⊢
        by_cases h3 : i < 401
        · simp only [h3, ↓reduceIte] at h
          rw [if_pos (show i < Int32.ofNat 401 from h3)]
          exact ⟨vin_lt h1 h3 (by decide), h⟩
        · simp only [h3, ↓reduceIte] at h
          rw [if_neg (show ¬ i < Int32.ofNat 401 from h3)]; exact h
      · simp only [h2, ↓reduceIte] at h ⊢; exact h
  · cases h
def sp_Tokens_endOf : aS := fun as M K => match as with
  | [.ref a, .int i] => a = 12 ∧ K (some (.int (tk M 15 (-1) i))) M
  | _ => False
set_option maxRecDepth 100000 in
set_option maxHeartbeats 4000000 in
theorem ok_Tokens_endOf {G : aG} (hG : am_ok G) : am_Sp G Y_Tokens_endOf 0 sp_Tokens_endOf := by
  intro as M K h
  unfold sp_Tokens_endOf at h
  split at h
  · next a i =>
    obtain ⟨rfl, h⟩ := h
    refine am_entry hG (by decide +kernel) (Nat.le_of_ble_eq_true rfl) ?_
    refine am_go (cuts := k_Tokens_endOf) tb_Tokens_endOf 400 _ _ _ _ ?_
    change am_run _ _ _ _ _ _ [some (.ref 12), some (.int i)] [] _
    simp only [r_Tokens_endOf_0, r_Tokens_endOf_1, r_Tokens_endOf_4, r_Tokens_endOf_5, r_Tokens_endOf_6, r_Tokens_endOf_9, r_Tokens_endOf_12, r_Tokens_endOf_13, r_Tokens_endOf_14, r_Tokens_endOf_17, r_Tokens_endOf_18, r_Tokens_endOf_21, r_Tokens_endOf_22, r_Tokens_endOf_25, r_Tokens_endOf_26, r_Tokens_endOf_27, r_Tokens_endOf_30, r_Tokens_endOf_31, ai_iload, ai_iflt, ai_aload, ai_getf, ai_cmpge, ai_alen, ai_iald, ai_goto, ai_const, ai_iret, kd_0, fd_0_0, fd_0_1, fd_0_2, fd_0_3, fd_0_4, kd_1, fd_1_0, fd_1_1, ln_2, kd_3, fd_3_0, fd_3_1, fd_3_2, fd_3_3, fd_3_4, fd_3_5, fd_3_6, fd_3_7, fd_3_8, fd_3_9, ln_4, ln_5, ln_6, ln_7, ln_8, ln_9, ln_10, kd_11, fd_11_0, fd_11_1, fd_11_2, fd_11_3, fd_11_4, kd_12, fd_12_0, fd_12_1, fd_12_2, fd_12_3, ln_13, ln_14, ln_15, kd_16, fd_16_0, fd_16_1, fd_16_2, ln_17, kd_18, fd_18_0, fd_18_1, kd_19, fd_19_0, fd_19_1, fd_19_2, fd_19_3, fd_19_4, fd_19_5, fd_19_6, fd_19_7, fd_19_8, fd_19_9, fd_19_10, fd_19_11, fd_19_12, fd_19_13, fd_19_14, fd_19_15, fd_19_16, fd_19_17, fd_19_18, fd_19_19, fd_19_20, ln_20, ln_21, ln_22, ln_23, ln_24, ln_25, ln_26, ln_27, ln_28, ln_29, ln_30, ln_31, ln_32, List.getElem?_cons_zero, List.getElem?_cons_succ, List.set_cons_zero, List.set_cons_succ, true_and, and_true, ↓reduceIte, Int32.reduceLT, Int32.reduceLE, li_10, or_true, true_or]
    unfold tk at h
    by_cases h1 : i < 0
    · simp only [h1, ↓reduceIte] at h ⊢; exact h
    · simp only [h1, ↓reduceIte] at h ⊢
      by_cases h2 : i < M 12 3
      · simp only [h2, ↓reduceIte] at h ⊢
        by_cases h3 : i < 401
        · simp only [h3, ↓reduceIte] at h
          rw [if_pos (show i < Int32.ofNat 401 from h3)]
          exact ⟨vin_lt h1 h3 (by decide), h⟩
        · simp only [h3, ↓reduceIte] at h
          rw [if_neg (show ¬ i < Int32.ofNat 401 from h3)]; exact h
      · simp only [h2, ↓reduceIte] at h ⊢; exact h
  · cases h
/-- a token ends behind its beginning, and in the text -/
theorem bt_lt {t : Nat → Int32} {n i : Nat} (h : ¬ bt t n i = -1) : i < n := by
  apply Nat.lt_of_not_le
  intro q
  exact h (by unfold bt; rw [if_neg (by omega)])
theorem stE_in (t : Nat → Int32) (n : Nat) : ∀ (k i : Nat), ¬ stE t n k i = -1 → ∃ e, stE t n k i = nI e ∧ i < e ∧ e ≤ n
  | 0, i, h => absurd rfl h
  | k + 1, i, h => by
    have h1 := stE_in t n k (i + 1)
    have h2 := stE_in t n k (i + 2)
    simp only [stE] at h ⊢
    by_cases c1 : bt t n i = 34
    · have := bt_lt (t := t) (n := n) (i := i) (by rw [c1]; decide)
      simp only [c1, ↓reduceIte]
      exact ⟨i + 1, rfl, by omega, by omega⟩
    · simp only [c1, ↓reduceIte] at h ⊢
      by_cases c2 : bt t n i = 92
      · simp only [c2, ↓reduceIte] at h ⊢
        by_cases c3 : bt t n (i + 1) = 34
        · simp only [c3, ↓reduceIte] at h ⊢
          obtain ⟨e, a1, a2, a3⟩ := h2 h
          exact ⟨e, a1, by omega, a3⟩
        · simp only [c3, ↓reduceIte] at h ⊢
          by_cases c4 : bt t n (i + 1) = 92
          · simp only [c4, ↓reduceIte] at h ⊢
            obtain ⟨e, a1, a2, a3⟩ := h2 h
            exact ⟨e, a1, by omega, a3⟩
          · simp only [c4, ↓reduceIte] at h
            exact absurd trivial h
      · simp only [c2, ↓reduceIte] at h ⊢
        by_cases c3 : bt t n i < 32
        · simp only [c3, ↓reduceIte] at h
          exact absurd trivial h
        · simp only [c3, ↓reduceIte] at h ⊢
          by_cases c4 : 126 < bt t n i
          · simp only [c4, ↓reduceIte] at h
            exact absurd trivial h
          · simp only [c4, ↓reduceIte] at h ⊢
            obtain ⟨e, a1, a2, a3⟩ := h1 h
            exact ⟨e, a1, by omega, a3⟩
theorem srt_m1 {b : Int32} (h : ¬ srt b = 10) : ¬ b = -1 := fun q => h (by rw [q]; rfl)
theorem srt_2 {b : Int32} (h : srt b = 2) : wB b = true := by
  unfold srt at h
  by_cases c1 : b = -1
  · simp only [c1, ↓reduceIte] at h; exact absurd h (by decide)
  by_cases c2 : b = 34
  · simp only [c1, c2, ↓reduceIte] at h; exact absurd h (by decide)
  by_cases c3 : b = 39
  · simp only [c1, c2, c3, ↓reduceIte] at h; exact absurd h (by decide)
  by_cases c4 : b = 40
  · simp only [c1, c2, c3, c4, ↓reduceIte] at h; exact absurd h (by decide)
  by_cases c5 : b = 41
  · simp only [c1, c2, c3, c4, c5, ↓reduceIte] at h; exact absurd h (by decide)
  by_cases c6 : b = 46
  · simp only [c1, c2, c3, c4, c5, c6, ↓reduceIte] at h; exact absurd h (by decide)
  by_cases c7 : b = 45
  · simp only [c1, c2, c3, c4, c5, c6, c7, ↓reduceIte] at h; exact absurd h (by decide)
  simp only [c1, c2, c3, c4, c5, c6, c7, ↓reduceIte] at h
  cases c8 : dgB b
  · cases c9 : wB b
    · simp [c8, c9] at h
    · rfl
  · simp [c8] at h
theorem tend_in {M : aM} (hn : tx_ok M) {i : Nat} (h10 : ¬ srt (bt (M 2) (tl M) i) = 10) (h : ¬ f_tend M i (srt (bt (M 2) (tl M) i)) = -1) : ∃ e, f_tend M i (srt (bt (M 2) (tl M) i)) = nI e ∧ i < e ∧ e ≤ tl M := by
  have hi := bt_lt (srt_m1 h10)
  have hn2 := hn.2
  generalize hs : srt (bt (M 2) (tl M) i) = s at h h10 ⊢
  unfold f_tend at h ⊢
  by_cases c1 : s = 1
  · simp only [c1, ↓reduceIte] at h ⊢
    unfold f_num at h ⊢
    have hf : i ≤ nmF (M 2) i ∧ nmF (M 2) i ≤ i + 1 := by unfold nmF; split <;> omega
    generalize nmF (M 2) i = f at h hf ⊢
    have hw := wE_le (M 2) (tl M - f) f
    have hw2 : f_word M f = wE (M 2) (tl M - f) f := rfl
    by_cases d1 : f_word M f - f < 1
    · simp only [d1, ↓reduceIte] at h; exact absurd trivial h
    · simp only [d1, ↓reduceIte] at h ⊢
      by_cases d2 : 9 < f_word M f - f
      · simp only [d2, ↓reduceIte] at h; exact absurd trivial h
      · simp only [d2, ↓reduceIte] at h ⊢
        by_cases d3 : allD (M 2) (f_word M f - f) f = true
        · simp only [d3, ↓reduceIte]
          exact ⟨_, rfl, by omega, by omega⟩
        · rw [if_neg d3] at h; exact absurd rfl h
  by_cases c2 : s = 2
  · rw [if_neg c1, if_pos c2] at h ⊢
    have hw : wB (M 2 i) = true := by
      have q := srt_2 (hs.trans c2)
      unfold bt at q
      rw [if_pos hi] at q
      exact q
    unfold f_name at h ⊢
    have e1 : f_word M i = wE (M 2) (tl M - i - 1) (i + 1) := by
      unfold f_word
      rw [show tl M - i = (tl M - i - 1) + 1 by omega]
      simp only [wE, hw, ↓reduceIte, Nat.add_sub_cancel]
    have hl := wE_le (M 2) (tl M - i - 1) (i + 1)
    split
    · next d1 => rw [if_pos d1] at h; exact absurd rfl h
    · exact ⟨_, rfl, by omega, by omega⟩
  by_cases c3 : s = 3
  · rw [if_neg c1, if_neg c2, if_pos c3] at h ⊢
    obtain ⟨e, a1, a2, a3⟩ := stE_in (M 2) (tl M) 21 (i + 1) h
    exact ⟨e, a1, by omega, a3⟩
  by_cases c9 : s = 9
  · rw [if_neg c1, if_neg c2, if_neg c3, if_pos c9] at h ⊢
    by_cases d1 : wB (f_at M (nI i - 1)) = true
    · simp only [d1, ↓reduceIte] at h; exact absurd trivial h
    · simp only [d1, ↓reduceIte] at h ⊢
      by_cases d2 : wB (bt (M 2) (tl M) (i + 1)) = true
      · simp [d2] at h
      · simp only [d2, Bool.false_eq_true, ↓reduceIte] at h ⊢
        exact ⟨_, rfl, by omega, by omega⟩
  by_cases c11 : s = 11
  · simp only [c11, ↓reduceIte] at h; exact absurd rfl h
  · simp only [c1, c2, c3, c9, c11, ↓reduceIte]
    exact ⟨_, rfl, by omega, by omega⟩
/-- one token, from a place on: its beginning, sort and end -/
def sc_s (M0 : aM) (pos : Nat) : Nat := f_skip M0 pos
def sc_k (M0 : aM) (pos : Nat) : Int32 := srt (bt (M0 2) (tl M0) (sc_s M0 pos))
def sc_e (M0 : aM) (pos : Nat) : Int32 := f_tend M0 (sc_s M0 pos) (sc_k M0 pos)
def sc_put (M0 M : aM) (i pos : Nat) : aM := am_up (am_up (am_up (am_up M 13 i (if sc_e M0 pos = -1 then 11 else sc_k M0 pos)) 14 i (nI (sc_s M0 pos))) 15 i (sc_e M0 pos)) 12 3 (nI (i + 1))
def scanM (M0 : aM) : Nat → Nat → Nat → aM → aM
  | 0, _, _, M => M
  | k + 1, i, pos, M => if sc_e M0 pos = -1 then sc_put M0 M i pos else if sc_k M0 pos = 10 then sc_put M0 M i pos else scanM M0 k (i + 1) (cl (sc_e M0 pos)) (sc_put M0 M i pos)
theorem f_skip_le {M : aM} {pos : Nat} (h : pos ≤ tl M) : pos ≤ f_skip M pos ∧ f_skip M pos ≤ tl M := by
  have := skB_le (M 2) (tl M - pos) false pos
  unfold f_skip
  omega
def sT (M0 M : aM) : Prop := M 1 = M0 1 ∧ M 2 = M0 2
theorem sT.len {M0 M : aM} (h : sT M0 M) : tl M = tl M0 := by unfold tl; rw [h.1]
theorem sT.ok {M0 M : aM} (h : sT M0 M) (hn : tx_ok M0) : tx_ok M := by unfold tx_ok; rw [h.len, h.1]; exact hn
theorem sT.skip {M0 M : aM} (h : sT M0 M) (i : Nat) : f_skip M i = f_skip M0 i := by unfold f_skip; rw [h.len, h.2]
theorem sT.byte {M0 M : aM} (h : sT M0 M) (p : Int32) : f_at M p = f_at M0 p := by unfold f_at; rw [h.1, h.2]
theorem sT.word {M0 M : aM} (h : sT M0 M) (i : Nat) : f_word M i = f_word M0 i := by unfold f_word; rw [h.len, h.2]
theorem sT.tend {M0 M : aM} (h : sT M0 M) (i : Nat) (s : Int32) : f_tend M i s = f_tend M0 i s := by
  unfold f_tend f_num f_name f_str
  simp only [h.word, h.len, h.2, h.byte]
theorem sT.put {M0 M : aM} (h : sT M0 M) (i pos : Nat) : sT M0 (sc_put M0 M i pos) := by
  unfold sc_put
  exact ⟨by rw [am_up_ne (by decide), am_up_ne (by decide), am_up_ne (by decide), am_up_ne (by decide)]; exact h.1, by rw [am_up_ne (by decide), am_up_ne (by decide), am_up_ne (by decide), am_up_ne (by decide)]; exact h.2⟩
def sp_Tokens_scan : aS := fun as M K => match as with
  | [.ref a, .ref b] => a = 12 ∧ b = 1 ∧ tx_ok M ∧ K none (scanM M 401 0 0 (am_up M 12 3 0))
  | _ => False
set_option maxRecDepth 100000 in
set_option maxHeartbeats 4000000 in
theorem lp_Tokens_scan {G : aG} (hG : am_ok G) {K : aR} {M0 : aM} (hn : tx_ok M0) : ∀ (k i pos : Nat) (M : aM) (o4 o5 o6 : Option Value), i + k = 401 → sT M0 M → pos ≤ tl M0 → K none (scanM M0 k i pos M) → am_X G Y_Tokens_scan 4 K 9 [some (.ref 12), some (.ref 1), some (.int (nI pos)), some (.int (nI i)), o4, o5, o6] [] M := by
  intro k
  have hn2 := hn.2
  induction k with
  | zero =>
    intro i pos M o4 o5 o6 hk hT hp h
    have e1 : (400 : Int32) < nI i := nI_lt (a := 400) (by omega) (by omega)
    refine am_from (tb_Tokens_scan (ok_Text_skipBlanks hG) (by decide) (ok_Text_sortAt hG) (by decide) (ok_Text_tokenEnd hG) (by decide)) k_Tokens_scan 400 ?_
    simp only [q_Tokens_scan_9, r_Tokens_scan_0, r_Tokens_scan_1, r_Tokens_scan_2, r_Tokens_scan_5, r_Tokens_scan_6, r_Tokens_scan_7, r_Tokens_scan_8, r_Tokens_scan_9, r_Tokens_scan_10, r_Tokens_scan_13, r_Tokens_scan_16, r_Tokens_scan_17, r_Tokens_scan_18, r_Tokens_scan_21, r_Tokens_scan_23, r_Tokens_scan_24, r_Tokens_scan_26, r_Tokens_scan_29, r_Tokens_scan_31, r_Tokens_scan_32, r_Tokens_scan_34, r_Tokens_scan_36, r_Tokens_scan_39, r_Tokens_scan_41, r_Tokens_scan_42, r_Tokens_scan_45, r_Tokens_scan_46, r_Tokens_scan_48, r_Tokens_scan_49, r_Tokens_scan_52, r_Tokens_scan_54, r_Tokens_scan_57, r_Tokens_scan_59, r_Tokens_scan_60, r_Tokens_scan_61, r_Tokens_scan_64, r_Tokens_scan_65, r_Tokens_scan_67, r_Tokens_scan_68, r_Tokens_scan_69, r_Tokens_scan_72, r_Tokens_scan_73, r_Tokens_scan_75, r_Tokens_scan_76, r_Tokens_scan_77, r_Tokens_scan_78, r_Tokens_scan_79, r_Tokens_scan_80, r_Tokens_scan_83, r_Tokens_scan_85, r_Tokens_scan_86, r_Tokens_scan_89, r_Tokens_scan_91, r_Tokens_scan_93, r_Tokens_scan_96, r_Tokens_scan_97, r_Tokens_scan_99, r_Tokens_scan_100, r_Tokens_scan_103, r_Tokens_scan_106, ai_aload, ai_const, ai_putf, ai_istore, am_cut_0, am_cut_s, am_c1, ai_iload, ai_cmpgt, ai_callv2, am_push, am_few, ai_callv3, ai_getf, ai_cmpne, ai_goto, ai_iast, ai_iadd, ai_bin, ai_cmpeq, ai_vret, ai_iinc, kd_0, fd_0_0, fd_0_1, fd_0_2, fd_0_3, fd_0_4, kd_1, fd_1_0, fd_1_1, ln_2, kd_3, fd_3_0, fd_3_1, fd_3_2, fd_3_3, fd_3_4, fd_3_5, fd_3_6, fd_3_7, fd_3_8, fd_3_9, ln_4, ln_5, ln_6, ln_7, ln_8, ln_9, ln_10, kd_11, fd_11_0, fd_11_1, fd_11_2, fd_11_3, fd_11_4, kd_12, fd_12_0, fd_12_1, fd_12_2, fd_12_3, ln_13, ln_14, ln_15, kd_16, fd_16_0, fd_16_1, fd_16_2, ln_17, kd_18, fd_18_0, fd_18_1, kd_19, fd_19_0, fd_19_1, fd_19_2, fd_19_3, fd_19_4, fd_19_5, fd_19_6, fd_19_7, fd_19_8, fd_19_9, fd_19_10, fd_19_11, fd_19_12, fd_19_13, fd_19_14, fd_19_15, fd_19_16, fd_19_17, fd_19_18, fd_19_19, fd_19_20, ln_20, ln_21, ln_22, ln_23, ln_24, ln_25, ln_26, ln_27, ln_28, ln_29, ln_30, ln_31, ln_32, List.getElem?_cons_zero, List.getElem?_cons_succ, List.set_cons_zero, List.set_cons_succ, true_and, and_true, ↓reduceIte, Int32.reduceLT, Int32.reduceLE, li_10, or_true, true_or, e1]
    exact h
  | succ k ih =>
    intro i pos M o4 o5 o6 hk hT hp h
    have e1 : ¬ (400 : Int32) < nI i := nI_nlt (b := i) (a := 400) (by omega) (by decide)
    have hs := f_skip_le hp
    have hin : vp_in (nI i) 401 := vp_in_nI (by omega) (by decide)
    have ec : cl (nI pos) = pos := nI_clamp (by omega)
    have ec2 : (nI i).toNatClampNeg = i := nI_clamp (by omega)
    have es : cl (nI (f_skip M0 pos)) = f_skip M0 pos := nI_clamp (by omega)
    have hT2 := hT.ok hn
    have eb : f_at M (nI (f_skip M0 pos)) = bt (M0 2) (tl M0) (f_skip M0 pos) := by rw [hT.byte, f_bt hn (by omega)]
    refine am_from (tb_Tokens_scan (ok_Text_skipBlanks hG) (by decide) (ok_Text_sortAt hG) (by decide) (ok_Text_tokenEnd hG) (by decide)) k_Tokens_scan 400 ?_
    simp only [q_Tokens_scan_9, r_Tokens_scan_0, r_Tokens_scan_1, r_Tokens_scan_2, r_Tokens_scan_5, r_Tokens_scan_6, r_Tokens_scan_7, r_Tokens_scan_8, r_Tokens_scan_9, r_Tokens_scan_10, r_Tokens_scan_13, r_Tokens_scan_16, r_Tokens_scan_17, r_Tokens_scan_18, r_Tokens_scan_21, r_Tokens_scan_23, r_Tokens_scan_24, r_Tokens_scan_26, r_Tokens_scan_29, r_Tokens_scan_31, r_Tokens_scan_32, r_Tokens_scan_34, r_Tokens_scan_36, r_Tokens_scan_39, r_Tokens_scan_41, r_Tokens_scan_42, r_Tokens_scan_45, r_Tokens_scan_46, r_Tokens_scan_48, r_Tokens_scan_49, r_Tokens_scan_52, r_Tokens_scan_54, r_Tokens_scan_57, r_Tokens_scan_59, r_Tokens_scan_60, r_Tokens_scan_61, r_Tokens_scan_64, r_Tokens_scan_65, r_Tokens_scan_67, r_Tokens_scan_68, r_Tokens_scan_69, r_Tokens_scan_72, r_Tokens_scan_73, r_Tokens_scan_75, r_Tokens_scan_76, r_Tokens_scan_77, r_Tokens_scan_78, r_Tokens_scan_79, r_Tokens_scan_80, r_Tokens_scan_83, r_Tokens_scan_85, r_Tokens_scan_86, r_Tokens_scan_89, r_Tokens_scan_91, r_Tokens_scan_93, r_Tokens_scan_96, r_Tokens_scan_97, r_Tokens_scan_99, r_Tokens_scan_100, r_Tokens_scan_103, r_Tokens_scan_106, ai_aload, ai_const, ai_putf, ai_istore, am_cut_0, am_cut_s, am_c1, ai_iload, ai_cmpgt, ai_callv2, am_push, am_few, ai_callv3, ai_getf, ai_cmpne, ai_goto, ai_iast, ai_iadd, ai_bin, ai_cmpeq, ai_vret, ai_iinc, kd_0, fd_0_0, fd_0_1, fd_0_2, fd_0_3, fd_0_4, kd_1, fd_1_0, fd_1_1, ln_2, kd_3, fd_3_0, fd_3_1, fd_3_2, fd_3_3, fd_3_4, fd_3_5, fd_3_6, fd_3_7, fd_3_8, fd_3_9, ln_4, ln_5, ln_6, ln_7, ln_8, ln_9, ln_10, kd_11, fd_11_0, fd_11_1, fd_11_2, fd_11_3, fd_11_4, kd_12, fd_12_0, fd_12_1, fd_12_2, fd_12_3, ln_13, ln_14, ln_15, kd_16, fd_16_0, fd_16_1, fd_16_2, ln_17, kd_18, fd_18_0, fd_18_1, kd_19, fd_19_0, fd_19_1, fd_19_2, fd_19_3, fd_19_4, fd_19_5, fd_19_6, fd_19_7, fd_19_8, fd_19_9, fd_19_10, fd_19_11, fd_19_12, fd_19_13, fd_19_14, fd_19_15, fd_19_16, fd_19_17, fd_19_18, fd_19_19, fd_19_20, ln_20, ln_21, ln_22, ln_23, ln_24, ln_25, ln_26, ln_27, ln_28, ln_29, ln_30, ln_31, ln_32, List.getElem?_cons_zero, List.getElem?_cons_succ, List.set_cons_zero, List.set_cons_succ, true_and, and_true, ↓reduceIte, Int32.reduceLT, Int32.reduceLE, li_10, or_true, true_or, ↓sp_Text_skipBlanks, ↓sp_Text_sortAt, ↓sp_Text_tokenEnd, e1, ec, es, hT.skip, hT.tend, hT.len, eb, hin, ec2, nI_1]
    simp only [scanM] at h
    refine ⟨⟨hT2, sm_nI (by omega) (by omega)⟩, ⟨hT2, sm_nI (by omega) (by decide), fun q => ?_⟩, ?_⟩
    · exact bt_lt (srt_m1 (by rw [q]; decide))
    · have ek : sc_k M0 pos = srt (bt (M0 2) (tl M0) (f_skip M0 pos)) := rfl
      have ee : sc_e M0 pos = f_tend M0 (f_skip M0 pos) (srt (bt (M0 2) (tl M0) (f_skip M0 pos))) := rfl
      have ess : sc_s M0 pos = f_skip M0 pos := rfl
      rw [← ek] at ee ⊢
      rw [← ee]
      rw [← ess]
      by_cases c1 : sc_e M0 pos = -1
      · simp only [c1, ↓reduceIte] at h ⊢
        unfold sc_put at h
        simp only [c1, ↓reduceIte] at h
        exact h
      · simp only [c1, ↓reduceIte] at h ⊢
        by_cases c2 : sc_k M0 pos = 10
        · simp only [c2, ↓reduceIte] at h ⊢
          unfold sc_put at h
          simp only [c1, c2, ↓reduceIte] at h
          exact h
        · simp only [c2, ↓reduceIte] at h ⊢
          obtain ⟨e, a1, a2, a3⟩ := tend_in (M := M0) hn (i := f_skip M0 pos) c2 c1
          have a0 : sc_e M0 pos = nI e := a1
          have hM : am_up (am_up (am_up (am_up M 13 i (sc_k M0 pos)) 14 i (nI (sc_s M0 pos))) 15 i (sc_e M0 pos)) 12 3 (nI (i + 1)) = sc_put M0 M i pos := by
            unfold sc_put
            rw [if_neg c1]
          rw [hM]
          have g := ih (i + 1) e (sc_put M0 M i pos) (some (.int (nI (sc_s M0 pos)))) (some (.int (sc_k M0 pos))) (some (.int (sc_e M0 pos))) (by omega) (hT.put i pos) a3
          rw [a0] at g h ⊢
          rw [show cl (nI e) = e from nI_clamp (by omega)] at h
          exact g h
set_option maxRecDepth 100000 in
set_option maxHeartbeats 4000000 in
theorem ok_Tokens_scan {G : aG} (hG : am_ok G) : am_Sp G Y_Tokens_scan 4 sp_Tokens_scan := by
  intro as M K h
  unfold sp_Tokens_scan at h
  split at h
  · next a b =>
    obtain ⟨rfl, rfl, hn, h⟩ := h
    refine am_entry hG (by decide +kernel) (Nat.le_of_ble_eq_true rfl) ?_
    refine am_go (cuts := k_Tokens_scan) (tb_Tokens_scan (ok_Text_skipBlanks hG) (by decide) (ok_Text_sortAt hG) (by decide) (ok_Text_tokenEnd hG) (by decide)) 400 _ _ _ _ ?_
    change am_run _ _ _ _ _ _ [some (.ref 12), some (.ref 1), none, none, none, none, none] [] _
    simp only [q_Tokens_scan_9, r_Tokens_scan_0, r_Tokens_scan_1, r_Tokens_scan_2, r_Tokens_scan_5, r_Tokens_scan_6, r_Tokens_scan_7, r_Tokens_scan_8, r_Tokens_scan_9, r_Tokens_scan_10, r_Tokens_scan_13, r_Tokens_scan_16, r_Tokens_scan_17, r_Tokens_scan_18, r_Tokens_scan_21, r_Tokens_scan_23, r_Tokens_scan_24, r_Tokens_scan_26, r_Tokens_scan_29, r_Tokens_scan_31, r_Tokens_scan_32, r_Tokens_scan_34, r_Tokens_scan_36, r_Tokens_scan_39, r_Tokens_scan_41, r_Tokens_scan_42, r_Tokens_scan_45, r_Tokens_scan_46, r_Tokens_scan_48, r_Tokens_scan_49, r_Tokens_scan_52, r_Tokens_scan_54, r_Tokens_scan_57, r_Tokens_scan_59, r_Tokens_scan_60, r_Tokens_scan_61, r_Tokens_scan_64, r_Tokens_scan_65, r_Tokens_scan_67, r_Tokens_scan_68, r_Tokens_scan_69, r_Tokens_scan_72, r_Tokens_scan_73, r_Tokens_scan_75, r_Tokens_scan_76, r_Tokens_scan_77, r_Tokens_scan_78, r_Tokens_scan_79, r_Tokens_scan_80, r_Tokens_scan_83, r_Tokens_scan_85, r_Tokens_scan_86, r_Tokens_scan_89, r_Tokens_scan_91, r_Tokens_scan_93, r_Tokens_scan_96, r_Tokens_scan_97, r_Tokens_scan_99, r_Tokens_scan_100, r_Tokens_scan_103, r_Tokens_scan_106, ai_aload, ai_const, ai_putf, ai_istore, am_cut_0, am_cut_s, am_c1, ai_iload, ai_cmpgt, ai_callv2, am_push, am_few, ai_callv3, ai_getf, ai_cmpne, ai_goto, ai_iast, ai_iadd, ai_bin, ai_cmpeq, ai_vret, ai_iinc, kd_0, fd_0_0, fd_0_1, fd_0_2, fd_0_3, fd_0_4, kd_1, fd_1_0, fd_1_1, ln_2, kd_3, fd_3_0, fd_3_1, fd_3_2, fd_3_3, fd_3_4, fd_3_5, fd_3_6, fd_3_7, fd_3_8, fd_3_9, ln_4, ln_5, ln_6, ln_7, ln_8, ln_9, ln_10, kd_11, fd_11_0, fd_11_1, fd_11_2, fd_11_3, fd_11_4, kd_12, fd_12_0, fd_12_1, fd_12_2, fd_12_3, ln_13, ln_14, ln_15, kd_16, fd_16_0, fd_16_1, fd_16_2, ln_17, kd_18, fd_18_0, fd_18_1, kd_19, fd_19_0, fd_19_1, fd_19_2, fd_19_3, fd_19_4, fd_19_5, fd_19_6, fd_19_7, fd_19_8, fd_19_9, fd_19_10, fd_19_11, fd_19_12, fd_19_13, fd_19_14, fd_19_15, fd_19_16, fd_19_17, fd_19_18, fd_19_19, fd_19_20, ln_20, ln_21, ln_22, ln_23, ln_24, ln_25, ln_26, ln_27, ln_28, ln_29, ln_30, ln_31, ln_32, List.getElem?_cons_zero, List.getElem?_cons_succ, List.set_cons_zero, List.set_cons_succ, true_and, and_true, ↓reduceIte, Int32.reduceLT, Int32.reduceLE, li_10, or_true, true_or]
    exact lp_Tokens_scan hG hn 401 0 0 (am_up M 12 3 0) none none none rfl ⟨am_up_ne (by decide), am_up_ne (by decide)⟩ (Nat.zero_le _) h
  · cases h
