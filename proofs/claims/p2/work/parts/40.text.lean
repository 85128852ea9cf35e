/-! THE TEXT: its methods -/
def b2 (p : Bool) : Int32 := if p = true then 1 else 0
abbrev cl (x : Int32) : Nat := x.toNatClampNeg
def dgB (b : Int32) : Bool := !(decide (b < 48)) && !(decide (57 < b))
def wB (b : Int32) : Bool := (!(decide (b < 97)) && !(decide (122 < b))) || (!(decide (b < 48)) && !(decide (57 < b))) || decide (b = 33) || decide (b = 42) || decide (b = 43) || decide (b = 45) || decide (b = 47) || decide (b = 60) || decide (b = 61) || decide (b = 62) || decide (b = 63)
theorem vin_lt {p : Int32} {n : Nat} (h0 : ¬ p < 0) (h : p < nI n) (hn : n < 2 ^ 31) : vp_in p n := by
  obtain ⟨j, hj, rfl⟩ := nI_of h0
  exact vp_in_nI ((nI_ltI hj hn).mp h) hn
theorem iLT {x y : Int32} (a b : Nat) (ha : a < 2 ^ 31) (hb : b < 2 ^ 31) (hx : x = nI a := by rfl) (hy : y = nI b := by rfl) : (x < y) = (a < b) := by
  subst hx; subst hy; exact propext (nI_ltI ha hb)
theorem iLE {x y : Int32} (a b : Nat) (ha : a < 2 ^ 31) (hb : b < 2 ^ 31) (hx : x = nI a := by rfl) (hy : y = nI b := by rfl) : (x ≤ y) = (a ≤ b) := by
  subst hx; subst hy; exact propext (nI_leI ha hb)
theorem iEQ {x y : Int32} (a b : Nat) (ha : a < 2 ^ 31) (hb : b < 2 ^ 31) (hx : x = nI a := by rfl) (hy : y = nI b := by rfl) : (x = y) = (a = b) := by
  subst hx; subst hy; exact propext (nI_eq ha hb)
/-- the length of the text, as a number; it is one -/
def tl (M : aM) : Nat := cl (M 1 1)
def tx_ok (M : aM) : Prop := M 1 1 = nI (tl M) ∧ tl M ≤ 400
/-- an int that is a small number -/
def sm (x : Int32) (n : Nat) : Prop := x = nI (cl x) ∧ cl x ≤ n
theorem sm_nI {i n : Nat} (h : i ≤ n) (hn : n < 2 ^ 31) : sm (nI i) n := ⟨by rw [show cl (nI i) = i from nI_clamp (by omega)], by rw [show cl (nI i) = i from nI_clamp (by omega)]; exact h⟩
def f_at (M : aM) (p : Int32) : Int32 := if p < 0 then -1 else if p < M 1 1 then (if p < 400 then M 2 p.toNatClampNeg else -1) else -1
def sp_Text_at : aS := fun as M K => match as with
  | [.ref a, .int p] => a = 1 ∧ K (some (.int (f_at M p))) M
  | _ => False
set_option maxRecDepth 100000 in
set_option maxHeartbeats 4000000 in
theorem ok_Text_at {G : aG} (hG : am_ok G) : am_Sp G Y_Text_at 0 sp_Text_at := by
  intro as M K h
  unfold sp_Text_at at h
  split at h
  · next a p =>
    obtain ⟨rfl, h⟩ := h
    refine am_entry hG (by decide +kernel) (Nat.le_of_ble_eq_true rfl) ?_
    refine am_go (cuts := k_Text_at) tb_Text_at 400 _ _ _ _ ?_
    change am_run _ _ _ _ _ _ [some (.ref 1), some (.int p)] [] _
    simp only [r_Text_at_0, r_Text_at_1, r_Text_at_4, r_Text_at_5, r_Text_at_6, r_Text_at_9, r_Text_at_12, r_Text_at_13, r_Text_at_16, r_Text_at_19, r_Text_at_20, r_Text_at_23, r_Text_at_24, r_Text_at_25, r_Text_at_28, r_Text_at_29, ai_iload, ai_iflt, ai_aload, ai_getf, ai_cmpge, ai_const, ai_iald, ai_goto, ai_iret, kd_0, fd_0_0, fd_0_1, fd_0_2, fd_0_3, fd_0_4, kd_1, fd_1_0, fd_1_1, ln_2, kd_3, fd_3_0, fd_3_1, fd_3_2, fd_3_3, fd_3_4, fd_3_5, fd_3_6, fd_3_7, fd_3_8, fd_3_9, ln_4, ln_5, ln_6, ln_7, ln_8, ln_9, ln_10, kd_11, fd_11_0, fd_11_1, fd_11_2, fd_11_3, fd_11_4, kd_12, fd_12_0, fd_12_1, fd_12_2, fd_12_3, ln_13, ln_14, ln_15, kd_16, fd_16_0, fd_16_1, fd_16_2, ln_17, kd_18, fd_18_0, fd_18_1, kd_19, fd_19_0, fd_19_1, fd_19_2, fd_19_3, fd_19_4, fd_19_5, fd_19_6, fd_19_7, fd_19_8, fd_19_9, fd_19_10, fd_19_11, fd_19_12, fd_19_13, fd_19_14, fd_19_15, fd_19_16, fd_19_17, fd_19_18, fd_19_19, fd_19_20, ln_20, ln_21, ln_22, ln_23, ln_24, ln_25, ln_26, ln_27, ln_28, ln_29, ln_30, ln_31, ln_32, List.getElem?_cons_zero, List.getElem?_cons_succ, List.set_cons_zero, List.set_cons_succ, true_and, and_true, ↓reduceIte, Int32.reduceLT, Int32.reduceLE, li_10, or_true, true_or]
    unfold f_at at h
    split
    · next h1 => rw [if_pos h1] at h; exact h
    · next h1 =>
      rw [if_neg h1] at h
      split
      · next h2 =>
        rw [if_pos h2] at h
        split
        · next h3 => rw [if_pos h3] at h; exact ⟨vin_lt h1 h3 (by decide), h⟩
        · next h3 => rw [if_neg h3] at h; exact h
      · next h2 => rw [if_neg h2] at h; exact h
  · cases h
def sp_Text_isDigit : aS := fun as M K => match as with
  | [.int b] => K (some (.int (b2 (dgB b)))) M
  | _ => False
set_option maxRecDepth 100000 in
set_option maxHeartbeats 4000000 in
theorem ok_Text_isDigit {G : aG} (hG : am_ok G) : am_Sp G Y_Text_isDigit 0 sp_Text_isDigit := by
  intro as M K h
  unfold sp_Text_isDigit at h
  split at h
  · next b =>
    refine am_entry hG (by decide +kernel) (Nat.le_of_ble_eq_true rfl) ?_
    refine am_go (cuts := k_Text_isDigit) tb_Text_isDigit 400 _ _ _ _ ?_
    change am_run _ _ _ _ _ _ [some (.int b)] [] _
    simp only [r_Text_isDigit_0, r_Text_isDigit_1, r_Text_isDigit_3, r_Text_isDigit_6, r_Text_isDigit_7, r_Text_isDigit_9, r_Text_isDigit_12, r_Text_isDigit_13, r_Text_isDigit_16, r_Text_isDigit_17, ai_iload, ai_const, ai_cmplt, ai_cmpgt, ai_goto, ai_zret, List.getElem?_cons_zero, List.getElem?_cons_succ, List.set_cons_zero, List.set_cons_succ, true_and, and_true, ↓reduceIte, Int32.reduceLT, Int32.reduceLE, li_10, or_true, true_or]
    unfold dgB at h
    (repeat' split) <;> simp_all [b2]
  · cases h
def sp_Text_isWordByte : aS := fun as M K => match as with
  | [.int b] => K (some (.int (b2 (wB b)))) M
  | _ => False
set_option maxRecDepth 100000 in
set_option maxHeartbeats 4000000 in
theorem ok_Text_isWordByte {G : aG} (hG : am_ok G) : am_Sp G Y_Text_isWordByte 0 sp_Text_isWordByte := by
  intro as M K h
  unfold sp_Text_isWordByte at h
  split at h
  · next b =>
    refine am_entry hG (by decide +kernel) (Nat.le_of_ble_eq_true rfl) ?_
    refine am_go (cuts := k_Text_isWordByte) tb_Text_isWordByte 400 _ _ _ _ ?_
    change am_run _ _ _ _ _ _ [some (.int b)] [] _
    simp only [r_Text_isWordByte_0, r_Text_isWordByte_1, r_Text_isWordByte_3, r_Text_isWordByte_6, r_Text_isWordByte_7, r_Text_isWordByte_9, r_Text_isWordByte_12, r_Text_isWordByte_13, r_Text_isWordByte_15, r_Text_isWordByte_18, r_Text_isWordByte_19, r_Text_isWordByte_21, r_Text_isWordByte_24, r_Text_isWordByte_25, r_Text_isWordByte_26, r_Text_isWordByte_27, r_Text_isWordByte_164, r_Text_isWordByte_165, r_Text_isWordByte_166, r_Text_isWordByte_167, ai_iload, ai_const, ai_cmplt, ai_cmple, ai_cmpgt, ai_zret, ai_switch, am_sw, List.getElem?_cons_zero, List.getElem?_cons_succ, List.set_cons_zero, List.set_cons_succ, true_and, and_true, ↓reduceIte, Int32.reduceLT, Int32.reduceLE, li_10, or_true, true_or]
    by_cases s : b = 33 ∨ b = 42 ∨ b = 43 ∨ b = 45 ∨ b = 47 ∨ b = 60 ∨ b = 61 ∨ b = 62 ∨ b = 63
    · rcases s with rfl | rfl | rfl | rfl | rfl | rfl | rfl | rfl | rfl <;> exact h
    · simp only [not_or] at s
      obtain ⟨s1, s2, s3, s4, s5, s6, s7, s8, s9⟩ := s
      simp only [s1, s2, s3, s4, s5, s6, s7, s8, s9, ↓reduceIte, ite_self]
      by_cases c1 : b < 97
      · by_cases c2 : b < 48
        · rw [show wB b = false by simp only [wB, c1, c2, s1, s2, s3, s4, s5, s6, s7, s8, s9]; rfl] at h
          rw [if_pos c1, if_pos c2]; exact h
        · by_cases c3 : 57 < b
          · rw [show wB b = false by simp only [wB, c1, c2, c3, s1, s2, s3, s4, s5, s6, s7, s8, s9]; rfl] at h
            rw [if_pos c1, if_neg c2, if_pos c3]; exact h
          · rw [show wB b = true by simp only [wB, c1, c2, c3, s1, s2, s3, s4, s5, s6, s7, s8, s9]; rfl] at h
            rw [if_pos c1, if_neg c2, if_neg c3]; exact h
      · by_cases c0 : 122 < b
        · by_cases c2 : b < 48
          · rw [show wB b = false by simp only [wB, c0, c1, c2, s1, s2, s3, s4, s5, s6, s7, s8, s9]; rfl] at h
            rw [if_neg c1, if_pos c0, if_pos c2]; exact h
          · by_cases c3 : 57 < b
            · rw [show wB b = false by simp only [wB, c0, c1, c2, c3, s1, s2, s3, s4, s5, s6, s7, s8, s9]; rfl] at h
              rw [if_neg c1, if_pos c0, if_neg c2, if_pos c3]; exact h
            · rw [show wB b = true by simp only [wB, c0, c1, c2, c3, s1, s2, s3, s4, s5, s6, s7, s8, s9]; rfl] at h
              rw [if_neg c1, if_pos c0, if_neg c2, if_neg c3]; exact h
        · rw [show wB b = true by simp only [wB, c0, c1]; rfl] at h
          rw [if_neg c1, if_neg c0]; exact h
  · cases h
/-- where the blanks and remarks from i on end; k: how many bytes are left; cm: in a remark -/
def skB (t : Nat → Int32) : Nat → Bool → Nat → Nat
  | 0, _, i => i
  | k + 1, cm, i => if (decide (t i = 59) || (cm && !decide (t i = 10))) = true then skB t k true (i + 1) else if t i = 10 ∨ t i = 32 then skB t k false (i + 1) else i
theorem skB_le (t : Nat → Int32) : ∀ (k : Nat) (cm : Bool) (i : Nat), i ≤ skB t k cm i ∧ skB t k cm i ≤ i + k
  | 0, _, i => ⟨Nat.le_refl i, Nat.le_refl i⟩
  | k + 1, cm, i => by
    have h1 := skB_le t k true (i + 1)
    have h2 := skB_le t k false (i + 1)
    simp only [skB]
    split
    · omega
    · split <;> omega
theorem f_at_nI {M : aM} {i : Nat} (h : tx_ok M) (hi : i < 2 ^ 31) : f_at M (nI i) = if i < tl M then M 2 i else -1 := by
  obtain ⟨h1, h2⟩ := h
  unfold f_at
  rw [if_neg (nI_pos hi), h1]
  by_cases q : i < tl M
  · rw [if_pos ((nI_ltI hi (by omega)).mpr q), if_pos q, if_pos (show nI i < 400 from (nI_ltI (b := 400) hi (by decide)).mpr (by omega)), nI_clamp hi]
  · rw [if_neg (fun z => q ((nI_ltI hi (by omega)).mp z)), if_neg q]
def f_skip (M : aM) (i : Nat) : Nat := skB (M 2) (tl M - i) false i
def sp_Text_skipBlanks : aS := fun as M K => match as with
  | [.ref a, .int p] => a = 1 ∧ (tx_ok M ∧ sm p (tl M)) ∧ K (some (.int (nI (f_skip M (cl p))))) M
  | _ => False
set_option maxRecDepth 100000 in
set_option maxHeartbeats 4000000 in
theorem lp_Text_skipBlanks {G : aG} (hG : am_ok G) {K : aR} {M : aM} (hn : tx_ok M) {p : Int32} : ∀ (k i : Nat) (cm : Bool) (o : Option Value), i + k = tl M → K (some (.int (nI (skB (M 2) k cm i)))) M → am_X G Y_Text_skipBlanks 1 K 4 [some (.ref 1), some (.int p), some (.int (b2 cm)), some (.int (nI i)), o] [] M := by
  intro k
  have hn2 := hn.2
  induction k with
  | zero =>
    intro i cm o hk h
    have e1 : ¬ nI i < M 1 1 := by rw [hn.1]; exact nI_nlt (by omega) (by omega)
    refine am_from (tb_Text_skipBlanks (ok_Text_at hG) (by decide)) k_Text_skipBlanks 400 ?_
    simp only [q_Text_skipBlanks_4, r_Text_skipBlanks_0, r_Text_skipBlanks_1, r_Text_skipBlanks_2, r_Text_skipBlanks_3, r_Text_skipBlanks_4, r_Text_skipBlanks_5, r_Text_skipBlanks_6, r_Text_skipBlanks_9, r_Text_skipBlanks_12, r_Text_skipBlanks_13, r_Text_skipBlanks_14, r_Text_skipBlanks_17, r_Text_skipBlanks_19, r_Text_skipBlanks_21, r_Text_skipBlanks_23, r_Text_skipBlanks_26, r_Text_skipBlanks_27, r_Text_skipBlanks_30, r_Text_skipBlanks_32, r_Text_skipBlanks_34, r_Text_skipBlanks_37, r_Text_skipBlanks_38, r_Text_skipBlanks_41, r_Text_skipBlanks_42, r_Text_skipBlanks_43, r_Text_skipBlanks_44, r_Text_skipBlanks_47, r_Text_skipBlanks_49, r_Text_skipBlanks_51, r_Text_skipBlanks_54, r_Text_skipBlanks_56, r_Text_skipBlanks_58, r_Text_skipBlanks_61, r_Text_skipBlanks_62, r_Text_skipBlanks_63, r_Text_skipBlanks_66, r_Text_skipBlanks_69, r_Text_skipBlanks_70, ai_const, ai_istore, am_cut_0, am_cut_s, am_c1, ai_iload, ai_aload, ai_getf, ai_cmpge, ai_callv2, am_push, am_few, ai_cmpeq, ai_ifeq, ai_goto, ai_ifne, ai_iret, ai_iinc, kd_0, fd_0_0, fd_0_1, fd_0_2, fd_0_3, fd_0_4, kd_1, fd_1_0, fd_1_1, ln_2, kd_3, fd_3_0, fd_3_1, fd_3_2, fd_3_3, fd_3_4, fd_3_5, fd_3_6, fd_3_7, fd_3_8, fd_3_9, ln_4, ln_5, ln_6, ln_7, ln_8, ln_9, ln_10, kd_11, fd_11_0, fd_11_1, fd_11_2, fd_11_3, fd_11_4, kd_12, fd_12_0, fd_12_1, fd_12_2, fd_12_3, ln_13, ln_14, ln_15, kd_16, fd_16_0, fd_16_1, fd_16_2, ln_17, kd_18, fd_18_0, fd_18_1, kd_19, fd_19_0, fd_19_1, fd_19_2, fd_19_3, fd_19_4, fd_19_5, fd_19_6, fd_19_7, fd_19_8, fd_19_9, fd_19_10, fd_19_11, fd_19_12, fd_19_13, fd_19_14, fd_19_15, fd_19_16, fd_19_17, fd_19_18, fd_19_19, fd_19_20, ln_20, ln_21, ln_22, ln_23, ln_24, ln_25, ln_26, ln_27, ln_28, ln_29, ln_30, ln_31, ln_32, List.getElem?_cons_zero, List.getElem?_cons_succ, List.set_cons_zero, List.set_cons_succ, true_and, and_true, ↓reduceIte, Int32.reduceLT, Int32.reduceLE, li_10, or_true, true_or, ↓sp_Text_at, e1]
    exact h
  | succ k ih =>
    intro i cm o hk h
    have e1 : nI i < M 1 1 := by rw [hn.1]; exact nI_lt (by omega) (by omega)
    have e2 : f_at M (nI i) = M 2 i := by rw [f_at_nI hn (by omega), if_pos (by omega)]
    refine am_from (tb_Text_skipBlanks (ok_Text_at hG) (by decide)) k_Text_skipBlanks 400 ?_
    simp only [q_Text_skipBlanks_4, r_Text_skipBlanks_0, r_Text_skipBlanks_1, r_Text_skipBlanks_2, r_Text_skipBlanks_3, r_Text_skipBlanks_4, r_Text_skipBlanks_5, r_Text_skipBlanks_6, r_Text_skipBlanks_9, r_Text_skipBlanks_12, r_Text_skipBlanks_13, r_Text_skipBlanks_14, r_Text_skipBlanks_17, r_Text_skipBlanks_19, r_Text_skipBlanks_21, r_Text_skipBlanks_23, r_Text_skipBlanks_26, r_Text_skipBlanks_27, r_Text_skipBlanks_30, r_Text_skipBlanks_32, r_Text_skipBlanks_34, r_Text_skipBlanks_37, r_Text_skipBlanks_38, r_Text_skipBlanks_41, r_Text_skipBlanks_42, r_Text_skipBlanks_43, r_Text_skipBlanks_44, r_Text_skipBlanks_47, r_Text_skipBlanks_49, r_Text_skipBlanks_51, r_Text_skipBlanks_54, r_Text_skipBlanks_56, r_Text_skipBlanks_58, r_Text_skipBlanks_61, r_Text_skipBlanks_62, r_Text_skipBlanks_63, r_Text_skipBlanks_66, r_Text_skipBlanks_69, r_Text_skipBlanks_70, ai_const, ai_istore, am_cut_0, am_cut_s, am_c1, ai_iload, ai_aload, ai_getf, ai_cmpge, ai_callv2, am_push, am_few, ai_cmpeq, ai_ifeq, ai_goto, ai_ifne, ai_iret, ai_iinc, kd_0, fd_0_0, fd_0_1, fd_0_2, fd_0_3, fd_0_4, kd_1, fd_1_0, fd_1_1, ln_2, kd_3, fd_3_0, fd_3_1, fd_3_2, fd_3_3, fd_3_4, fd_3_5, fd_3_6, fd_3_7, fd_3_8, fd_3_9, ln_4, ln_5, ln_6, ln_7, ln_8, ln_9, ln_10, kd_11, fd_11_0, fd_11_1, fd_11_2, fd_11_3, fd_11_4, kd_12, fd_12_0, fd_12_1, fd_12_2, fd_12_3, ln_13, ln_14, ln_15, kd_16, fd_16_0, fd_16_1, fd_16_2, ln_17, kd_18, fd_18_0, fd_18_1, kd_19, fd_19_0, fd_19_1, fd_19_2, fd_19_3, fd_19_4, fd_19_5, fd_19_6, fd_19_7, fd_19_8, fd_19_9, fd_19_10, fd_19_11, fd_19_12, fd_19_13, fd_19_14, fd_19_15, fd_19_16, fd_19_17, fd_19_18, fd_19_19, fd_19_20, ln_20, ln_21, ln_22, ln_23, ln_24, ln_25, ln_26, ln_27, ln_28, ln_29, ln_30, ln_31, ln_32, List.getElem?_cons_zero, List.getElem?_cons_succ, List.set_cons_zero, List.set_cons_succ, true_and, and_true, ↓reduceIte, Int32.reduceLT, Int32.reduceLE, li_10, or_true, true_or, ↓sp_Text_at, e1, e2, nI_1]
    simp only [skB] at h
    have g1 := ih (i + 1) true (some (.int (M 2 i))) (by omega)
    have g2 := ih (i + 1) false (some (.int (M 2 i))) (by omega)
    cases cm <;> by_cases c1 : M 2 i = 59 <;> by_cases c2 : M 2 i = 10 <;> by_cases c3 : M 2 i = 32 <;> simp [c1, c2, c3, b2] at h g1 g2 ⊢ <;> first | exact h | exact g1 h | exact g2 h
set_option maxRecDepth 100000 in
set_option maxHeartbeats 4000000 in
theorem ok_Text_skipBlanks {G : aG} (hG : am_ok G) : am_Sp G Y_Text_skipBlanks 1 sp_Text_skipBlanks := by
  intro as M K h
  unfold sp_Text_skipBlanks at h
  split at h
  · next a p =>
    obtain ⟨rfl, ⟨hn, hp⟩, h⟩ := h
    refine am_entry hG (by decide +kernel) (Nat.le_of_ble_eq_true rfl) ?_
    refine am_go (cuts := k_Text_skipBlanks) (tb_Text_skipBlanks (ok_Text_at hG) (by decide)) 400 _ _ _ _ ?_
    change am_run _ _ _ _ _ _ [some (.ref 1), some (.int p), none, none, none] [] _
    simp only [q_Text_skipBlanks_4, r_Text_skipBlanks_0, r_Text_skipBlanks_1, r_Text_skipBlanks_2, r_Text_skipBlanks_3, r_Text_skipBlanks_4, r_Text_skipBlanks_5, r_Text_skipBlanks_6, r_Text_skipBlanks_9, r_Text_skipBlanks_12, r_Text_skipBlanks_13, r_Text_skipBlanks_14, r_Text_skipBlanks_17, r_Text_skipBlanks_19, r_Text_skipBlanks_21, r_Text_skipBlanks_23, r_Text_skipBlanks_26, r_Text_skipBlanks_27, r_Text_skipBlanks_30, r_Text_skipBlanks_32, r_Text_skipBlanks_34, r_Text_skipBlanks_37, r_Text_skipBlanks_38, r_Text_skipBlanks_41, r_Text_skipBlanks_42, r_Text_skipBlanks_43, r_Text_skipBlanks_44, r_Text_skipBlanks_47, r_Text_skipBlanks_49, r_Text_skipBlanks_51, r_Text_skipBlanks_54, r_Text_skipBlanks_56, r_Text_skipBlanks_58, r_Text_skipBlanks_61, r_Text_skipBlanks_62, r_Text_skipBlanks_63, r_Text_skipBlanks_66, r_Text_skipBlanks_69, r_Text_skipBlanks_70, ai_const, ai_istore, am_cut_0, am_cut_s, am_c1, ai_iload, ai_aload, ai_getf, ai_cmpge, ai_callv2, am_push, am_few, ai_cmpeq, ai_ifeq, ai_goto, ai_ifne, ai_iret, ai_iinc, kd_0, fd_0_0, fd_0_1, fd_0_2, fd_0_3, fd_0_4, kd_1, fd_1_0, fd_1_1, ln_2, kd_3, fd_3_0, fd_3_1, fd_3_2, fd_3_3, fd_3_4, fd_3_5, fd_3_6, fd_3_7, fd_3_8, fd_3_9, ln_4, ln_5, ln_6, ln_7, ln_8, ln_9, ln_10, kd_11, fd_11_0, fd_11_1, fd_11_2, fd_11_3, fd_11_4, kd_12, fd_12_0, fd_12_1, fd_12_2, fd_12_3, ln_13, ln_14, ln_15, kd_16, fd_16_0, fd_16_1, fd_16_2, ln_17, kd_18, fd_18_0, fd_18_1, kd_19, fd_19_0, fd_19_1, fd_19_2, fd_19_3, fd_19_4, fd_19_5, fd_19_6, fd_19_7, fd_19_8, fd_19_9, fd_19_10, fd_19_11, fd_19_12, fd_19_13, fd_19_14, fd_19_15, fd_19_16, fd_19_17, fd_19_18, fd_19_19, fd_19_20, ln_20, ln_21, ln_22, ln_23, ln_24, ln_25, ln_26, ln_27, ln_28, ln_29, ln_30, ln_31, ln_32, List.getElem?_cons_zero, List.getElem?_cons_succ, List.set_cons_zero, List.set_cons_succ, true_and, and_true, ↓reduceIte, Int32.reduceLT, Int32.reduceLE, li_10, or_true, true_or]
    rw [hp.1]
    have := hp.2
    exact lp_Text_skipBlanks hG hn (tl M - cl p) (cl p) false none (by omega) h
  · cases h
/-- where the word from i on ends -/
def wE (t : Nat → Int32) : Nat → Nat → Nat
  | 0, i => i
  | k + 1, i => if wB (t i) = true then wE t k (i + 1) else i
theorem wE_le (t : Nat → Int32) : ∀ (k i : Nat), i ≤ wE t k i ∧ wE t k i ≤ i + k
  | 0, i => ⟨Nat.le_refl i, Nat.le_refl i⟩
  | k + 1, i => by
    have h1 := wE_le t k (i + 1)
    simp only [wE]
    split <;> omega
def f_word (M : aM) (i : Nat) : Nat := wE (M 2) (tl M - i) i
theorem f_word_le {M : aM} (hn : tx_ok M) {i : Nat} (hi : i ≤ 401) : i ≤ f_word M i ∧ f_word M i ≤ 401 := by
  have h := wE_le (M 2) (tl M - i) i
  have := hn.2
  unfold f_word
  omega
def sp_Text_wordEnd : aS := fun as M K => match as with
  | [.ref a, .int p] => a = 1 ∧ (tx_ok M ∧ sm p 401) ∧ K (some (.int (nI (f_word M (cl p))))) M
  | _ => False
set_option maxRecDepth 100000 in
set_option maxHeartbeats 4000000 in
theorem lp_Text_wordEnd {G : aG} (hG : am_ok G) {K : aR} {M : aM} (hn : tx_ok M) {p : Int32} : ∀ (k i : Nat), tl M - i = k → i ≤ 401 → K (some (.int (nI (wE (M 2) k i)))) M → am_X G Y_Text_wordEnd 1 K 2 [some (.ref 1), some (.int p), some (.int (nI i))] [] M := by
  intro k
  have hn2 := hn.2
  induction k with
  | zero =>
    intro i hk hi h
    have e1 : ¬ nI i < M 1 1 := by rw [hn.1]; exact nI_nlt (by omega) (by omega)
    refine am_from (tb_Text_wordEnd (ok_Text_at hG) (by decide) (ok_Text_isWordByte hG) (by decide)) k_Text_wordEnd 400 ?_
    simp only [q_Text_wordEnd_2, r_Text_wordEnd_0, r_Text_wordEnd_1, r_Text_wordEnd_2, r_Text_wordEnd_3, r_Text_wordEnd_4, r_Text_wordEnd_7, r_Text_wordEnd_10, r_Text_wordEnd_11, r_Text_wordEnd_12, r_Text_wordEnd_15, r_Text_wordEnd_18, r_Text_wordEnd_21, r_Text_wordEnd_24, r_Text_wordEnd_27, r_Text_wordEnd_28, ai_iload, ai_istore, am_cut_0, am_cut_s, am_c1, ai_aload, ai_getf, ai_cmpge, ai_callv2, am_push, am_few, ai_calls1, ai_ifeq, ai_iinc, ai_goto, ai_iret, kd_0, fd_0_0, fd_0_1, fd_0_2, fd_0_3, fd_0_4, kd_1, fd_1_0, fd_1_1, ln_2, kd_3, fd_3_0, fd_3_1, fd_3_2, fd_3_3, fd_3_4, fd_3_5, fd_3_6, fd_3_7, fd_3_8, fd_3_9, ln_4, ln_5, ln_6, ln_7, ln_8, ln_9, ln_10, kd_11, fd_11_0, fd_11_1, fd_11_2, fd_11_3, fd_11_4, kd_12, fd_12_0, fd_12_1, fd_12_2, fd_12_3, ln_13, ln_14, ln_15, kd_16, fd_16_0, fd_16_1, fd_16_2, ln_17, kd_18, fd_18_0, fd_18_1, kd_19, fd_19_0, fd_19_1, fd_19_2, fd_19_3, fd_19_4, fd_19_5, fd_19_6, fd_19_7, fd_19_8, fd_19_9, fd_19_10, fd_19_11, fd_19_12, fd_19_13, fd_19_14, fd_19_15, fd_19_16, fd_19_17, fd_19_18, fd_19_19, fd_19_20, ln_20, ln_21, ln_22, ln_23, ln_24, ln_25, ln_26, ln_27, ln_28, ln_29, ln_30, ln_31, ln_32, List.getElem?_cons_zero, List.getElem?_cons_succ, List.set_cons_zero, List.set_cons_succ, true_and, and_true, ↓reduceIte, Int32.reduceLT, Int32.reduceLE, li_10, or_true, true_or, e1]
    exact h
  | succ k ih =>
    intro i hk hi h
    have e1 : nI i < M 1 1 := by rw [hn.1]; exact nI_lt (by omega) (by omega)
    have e2 : f_at M (nI i) = M 2 i := by rw [f_at_nI hn (by omega), if_pos (by omega)]
    refine am_from (tb_Text_wordEnd (ok_Text_at hG) (by decide) (ok_Text_isWordByte hG) (by decide)) k_Text_wordEnd 400 ?_
    simp only [q_Text_wordEnd_2, r_Text_wordEnd_0, r_Text_wordEnd_1, r_Text_wordEnd_2, r_Text_wordEnd_3, r_Text_wordEnd_4, r_Text_wordEnd_7, r_Text_wordEnd_10, r_Text_wordEnd_11, r_Text_wordEnd_12, r_Text_wordEnd_15, r_Text_wordEnd_18, r_Text_wordEnd_21, r_Text_wordEnd_24, r_Text_wordEnd_27, r_Text_wordEnd_28, ai_iload, ai_istore, am_cut_0, am_cut_s, am_c1, ai_aload, ai_getf, ai_cmpge, ai_callv2, am_push, am_few, ai_calls1, ai_ifeq, ai_iinc, ai_goto, ai_iret, kd_0, fd_0_0, fd_0_1, fd_0_2, fd_0_3, fd_0_4, kd_1, fd_1_0, fd_1_1, ln_2, kd_3, fd_3_0, fd_3_1, fd_3_2, fd_3_3, fd_3_4, fd_3_5, fd_3_6, fd_3_7, fd_3_8, fd_3_9, ln_4, ln_5, ln_6, ln_7, ln_8, ln_9, ln_10, kd_11, fd_11_0, fd_11_1, fd_11_2, fd_11_3, fd_11_4, kd_12, fd_12_0, fd_12_1, fd_12_2, fd_12_3, ln_13, ln_14, ln_15, kd_16, fd_16_0, fd_16_1, fd_16_2, ln_17, kd_18, fd_18_0, fd_18_1, kd_19, fd_19_0, fd_19_1, fd_19_2, fd_19_3, fd_19_4, fd_19_5, fd_19_6, fd_19_7, fd_19_8, fd_19_9, fd_19_10, fd_19_11, fd_19_12, fd_19_13, fd_19_14, fd_19_15, fd_19_16, fd_19_17, fd_19_18, fd_19_19, fd_19_20, ln_20, ln_21, ln_22, ln_23, ln_24, ln_25, ln_26, ln_27, ln_28, ln_29, ln_30, ln_31, ln_32, List.getElem?_cons_zero, List.getElem?_cons_succ, List.set_cons_zero, List.set_cons_succ, true_and, and_true, ↓reduceIte, Int32.reduceLT, Int32.reduceLE, li_10, or_true, true_or, ↓sp_Text_at, ↓sp_Text_isWordByte, e1, e2, nI_1]
    simp only [wE] at h
    have g1 := ih (i + 1) (by omega) (by omega)
    cases c1 : wB (M 2 i) <;> simp only [c1, b2, ↓reduceIte, li_10, Bool.false_eq_true] at h ⊢
    · exact h
    · exact g1 h
set_option maxRecDepth 100000 in
set_option maxHeartbeats 4000000 in
theorem ok_Text_wordEnd {G : aG} (hG : am_ok G) : am_Sp G Y_Text_wordEnd 1 sp_Text_wordEnd := by
  intro as M K h
  unfold sp_Text_wordEnd at h
  split at h
  · next a p =>
    obtain ⟨rfl, ⟨hn, hp⟩, h⟩ := h
    refine am_entry hG (by decide +kernel) (Nat.le_of_ble_eq_true rfl) ?_
    refine am_go (cuts := k_Text_wordEnd) (tb_Text_wordEnd (ok_Text_at hG) (by decide) (ok_Text_isWordByte hG) (by decide)) 400 _ _ _ _ ?_
    change am_run _ _ _ _ _ _ [some (.ref 1), some (.int p), none] [] _
    simp only [q_Text_wordEnd_2, r_Text_wordEnd_0, r_Text_wordEnd_1, r_Text_wordEnd_2, r_Text_wordEnd_3, r_Text_wordEnd_4, r_Text_wordEnd_7, r_Text_wordEnd_10, r_Text_wordEnd_11, r_Text_wordEnd_12, r_Text_wordEnd_15, r_Text_wordEnd_18, r_Text_wordEnd_21, r_Text_wordEnd_24, r_Text_wordEnd_27, r_Text_wordEnd_28, ai_iload, ai_istore, am_cut_0, am_cut_s, am_c1, ai_aload, ai_getf, ai_cmpge, ai_callv2, am_push, am_few, ai_calls1, ai_ifeq, ai_iinc, ai_goto, ai_iret, kd_0, fd_0_0, fd_0_1, fd_0_2, fd_0_3, fd_0_4, kd_1, fd_1_0, fd_1_1, ln_2, kd_3, fd_3_0, fd_3_1, fd_3_2, fd_3_3, fd_3_4, fd_3_5, fd_3_6, fd_3_7, fd_3_8, fd_3_9, ln_4, ln_5, ln_6, ln_7, ln_8, ln_9, ln_10, kd_11, fd_11_0, fd_11_1, fd_11_2, fd_11_3, fd_11_4, kd_12, fd_12_0, fd_12_1, fd_12_2, fd_12_3, ln_13, ln_14, ln_15, kd_16, fd_16_0, fd_16_1, fd_16_2, ln_17, kd_18, fd_18_0, fd_18_1, kd_19, fd_19_0, fd_19_1, fd_19_2, fd_19_3, fd_19_4, fd_19_5, fd_19_6, fd_19_7, fd_19_8, fd_19_9, fd_19_10, fd_19_11, fd_19_12, fd_19_13, fd_19_14, fd_19_15, fd_19_16, fd_19_17, fd_19_18, fd_19_19, fd_19_20, ln_20, ln_21, ln_22, ln_23, ln_24, ln_25, ln_26, ln_27, ln_28, ln_29, ln_30, ln_31, ln_32, List.getElem?_cons_zero, List.getElem?_cons_succ, List.set_cons_zero, List.set_cons_succ, true_and, and_true, ↓reduceIte, Int32.reduceLT, Int32.reduceLE, li_10, or_true, true_or]
    rw [hp.1]
    exact lp_Text_wordEnd hG hn (tl M - cl p) (cl p) rfl hp.2 h
  · cases h
/-- names -/
def f_name (M : aM) (i : Nat) : Int32 := if 12 < f_word M i - i then -1 else nI (f_word M i)
def sp_Text_nameEnd : aS := fun as M K => match as with
  | [.ref a, .int p] => a = 1 ∧ (tx_ok M ∧ sm p 401) ∧ K (some (.int (f_name M (cl p)))) M
  | _ => False
set_option maxRecDepth 100000 in
set_option maxHeartbeats 4000000 in
theorem ok_Text_nameEnd {G : aG} (hG : am_ok G) : am_Sp G Y_Text_nameEnd 2 sp_Text_nameEnd := by
  intro as M K h
  unfold sp_Text_nameEnd at h
  split at h
  · next a p =>
    obtain ⟨rfl, ⟨hn, hp⟩, h⟩ := h
    have hle := f_word_le hn hp.2
    have hp2 := hp.2
    refine am_entry hG (by decide +kernel) (Nat.le_of_ble_eq_true rfl) ?_
    refine am_go (cuts := k_Text_nameEnd) (tb_Text_nameEnd (ok_Text_wordEnd hG) (by decide)) 400 _ _ _ _ ?_
    change am_run _ _ _ _ _ _ [some (.ref 1), some (.int p), none] [] _
    simp only [r_Text_nameEnd_0, r_Text_nameEnd_1, r_Text_nameEnd_2, r_Text_nameEnd_5, r_Text_nameEnd_6, r_Text_nameEnd_7, r_Text_nameEnd_8, r_Text_nameEnd_9, r_Text_nameEnd_11, r_Text_nameEnd_14, r_Text_nameEnd_15, r_Text_nameEnd_18, r_Text_nameEnd_19, ai_aload, ai_iload, ai_callv2, am_push, am_few, ai_istore, am_cut_0, am_cut_s, am_c1, ai_isub, ai_bin, ai_const, ai_cmpgt, ai_goto, ai_iret, kd_0, fd_0_0, fd_0_1, fd_0_2, fd_0_3, fd_0_4, kd_1, fd_1_0, fd_1_1, ln_2, kd_3, fd_3_0, fd_3_1, fd_3_2, fd_3_3, fd_3_4, fd_3_5, fd_3_6, fd_3_7, fd_3_8, fd_3_9, ln_4, ln_5, ln_6, ln_7, ln_8, ln_9, ln_10, kd_11, fd_11_0, fd_11_1, fd_11_2, fd_11_3, fd_11_4, kd_12, fd_12_0, fd_12_1, fd_12_2, fd_12_3, ln_13, ln_14, ln_15, kd_16, fd_16_0, fd_16_1, fd_16_2, ln_17, kd_18, fd_18_0, fd_18_1, kd_19, fd_19_0, fd_19_1, fd_19_2, fd_19_3, fd_19_4, fd_19_5, fd_19_6, fd_19_7, fd_19_8, fd_19_9, fd_19_10, fd_19_11, fd_19_12, fd_19_13, fd_19_14, fd_19_15, fd_19_16, fd_19_17, fd_19_18, fd_19_19, fd_19_20, ln_20, ln_21, ln_22, ln_23, ln_24, ln_25, ln_26, ln_27, ln_28, ln_29, ln_30, ln_31, ln_32, List.getElem?_cons_zero, List.getElem?_cons_succ, List.set_cons_zero, List.set_cons_succ, true_and, and_true, ↓reduceIte, Int32.reduceLT, Int32.reduceLE, li_10, or_true, true_or, ↓sp_Text_wordEnd]
    refine ⟨⟨hn, hp⟩, ?_⟩
    have e1 : nI (f_word M (cl p)) - p = nI (f_word M (cl p) - cl p) := by rw [congrArg (nI (f_word M (cl p)) - ·) hp.1]; exact pk_sub hle.1
    rw [e1]
    simp only [iLT (x := 12) 12 (f_word M (cl p) - cl p) (by decide) (by omega)]
    unfold f_name at h
    split <;> simp_all
  · cases h
/-- numbers -/
def allD (t : Nat → Int32) : Nat → Nat → Bool
  | 0, _ => true
  | k + 1, i => dgB (t i) && allD t k (i + 1)
def nmF (t : Nat → Int32) (i : Nat) : Nat := if t i = 45 then i + 1 else i
def f_num (M : aM) (i : Nat) : Int32 := if f_word M (nmF (M 2) i) - nmF (M 2) i < 1 then -1 else if 9 < f_word M (nmF (M 2) i) - nmF (M 2) i then -1 else if allD (M 2) (f_word M (nmF (M 2) i) - nmF (M 2) i) (nmF (M 2) i) = true then nI (f_word M (nmF (M 2) i)) else -1
def sp_Text_numberEnd : aS := fun as M K => match as with
  | [.ref a, .int p] => a = 1 ∧ (tx_ok M ∧ sm p 400 ∧ cl p < tl M) ∧ K (some (.int (f_num M (cl p)))) M
  | _ => False
set_option maxRecDepth 100000 in
set_option maxHeartbeats 4000000 in
theorem lp_Text_numberEnd {G : aG} (hG : am_ok G) {K : aR} {M : aM} (hn : tx_ok M) {p f : Int32} {e : Nat} (he : e ≤ tl M) : ∀ (k i : Nat), i + k = e → K (some (.int (if allD (M 2) k i = true then nI e else -1))) M → am_X G Y_Text_numberEnd 2 K 44 [some (.ref 1), some (.int p), some (.int f), some (.int (nI e)), some (.int (nI i))] [] M := by
  intro k
  have hn2 := hn.2
  induction k with
  | zero =>
    intro i hk h
    have e1 : ¬ nI i < nI e := nI_nlt (by omega) (by omega)
    refine am_from (tb_Text_numberEnd (ok_Text_at hG) (by decide) (ok_Text_wordEnd hG) (by decide) (ok_Text_isDigit hG) (by decide)) k_Text_numberEnd 400 ?_
    simp only [q_Text_numberEnd_44, r_Text_numberEnd_0, r_Text_numberEnd_1, r_Text_numberEnd_2, r_Text_numberEnd_5, r_Text_numberEnd_7, r_Text_numberEnd_10, r_Text_numberEnd_11, r_Text_numberEnd_12, r_Text_numberEnd_13, r_Text_numberEnd_16, r_Text_numberEnd_17, r_Text_numberEnd_18, r_Text_numberEnd_19, r_Text_numberEnd_20, r_Text_numberEnd_23, r_Text_numberEnd_24, r_Text_numberEnd_25, r_Text_numberEnd_26, r_Text_numberEnd_27, r_Text_numberEnd_28, r_Text_numberEnd_31, r_Text_numberEnd_32, r_Text_numberEnd_33, r_Text_numberEnd_34, r_Text_numberEnd_36, r_Text_numberEnd_39, r_Text_numberEnd_40, r_Text_numberEnd_41, r_Text_numberEnd_42, r_Text_numberEnd_44, r_Text_numberEnd_46, r_Text_numberEnd_47, r_Text_numberEnd_50, r_Text_numberEnd_51, r_Text_numberEnd_53, r_Text_numberEnd_56, r_Text_numberEnd_59, r_Text_numberEnd_62, r_Text_numberEnd_63, r_Text_numberEnd_64, r_Text_numberEnd_67, r_Text_numberEnd_70, r_Text_numberEnd_71, ai_aload, ai_iload, ai_callv2, am_push, am_few, ai_const, ai_cmpne, ai_iadd, ai_bin, ai_goto, ai_istore, am_cut_0, am_cut_s, am_c1, ai_isub, ai_cmplt, ai_cmple, ai_iret, ai_cmpge, ai_calls1, ai_ifne, ai_iinc, kd_0, fd_0_0, fd_0_1, fd_0_2, fd_0_3, fd_0_4, kd_1, fd_1_0, fd_1_1, ln_2, kd_3, fd_3_0, fd_3_1, fd_3_2, fd_3_3, fd_3_4, fd_3_5, fd_3_6, fd_3_7, fd_3_8, fd_3_9, ln_4, ln_5, ln_6, ln_7, ln_8, ln_9, ln_10, kd_11, fd_11_0, fd_11_1, fd_11_2, fd_11_3, fd_11_4, kd_12, fd_12_0, fd_12_1, fd_12_2, fd_12_3, ln_13, ln_14, ln_15, kd_16, fd_16_0, fd_16_1, fd_16_2, ln_17, kd_18, fd_18_0, fd_18_1, kd_19, fd_19_0, fd_19_1, fd_19_2, fd_19_3, fd_19_4, fd_19_5, fd_19_6, fd_19_7, fd_19_8, fd_19_9, fd_19_10, fd_19_11, fd_19_12, fd_19_13, fd_19_14, fd_19_15, fd_19_16, fd_19_17, fd_19_18, fd_19_19, fd_19_20, ln_20, ln_21, ln_22, ln_23, ln_24, ln_25, ln_26, ln_27, ln_28, ln_29, ln_30, ln_31, ln_32, List.getElem?_cons_zero, List.getElem?_cons_succ, List.set_cons_zero, List.set_cons_succ, true_and, and_true, ↓reduceIte, Int32.reduceLT, Int32.reduceLE, li_10, or_true, true_or, e1]
    exact h
  | succ k ih =>
    intro i hk h
    have e1 : nI i < nI e := nI_lt (by omega) (by omega)
    have e2 : f_at M (nI i) = M 2 i := by rw [f_at_nI hn (by omega), if_pos (by omega)]
    refine am_from (tb_Text_numberEnd (ok_Text_at hG) (by decide) (ok_Text_wordEnd hG) (by decide) (ok_Text_isDigit hG) (by decide)) k_Text_numberEnd 400 ?_
    simp only [q_Text_numberEnd_44, r_Text_numberEnd_0, r_Text_numberEnd_1, r_Text_numberEnd_2, r_Text_numberEnd_5, r_Text_numberEnd_7, r_Text_numberEnd_10, r_Text_numberEnd_11, r_Text_numberEnd_12, r_Text_numberEnd_13, r_Text_numberEnd_16, r_Text_numberEnd_17, r_Text_numberEnd_18, r_Text_numberEnd_19, r_Text_numberEnd_20, r_Text_numberEnd_23, r_Text_numberEnd_24, r_Text_numberEnd_25, r_Text_numberEnd_26, r_Text_numberEnd_27, r_Text_numberEnd_28, r_Text_numberEnd_31, r_Text_numberEnd_32, r_Text_numberEnd_33, r_Text_numberEnd_34, r_Text_numberEnd_36, r_Text_numberEnd_39, r_Text_numberEnd_40, r_Text_numberEnd_41, r_Text_numberEnd_42, r_Text_numberEnd_44, r_Text_numberEnd_46, r_Text_numberEnd_47, r_Text_numberEnd_50, r_Text_numberEnd_51, r_Text_numberEnd_53, r_Text_numberEnd_56, r_Text_numberEnd_59, r_Text_numberEnd_62, r_Text_numberEnd_63, r_Text_numberEnd_64, r_Text_numberEnd_67, r_Text_numberEnd_70, r_Text_numberEnd_71, ai_aload, ai_iload, ai_callv2, am_push, am_few, ai_const, ai_cmpne, ai_iadd, ai_bin, ai_goto, ai_istore, am_cut_0, am_cut_s, am_c1, ai_isub, ai_cmplt, ai_cmple, ai_iret, ai_cmpge, ai_calls1, ai_ifne, ai_iinc, kd_0, fd_0_0, fd_0_1, fd_0_2, fd_0_3, fd_0_4, kd_1, fd_1_0, fd_1_1, ln_2, kd_3, fd_3_0, fd_3_1, fd_3_2, fd_3_3, fd_3_4, fd_3_5, fd_3_6, fd_3_7, fd_3_8, fd_3_9, ln_4, ln_5, ln_6, ln_7, ln_8, ln_9, ln_10, kd_11, fd_11_0, fd_11_1, fd_11_2, fd_11_3, fd_11_4, kd_12, fd_12_0, fd_12_1, fd_12_2, fd_12_3, ln_13, ln_14, ln_15, kd_16, fd_16_0, fd_16_1, fd_16_2, ln_17, kd_18, fd_18_0, fd_18_1, kd_19, fd_19_0, fd_19_1, fd_19_2, fd_19_3, fd_19_4, fd_19_5, fd_19_6, fd_19_7, fd_19_8, fd_19_9, fd_19_10, fd_19_11, fd_19_12, fd_19_13, fd_19_14, fd_19_15, fd_19_16, fd_19_17, fd_19_18, fd_19_19, fd_19_20, ln_20, ln_21, ln_22, ln_23, ln_24, ln_25, ln_26, ln_27, ln_28, ln_29, ln_30, ln_31, ln_32, List.getElem?_cons_zero, List.getElem?_cons_succ, List.set_cons_zero, List.set_cons_succ, true_and, and_true, ↓reduceIte, Int32.reduceLT, Int32.reduceLE, li_10, or_true, true_or, ↓sp_Text_at, ↓sp_Text_isDigit, e1, e2, nI_1]
    have g1 := ih (i + 1) (by omega)
    simp only [allD] at h
    cases c1 : dgB (M 2 i) <;> simp only [c1, b2, ↓reduceIte, li_10, Bool.false_eq_true, Bool.true_and, Bool.false_and] at h ⊢
    · exact h
    · exact g1 h
set_option maxRecDepth 100000 in
set_option maxHeartbeats 4000000 in
theorem ok_Text_numberEnd {G : aG} (hG : am_ok G) : am_Sp G Y_Text_numberEnd 2 sp_Text_numberEnd := by
  intro as M K h
  unfold sp_Text_numberEnd at h
  split at h
  · next a p =>
    obtain ⟨rfl, ⟨hn, hp, hpt⟩, h⟩ := h
    have hn2 := hn.2
    have e2 : f_at M p = M 2 (cl p) := by
      have q := f_at_nI (i := cl p) hn (by omega)
      rw [if_pos hpt, ← hp.1] at q
      exact q
    refine am_entry hG (by decide +kernel) (Nat.le_of_ble_eq_true rfl) ?_
    refine am_go (cuts := k_Text_numberEnd) (tb_Text_numberEnd (ok_Text_at hG) (by decide) (ok_Text_wordEnd hG) (by decide) (ok_Text_isDigit hG) (by decide)) 400 _ _ _ _ ?_
    change am_run _ _ _ _ _ _ [some (.ref 1), some (.int p), none, none, none] [] _
    simp only [q_Text_numberEnd_44, r_Text_numberEnd_0, r_Text_numberEnd_1, r_Text_numberEnd_2, r_Text_numberEnd_5, r_Text_numberEnd_7, r_Text_numberEnd_10, r_Text_numberEnd_11, r_Text_numberEnd_12, r_Text_numberEnd_13, r_Text_numberEnd_16, r_Text_numberEnd_17, r_Text_numberEnd_18, r_Text_numberEnd_19, r_Text_numberEnd_20, r_Text_numberEnd_23, r_Text_numberEnd_24, r_Text_numberEnd_25, r_Text_numberEnd_26, r_Text_numberEnd_27, r_Text_numberEnd_28, r_Text_numberEnd_31, r_Text_numberEnd_32, r_Text_numberEnd_33, r_Text_numberEnd_34, r_Text_numberEnd_36, r_Text_numberEnd_39, r_Text_numberEnd_40, r_Text_numberEnd_41, r_Text_numberEnd_42, r_Text_numberEnd_44, r_Text_numberEnd_46, r_Text_numberEnd_47, r_Text_numberEnd_50, r_Text_numberEnd_51, r_Text_numberEnd_53, r_Text_numberEnd_56, r_Text_numberEnd_59, r_Text_numberEnd_62, r_Text_numberEnd_63, r_Text_numberEnd_64, r_Text_numberEnd_67, r_Text_numberEnd_70, r_Text_numberEnd_71, ai_aload, ai_iload, ai_callv2, am_push, am_few, ai_const, ai_cmpne, ai_iadd, ai_bin, ai_goto, ai_istore, am_cut_0, am_cut_s, am_c1, ai_isub, ai_cmplt, ai_cmple, ai_iret, ai_cmpge, ai_calls1, ai_ifne, ai_iinc, kd_0, fd_0_0, fd_0_1, fd_0_2, fd_0_3, fd_0_4, kd_1, fd_1_0, fd_1_1, ln_2, kd_3, fd_3_0, fd_3_1, fd_3_2, fd_3_3, fd_3_4, fd_3_5, fd_3_6, fd_3_7, fd_3_8, fd_3_9, ln_4, ln_5, ln_6, ln_7, ln_8, ln_9, ln_10, kd_11, fd_11_0, fd_11_1, fd_11_2, fd_11_3, fd_11_4, kd_12, fd_12_0, fd_12_1, fd_12_2, fd_12_3, ln_13, ln_14, ln_15, kd_16, fd_16_0, fd_16_1, fd_16_2, ln_17, kd_18, fd_18_0, fd_18_1, kd_19, fd_19_0, fd_19_1, fd_19_2, fd_19_3, fd_19_4, fd_19_5, fd_19_6, fd_19_7, fd_19_8, fd_19_9, fd_19_10, fd_19_11, fd_19_12, fd_19_13, fd_19_14, fd_19_15, fd_19_16, fd_19_17, fd_19_18, fd_19_19, fd_19_20, ln_20, ln_21, ln_22, ln_23, ln_24, ln_25, ln_26, ln_27, ln_28, ln_29, ln_30, ln_31, ln_32, List.getElem?_cons_zero, List.getElem?_cons_succ, List.set_cons_zero, List.set_cons_succ, true_and, and_true, ↓reduceIte, Int32.reduceLT, Int32.reduceLE, li_10, or_true, true_or, ↓sp_Text_at, ↓sp_Text_wordEnd, e2]
    have key : ∀ f : Nat, f ≤ tl M → K (some (.int (if f_word M f - f < 1 then -1 else if 9 < f_word M f - f then -1 else if allD (M 2) (f_word M f - f) f = true then nI (f_word M f) else -1))) M → (tx_ok M ∧ sm (nI f) 401) ∧ (if nI (f_word M (cl (nI f))) - nI f < 1 then K (some (.int (-1))) M else if 9 < nI (f_word M (cl (nI f))) - nI f then K (some (.int (-1))) M else am_X G Y_Text_numberEnd 2 K 44 [some (.ref 1), some (.int p), some (.int (nI f)), some (.int (nI (f_word M (cl (nI f))))), some (.int (nI f))] [] M) := by
      intro f hf hk
      refine ⟨⟨hn, sm_nI (by omega) (by decide)⟩, ?_⟩
      rw [show cl (nI f) = f from nI_clamp (by omega)]
      have hle := wE_le (M 2) (tl M - f) f
      have hw : f_word M f = wE (M 2) (tl M - f) f := rfl
      rw [pk_sub (by omega)]
      simp only [iLT (y := 1) (f_word M f - f) 1 (by omega) (by decide), iLT (x := 9) 9 (f_word M f - f) (by decide) (by omega)]
      split
      · next c => rw [if_pos c] at hk; exact hk
      · next c =>
        rw [if_neg c] at hk
        split
        · next c2 => rw [if_pos c2] at hk; exact hk
        · next c2 =>
          rw [if_neg c2] at hk
          exact lp_Text_numberEnd hG hn (by omega) (f_word M f - f) f (by omega) hk
    unfold f_num nmF at h
    split
    · next c =>
      rw [if_pos c] at h
      have := key (cl p + 1) (by omega) h
      rw [show p + 1 = nI (cl p + 1) by rw [← nI_1, ← hp.1]]
      exact this
    · next c =>
      rw [if_neg c] at h
      have := key (cl p) (by omega) h
      rw [← hp.1] at this
      exact this
  · cases h
/-- the byte at a place, -1 beyond -/
def bt (t : Nat → Int32) (n i : Nat) : Int32 := if i < n then t i else -1
theorem f_bt {M : aM} {i : Nat} (h : tx_ok M) (hi : i < 2 ^ 31) : f_at M (nI i) = bt (M 2) (tl M) i := f_at_nI h hi
/-- strings: where the one ends whose bytes begin at i; k: how many bytes it may have yet, and one -/
def stE (t : Nat → Int32) (n : Nat) : Nat → Nat → Int32
  | 0, _ => -1
  | k + 1, i => if bt t n i = 34 then nI (i + 1) else if bt t n i = 92 then (if bt t n (i + 1) = 34 then stE t n k (i + 2) else if bt t n (i + 1) = 92 then stE t n k (i + 2) else -1) else if bt t n i < 32 then -1 else if 126 < bt t n i then -1 else stE t n k (i + 1)
def f_str (M : aM) (i : Nat) : Int32 := stE (M 2) (tl M) 21 (i + 1)
def sp_Text_stringEnd : aS := fun as M K => match as with
  | [.ref a, .int p] => a = 1 ∧ (tx_ok M ∧ sm p 400) ∧ K (some (.int (f_str M (cl p)))) M
  | _ => False
set_option maxRecDepth 100000 in
set_option maxHeartbeats 4000000 in
theorem lp_Text_stringEnd {G : aG} (hG : am_ok G) {K : aR} {M : aM} (hn : tx_ok M) {p : Int32} : ∀ (k c j : Nat) (o : Option Value), c + k = 21 → j ≤ 402 + 2 * c → K (some (.int (stE (M 2) (tl M) k j))) M → am_X G Y_Text_stringEnd 1 K 6 [some (.ref 1), some (.int p), some (.int (nI j)), some (.int (nI c)), o] [] M := by
  intro k
  have hn2 := hn.2
  induction k with
  | zero =>
    intro c j o hk hj h
    have e1 : (20 : Int32) < nI c := nI_lt (a := 20) (by omega) (by omega)
    refine am_from (tb_Text_stringEnd (ok_Text_at hG) (by decide)) k_Text_stringEnd 400 ?_
    simp only [q_Text_stringEnd_6, r_Text_stringEnd_0, r_Text_stringEnd_1, r_Text_stringEnd_2, r_Text_stringEnd_3, r_Text_stringEnd_4, r_Text_stringEnd_5, r_Text_stringEnd_6, r_Text_stringEnd_7, r_Text_stringEnd_9, r_Text_stringEnd_12, r_Text_stringEnd_13, r_Text_stringEnd_14, r_Text_stringEnd_17, r_Text_stringEnd_19, r_Text_stringEnd_21, r_Text_stringEnd_23, r_Text_stringEnd_26, r_Text_stringEnd_27, r_Text_stringEnd_28, r_Text_stringEnd_29, r_Text_stringEnd_30, r_Text_stringEnd_32, r_Text_stringEnd_34, r_Text_stringEnd_37, r_Text_stringEnd_40, r_Text_stringEnd_41, r_Text_stringEnd_42, r_Text_stringEnd_45, r_Text_stringEnd_47, r_Text_stringEnd_49, r_Text_stringEnd_51, r_Text_stringEnd_54, r_Text_stringEnd_56, r_Text_stringEnd_58, r_Text_stringEnd_61, r_Text_stringEnd_62, r_Text_stringEnd_63, r_Text_stringEnd_65, r_Text_stringEnd_67, r_Text_stringEnd_70, r_Text_stringEnd_72, r_Text_stringEnd_74, r_Text_stringEnd_77, r_Text_stringEnd_78, r_Text_stringEnd_79, r_Text_stringEnd_82, r_Text_stringEnd_85, r_Text_stringEnd_88, r_Text_stringEnd_89, ai_iload, ai_const, ai_iadd, ai_bin, ai_istore, am_cut_0, am_cut_s, am_c1, ai_cmpgt, ai_aload, ai_callv2, am_push, am_few, ai_cmpne, ai_iret, ai_iinc, ai_cmpeq, ai_cmplt, ai_cmple, ai_goto, kd_0, fd_0_0, fd_0_1, fd_0_2, fd_0_3, fd_0_4, kd_1, fd_1_0, fd_1_1, ln_2, kd_3, fd_3_0, fd_3_1, fd_3_2, fd_3_3, fd_3_4, fd_3_5, fd_3_6, fd_3_7, fd_3_8, fd_3_9, ln_4, ln_5, ln_6, ln_7, ln_8, ln_9, ln_10, kd_11, fd_11_0, fd_11_1, fd_11_2, fd_11_3, fd_11_4, kd_12, fd_12_0, fd_12_1, fd_12_2, fd_12_3, ln_13, ln_14, ln_15, kd_16, fd_16_0, fd_16_1, fd_16_2, ln_17, kd_18, fd_18_0, fd_18_1, kd_19, fd_19_0, fd_19_1, fd_19_2, fd_19_3, fd_19_4, fd_19_5, fd_19_6, fd_19_7, fd_19_8, fd_19_9, fd_19_10, fd_19_11, fd_19_12, fd_19_13, fd_19_14, fd_19_15, fd_19_16, fd_19_17, fd_19_18, fd_19_19, fd_19_20, ln_20, ln_21, ln_22, ln_23, ln_24, ln_25, ln_26, ln_27, ln_28, ln_29, ln_30, ln_31, ln_32, List.getElem?_cons_zero, List.getElem?_cons_succ, List.set_cons_zero, List.set_cons_succ, true_and, and_true, ↓reduceIte, Int32.reduceLT, Int32.reduceLE, li_10, or_true, true_or, e1]
    exact h
  | succ k ih =>
    intro c j o hk hj h
    have e1 : ¬ (20 : Int32) < nI c := nI_nlt (b := c) (a := 20) (by omega) (by decide)
    refine am_from (tb_Text_stringEnd (ok_Text_at hG) (by decide)) k_Text_stringEnd 400 ?_
    simp only [q_Text_stringEnd_6, r_Text_stringEnd_0, r_Text_stringEnd_1, r_Text_stringEnd_2, r_Text_stringEnd_3, r_Text_stringEnd_4, r_Text_stringEnd_5, r_Text_stringEnd_6, r_Text_stringEnd_7, r_Text_stringEnd_9, r_Text_stringEnd_12, r_Text_stringEnd_13, r_Text_stringEnd_14, r_Text_stringEnd_17, r_Text_stringEnd_19, r_Text_stringEnd_21, r_Text_stringEnd_23, r_Text_stringEnd_26, r_Text_stringEnd_27, r_Text_stringEnd_28, r_Text_stringEnd_29, r_Text_stringEnd_30, r_Text_stringEnd_32, r_Text_stringEnd_34, r_Text_stringEnd_37, r_Text_stringEnd_40, r_Text_stringEnd_41, r_Text_stringEnd_42, r_Text_stringEnd_45, r_Text_stringEnd_47, r_Text_stringEnd_49, r_Text_stringEnd_51, r_Text_stringEnd_54, r_Text_stringEnd_56, r_Text_stringEnd_58, r_Text_stringEnd_61, r_Text_stringEnd_62, r_Text_stringEnd_63, r_Text_stringEnd_65, r_Text_stringEnd_67, r_Text_stringEnd_70, r_Text_stringEnd_72, r_Text_stringEnd_74, r_Text_stringEnd_77, r_Text_stringEnd_78, r_Text_stringEnd_79, r_Text_stringEnd_82, r_Text_stringEnd_85, r_Text_stringEnd_88, r_Text_stringEnd_89, ai_iload, ai_const, ai_iadd, ai_bin, ai_istore, am_cut_0, am_cut_s, am_c1, ai_cmpgt, ai_aload, ai_callv2, am_push, am_few, ai_cmpne, ai_iret, ai_iinc, ai_cmpeq, ai_cmplt, ai_cmple, ai_goto, kd_0, fd_0_0, fd_0_1, fd_0_2, fd_0_3, fd_0_4, kd_1, fd_1_0, fd_1_1, ln_2, kd_3, fd_3_0, fd_3_1, fd_3_2, fd_3_3, fd_3_4, fd_3_5, fd_3_6, fd_3_7, fd_3_8, fd_3_9, ln_4, ln_5, ln_6, ln_7, ln_8, ln_9, ln_10, kd_11, fd_11_0, fd_11_1, fd_11_2, fd_11_3, fd_11_4, kd_12, fd_12_0, fd_12_1, fd_12_2, fd_12_3, ln_13, ln_14, ln_15, kd_16, fd_16_0, fd_16_1, fd_16_2, ln_17, kd_18, fd_18_0, fd_18_1, kd_19, fd_19_0, fd_19_1, fd_19_2, fd_19_3, fd_19_4, fd_19_5, fd_19_6, fd_19_7, fd_19_8, fd_19_9, fd_19_10, fd_19_11, fd_19_12, fd_19_13, fd_19_14, fd_19_15, fd_19_16, fd_19_17, fd_19_18, fd_19_19, fd_19_20, ln_20, ln_21, ln_22, ln_23, ln_24, ln_25, ln_26, ln_27, ln_28, ln_29, ln_30, ln_31, ln_32, List.getElem?_cons_zero, List.getElem?_cons_succ, List.set_cons_zero, List.set_cons_succ, true_and, and_true, ↓reduceIte, Int32.reduceLT, Int32.reduceLE, li_10, or_true, true_or, ↓sp_Text_at, e1, f_bt hn (show j < 2 ^ 31 by omega), f_bt hn (show j + 1 < 2 ^ 31 by omega), nI_1]
    simp only [stE] at h
    have g1 := fun o => ih (c + 1) (j + 1) o (by omega) (by omega)
    have g2 := fun o => ih (c + 1) (j + 2) o (by omega) (by omega)
    by_cases c1 : bt (M 2) (tl M) j = 34
    · simp only [c1, ↓reduceIte] at h ⊢; exact h
    · simp only [c1, ↓reduceIte] at h ⊢
      by_cases c2 : bt (M 2) (tl M) j = 92
      · simp only [c2, ↓reduceIte] at h ⊢
        by_cases c3 : bt (M 2) (tl M) (j + 1) = 34
        · simp only [c3, ↓reduceIte, Int32.reduceLT] at h ⊢; exact g2 _ h
        · simp only [c3, ↓reduceIte] at h ⊢
          by_cases c4 : bt (M 2) (tl M) (j + 1) = 92
          · simp only [c4, ↓reduceIte, Int32.reduceLT] at h ⊢; exact g2 _ h
          · simp only [c4, ↓reduceIte] at h ⊢; exact h
      · simp only [c2, ↓reduceIte] at h ⊢
        by_cases c3 : bt (M 2) (tl M) j < 32
        · simp only [c3, ↓reduceIte] at h ⊢; exact h
        · simp only [c3, ↓reduceIte] at h ⊢
          by_cases c4 : 126 < bt (M 2) (tl M) j
          · simp only [c4, ↓reduceIte] at h ⊢; exact h
          · simp only [c4, ↓reduceIte] at h ⊢; exact g1 _ h
set_option maxRecDepth 100000 in
set_option maxHeartbeats 4000000 in
theorem ok_Text_stringEnd {G : aG} (hG : am_ok G) : am_Sp G Y_Text_stringEnd 1 sp_Text_stringEnd := by
  intro as M K h
  unfold sp_Text_stringEnd at h
  split at h
  · next a p =>
    obtain ⟨rfl, ⟨hn, hp⟩, h⟩ := h
    have hp2 := hp.2
    refine am_entry hG (by decide +kernel) (Nat.le_of_ble_eq_true rfl) ?_
    refine am_go (cuts := k_Text_stringEnd) (tb_Text_stringEnd (ok_Text_at hG) (by decide)) 400 _ _ _ _ ?_
    change am_run _ _ _ _ _ _ [some (.ref 1), some (.int p), none, none, none] [] _
    simp only [q_Text_stringEnd_6, r_Text_stringEnd_0, r_Text_stringEnd_1, r_Text_stringEnd_2, r_Text_stringEnd_3, r_Text_stringEnd_4, r_Text_stringEnd_5, r_Text_stringEnd_6, r_Text_stringEnd_7, r_Text_stringEnd_9, r_Text_stringEnd_12, r_Text_stringEnd_13, r_Text_stringEnd_14, r_Text_stringEnd_17, r_Text_stringEnd_19, r_Text_stringEnd_21, r_Text_stringEnd_23, r_Text_stringEnd_26, r_Text_stringEnd_27, r_Text_stringEnd_28, r_Text_stringEnd_29, r_Text_stringEnd_30, r_Text_stringEnd_32, r_Text_stringEnd_34, r_Text_stringEnd_37, r_Text_stringEnd_40, r_Text_stringEnd_41, r_Text_stringEnd_42, r_Text_stringEnd_45, r_Text_stringEnd_47, r_Text_stringEnd_49, r_Text_stringEnd_51, r_Text_stringEnd_54, r_Text_stringEnd_56, r_Text_stringEnd_58, r_Text_stringEnd_61, r_Text_stringEnd_62, r_Text_stringEnd_63, r_Text_stringEnd_65, r_Text_stringEnd_67, r_Text_stringEnd_70, r_Text_stringEnd_72, r_Text_stringEnd_74, r_Text_stringEnd_77, r_Text_stringEnd_78, r_Text_stringEnd_79, r_Text_stringEnd_82, r_Text_stringEnd_85, r_Text_stringEnd_88, r_Text_stringEnd_89, ai_iload, ai_const, ai_iadd, ai_bin, ai_istore, am_cut_0, am_cut_s, am_c1, ai_cmpgt, ai_aload, ai_callv2, am_push, am_few, ai_cmpne, ai_iret, ai_iinc, ai_cmpeq, ai_cmplt, ai_cmple, ai_goto, kd_0, fd_0_0, fd_0_1, fd_0_2, fd_0_3, fd_0_4, kd_1, fd_1_0, fd_1_1, ln_2, kd_3, fd_3_0, fd_3_1, fd_3_2, fd_3_3, fd_3_4, fd_3_5, fd_3_6, fd_3_7, fd_3_8, fd_3_9, ln_4, ln_5, ln_6, ln_7, ln_8, ln_9, ln_10, kd_11, fd_11_0, fd_11_1, fd_11_2, fd_11_3, fd_11_4, kd_12, fd_12_0, fd_12_1, fd_12_2, fd_12_3, ln_13, ln_14, ln_15, kd_16, fd_16_0, fd_16_1, fd_16_2, ln_17, kd_18, fd_18_0, fd_18_1, kd_19, fd_19_0, fd_19_1, fd_19_2, fd_19_3, fd_19_4, fd_19_5, fd_19_6, fd_19_7, fd_19_8, fd_19_9, fd_19_10, fd_19_11, fd_19_12, fd_19_13, fd_19_14, fd_19_15, fd_19_16, fd_19_17, fd_19_18, fd_19_19, fd_19_20, ln_20, ln_21, ln_22, ln_23, ln_24, ln_25, ln_26, ln_27, ln_28, ln_29, ln_30, ln_31, ln_32, List.getElem?_cons_zero, List.getElem?_cons_succ, List.set_cons_zero, List.set_cons_succ, true_and, and_true, ↓reduceIte, Int32.reduceLT, Int32.reduceLE, li_10, or_true, true_or]
    rw [show p + 1 = nI (cl p + 1) by rw [← nI_1, ← hp.1]]
    exact lp_Text_stringEnd hG hn 21 0 (cl p + 1) none rfl (by omega) h
  · cases h
/-- the sort of a token by its first byte -/
def srt (b : Int32) : Int32 := if b = -1 then 10 else if b = 34 then 3 else if b = 39 then 8 else if b = 40 then 6 else if b = 41 then 7 else if b = 46 then 9 else if b = 45 then 1 else if dgB b = true then 1 else if wB b = true then 2 else 11
def sp_Text_sortAt : aS := fun as M K => match as with
  | [.ref a, .int p] => a = 1 ∧ K (some (.int (srt (f_at M p)))) M
  | _ => False
set_option maxRecDepth 100000 in
set_option maxHeartbeats 4000000 in
theorem ok_Text_sortAt {G : aG} (hG : am_ok G) : am_Sp G Y_Text_sortAt 1 sp_Text_sortAt := by
  intro as M K h
  unfold sp_Text_sortAt at h
  split at h
  · next a p =>
    obtain ⟨rfl, h⟩ := h
    refine am_entry hG (by decide +kernel) (Nat.le_of_ble_eq_true rfl) ?_
    refine am_go (cuts := k_Text_sortAt) (tb_Text_sortAt (ok_Text_at hG) (by decide) (ok_Text_isDigit hG) (by decide) (ok_Text_isWordByte hG) (by decide)) 400 _ _ _ _ ?_
    change am_run _ _ _ _ _ _ [some (.ref 1), some (.int p), none] [] _
    simp only [r_Text_sortAt_0, r_Text_sortAt_1, r_Text_sortAt_2, r_Text_sortAt_5, r_Text_sortAt_6, r_Text_sortAt_7, r_Text_sortAt_64, r_Text_sortAt_66, r_Text_sortAt_67, r_Text_sortAt_69, r_Text_sortAt_70, r_Text_sortAt_72, r_Text_sortAt_73, r_Text_sortAt_75, r_Text_sortAt_76, r_Text_sortAt_78, r_Text_sortAt_79, r_Text_sortAt_80, r_Text_sortAt_81, r_Text_sortAt_82, r_Text_sortAt_84, r_Text_sortAt_87, r_Text_sortAt_88, r_Text_sortAt_91, r_Text_sortAt_94, r_Text_sortAt_95, r_Text_sortAt_96, r_Text_sortAt_97, r_Text_sortAt_100, r_Text_sortAt_103, r_Text_sortAt_104, r_Text_sortAt_107, r_Text_sortAt_109, ai_aload, ai_iload, ai_callv2, am_push, am_few, ai_istore, am_cut_0, am_cut_s, am_c1, ai_switch, am_sw, ai_const, ai_iret, ai_cmpeq, ai_calls1, ai_ifeq, ai_goto, kd_0, fd_0_0, fd_0_1, fd_0_2, fd_0_3, fd_0_4, kd_1, fd_1_0, fd_1_1, ln_2, kd_3, fd_3_0, fd_3_1, fd_3_2, fd_3_3, fd_3_4, fd_3_5, fd_3_6, fd_3_7, fd_3_8, fd_3_9, ln_4, ln_5, ln_6, ln_7, ln_8, ln_9, ln_10, kd_11, fd_11_0, fd_11_1, fd_11_2, fd_11_3, fd_11_4, kd_12, fd_12_0, fd_12_1, fd_12_2, fd_12_3, ln_13, ln_14, ln_15, kd_16, fd_16_0, fd_16_1, fd_16_2, ln_17, kd_18, fd_18_0, fd_18_1, kd_19, fd_19_0, fd_19_1, fd_19_2, fd_19_3, fd_19_4, fd_19_5, fd_19_6, fd_19_7, fd_19_8, fd_19_9, fd_19_10, fd_19_11, fd_19_12, fd_19_13, fd_19_14, fd_19_15, fd_19_16, fd_19_17, fd_19_18, fd_19_19, fd_19_20, ln_20, ln_21, ln_22, ln_23, ln_24, ln_25, ln_26, ln_27, ln_28, ln_29, ln_30, ln_31, ln_32, List.getElem?_cons_zero, List.getElem?_cons_succ, List.set_cons_zero, List.set_cons_succ, true_and, and_true, ↓reduceIte, Int32.reduceLT, Int32.reduceLE, li_10, or_true, true_or, ↓sp_Text_at, ↓sp_Text_isDigit, ↓sp_Text_isWordByte]
    generalize f_at M p = b at h ⊢
    unfold srt at h
    by_cases c1 : b = -1
    · simp only [c1, ↓reduceIte] at h ⊢; exact h
    by_cases c2 : b = 34
    · simp only [c1, c2, ↓reduceIte] at h ⊢; exact h
    by_cases c3 : b = 39
    · simp only [c1, c2, c3, ↓reduceIte] at h ⊢; exact h
    by_cases c4 : b = 40
    · simp only [c1, c2, c3, c4, ↓reduceIte] at h ⊢; exact h
    by_cases c5 : b = 41
    · simp only [c1, c2, c3, c4, c5, ↓reduceIte] at h ⊢; exact h
    by_cases c6 : b = 46
    · simp only [c1, c2, c3, c4, c5, c6, ↓reduceIte] at h ⊢; exact h
    by_cases c7 : b = 45
    · simp only [c1, c2, c3, c4, c5, c6, c7, ↓reduceIte] at h ⊢; exact h
    cases c8 : dgB b
    · cases c9 : wB b
      · simp only [c1, c2, c3, c4, c5, c6, c7, c8, c9, b2, ↓reduceIte, Bool.false_eq_true] at h ⊢; exact h
      · simp only [c1, c2, c3, c4, c5, c6, c7, c8, c9, b2, ↓reduceIte, Bool.false_eq_true, li_10] at h ⊢; exact h
    · simp only [c1, c2, c3, c4, c5, c6, c7, c8, b2, ↓reduceIte, li_10] at h ⊢; exact h
  · cases h
/-- where a token of this sort ends, -1 if its bytes make none -/
def f_tend (M : aM) (i : Nat) (s : Int32) : Int32 := if s = 1 then f_num M i else if s = 2 then f_name M i else if s = 3 then f_str M i else if s = 9 then (if wB (f_at M (nI i - 1)) = true then -1 else if wB (bt (M 2) (tl M) (i + 1)) = true then -1 else nI (i + 1)) else if s = 11 then -1 else nI (i + 1)
def sp_Text_tokenEnd : aS := fun as M K => match as with
  | [.ref a, .int p, .int s] => a = 1 ∧ (tx_ok M ∧ sm p 400 ∧ (s = 1 → cl p < tl M)) ∧ K (some (.int (f_tend M (cl p) s))) M
  | _ => False
set_option maxRecDepth 100000 in
set_option maxHeartbeats 4000000 in
theorem ok_Text_tokenEnd {G : aG} (hG : am_ok G) : am_Sp G Y_Text_tokenEnd 3 sp_Text_tokenEnd := by
  intro as M K h
  unfold sp_Text_tokenEnd at h
  split at h
  · next a p s =>
    obtain ⟨rfl, ⟨hn, hp, hs⟩, h⟩ := h
    have hp2 := hp.2
    have e1 : p + 1 = nI (cl p + 1) := by rw [← nI_1, ← hp.1]
    refine am_entry hG (by decide +kernel) (Nat.le_of_ble_eq_true rfl) ?_
    refine am_go (cuts := k_Text_tokenEnd) (tb_Text_tokenEnd (ok_Text_numberEnd hG) (by decide) (ok_Text_nameEnd hG) (by decide) (ok_Text_stringEnd hG) (by decide) (ok_Text_at hG) (by decide) (ok_Text_isWordByte hG) (by decide)) 400 _ _ _ _ ?_
    change am_run _ _ _ _ _ _ [some (.ref 1), some (.int p), some (.int s)] [] _
    simp only [r_Text_tokenEnd_0, r_Text_tokenEnd_1, r_Text_tokenEnd_60, r_Text_tokenEnd_61, r_Text_tokenEnd_62, r_Text_tokenEnd_65, r_Text_tokenEnd_66, r_Text_tokenEnd_67, r_Text_tokenEnd_68, r_Text_tokenEnd_71, r_Text_tokenEnd_72, r_Text_tokenEnd_73, r_Text_tokenEnd_74, r_Text_tokenEnd_77, r_Text_tokenEnd_78, r_Text_tokenEnd_79, r_Text_tokenEnd_80, r_Text_tokenEnd_81, r_Text_tokenEnd_82, r_Text_tokenEnd_85, r_Text_tokenEnd_88, r_Text_tokenEnd_91, r_Text_tokenEnd_92, r_Text_tokenEnd_93, r_Text_tokenEnd_94, r_Text_tokenEnd_95, r_Text_tokenEnd_98, r_Text_tokenEnd_101, r_Text_tokenEnd_104, r_Text_tokenEnd_105, r_Text_tokenEnd_108, r_Text_tokenEnd_109, r_Text_tokenEnd_110, r_Text_tokenEnd_111, r_Text_tokenEnd_112, r_Text_tokenEnd_113, r_Text_tokenEnd_114, r_Text_tokenEnd_115, r_Text_tokenEnd_116, r_Text_tokenEnd_117, ai_iload, ai_switch, am_sw, ai_aload, ai_callv2, am_push, am_few, ai_iret, ai_const, ai_isub, ai_bin, ai_calls1, ai_ifne, ai_iadd, ai_ifeq, ai_goto, kd_0, fd_0_0, fd_0_1, fd_0_2, fd_0_3, fd_0_4, kd_1, fd_1_0, fd_1_1, ln_2, kd_3, fd_3_0, fd_3_1, fd_3_2, fd_3_3, fd_3_4, fd_3_5, fd_3_6, fd_3_7, fd_3_8, fd_3_9, ln_4, ln_5, ln_6, ln_7, ln_8, ln_9, ln_10, kd_11, fd_11_0, fd_11_1, fd_11_2, fd_11_3, fd_11_4, kd_12, fd_12_0, fd_12_1, fd_12_2, fd_12_3, ln_13, ln_14, ln_15, kd_16, fd_16_0, fd_16_1, fd_16_2, ln_17, kd_18, fd_18_0, fd_18_1, kd_19, fd_19_0, fd_19_1, fd_19_2, fd_19_3, fd_19_4, fd_19_5, fd_19_6, fd_19_7, fd_19_8, fd_19_9, fd_19_10, fd_19_11, fd_19_12, fd_19_13, fd_19_14, fd_19_15, fd_19_16, fd_19_17, fd_19_18, fd_19_19, fd_19_20, ln_20, ln_21, ln_22, ln_23, ln_24, ln_25, ln_26, ln_27, ln_28, ln_29, ln_30, ln_31, ln_32, List.getElem?_cons_zero, List.getElem?_cons_succ, List.set_cons_zero, List.set_cons_succ, true_and, and_true, ↓reduceIte, Int32.reduceLT, Int32.reduceLE, li_10, or_true, true_or, ↓sp_Text_at, ↓sp_Text_isWordByte, ↓sp_Text_numberEnd, ↓sp_Text_nameEnd, ↓sp_Text_stringEnd, e1, f_bt hn (show cl p + 1 < 2 ^ 31 by omega)]
    unfold f_tend at h
    rw [← hp.1] at h
    by_cases c1 : s = 1
    · simp only [c1, ↓reduceIte] at h ⊢; exact ⟨⟨hn, hp, hs c1⟩, h⟩
    by_cases c2 : s = 2
    · simp only [c1, c2, ↓reduceIte] at h ⊢; exact ⟨⟨hn, hp.1, by omega⟩, h⟩
    by_cases c3 : s = 3
    · simp only [c1, c2, c3, ↓reduceIte] at h ⊢; exact ⟨⟨hn, hp⟩, h⟩
    by_cases c9 : s = 9
    · subst c9
      cases w1 : wB (f_at M (p - 1)) <;> cases w2 : wB (bt (M 2) (tl M) (cl p + 1)) <;> simp [w1, w2, b2] at h ⊢ <;> exact h
    by_cases c11 : s = 11
    · subst c11; simp at h ⊢; exact h
    · simp only [c1, c2, c3, c9, c11, ↓reduceIte, ite_self] at h ⊢; exact h
  · cases h
def apd (M : aM) (b : Int32) : aM := am_up (am_up M 2 (tl M) b) 1 1 (nI (tl M + 1))
def sp_Text_append : aS := fun as M K => match as with
  | [.ref a, .int b] => a = 1 ∧ (tx_ok M ∧ tl M < 400) ∧ K none (apd M b)
  | _ => False
set_option maxRecDepth 100000 in
set_option maxHeartbeats 4000000 in
theorem ok_Text_append {G : aG} (hG : am_ok G) : am_Sp G Y_Text_append 0 sp_Text_append := by
  intro as M K h
  unfold sp_Text_append at h
  split at h
  · next a b =>
    obtain ⟨rfl, ⟨hn, ht⟩, h⟩ := h
    have e0 : ¬ M 1 1 < 0 := by rw [hn.1]; exact nI_pos (by omega)
    have e1 : M 1 1 < 400 := by rw [hn.1]; exact nI_lt (b := 400) ht (by decide)
    have e2 : vp_in (M 1 1) 400 := vin_lt e0 e1 (by decide)
    refine am_entry hG (by decide +kernel) (Nat.le_of_ble_eq_true rfl) ?_
    refine am_go (cuts := k_Text_append) tb_Text_append 400 _ _ _ _ ?_
    change am_run _ _ _ _ _ _ [some (.ref 1), some (.int b)] [] _
    simp only [r_Text_append_0, r_Text_append_1, r_Text_append_4, r_Text_append_7, r_Text_append_8, r_Text_append_11, r_Text_append_14, r_Text_append_17, r_Text_append_18, r_Text_append_21, r_Text_append_22, r_Text_append_25, r_Text_append_26, r_Text_append_27, r_Text_append_28, r_Text_append_29, r_Text_append_32, r_Text_append_33, r_Text_append_34, r_Text_append_37, ai_aload, ai_getf, ai_iflt, ai_const, ai_cmpge, ai_iload, ai_iast, ai_dup, am_c1, ai_iadd, ai_bin, ai_putf, ai_vret, kd_0, fd_0_0, fd_0_1, fd_0_2, fd_0_3, fd_0_4, kd_1, fd_1_0, fd_1_1, ln_2, kd_3, fd_3_0, fd_3_1, fd_3_2, fd_3_3, fd_3_4, fd_3_5, fd_3_6, fd_3_7, fd_3_8, fd_3_9, ln_4, ln_5, ln_6, ln_7, ln_8, ln_9, ln_10, kd_11, fd_11_0, fd_11_1, fd_11_2, fd_11_3, fd_11_4, kd_12, fd_12_0, fd_12_1, fd_12_2, fd_12_3, ln_13, ln_14, ln_15, kd_16, fd_16_0, fd_16_1, fd_16_2, ln_17, kd_18, fd_18_0, fd_18_1, kd_19, fd_19_0, fd_19_1, fd_19_2, fd_19_3, fd_19_4, fd_19_5, fd_19_6, fd_19_7, fd_19_8, fd_19_9, fd_19_10, fd_19_11, fd_19_12, fd_19_13, fd_19_14, fd_19_15, fd_19_16, fd_19_17, fd_19_18, fd_19_19, fd_19_20, ln_20, ln_21, ln_22, ln_23, ln_24, ln_25, ln_26, ln_27, ln_28, ln_29, ln_30, ln_31, ln_32, List.getElem?_cons_zero, List.getElem?_cons_succ, List.set_cons_zero, List.set_cons_succ, true_and, and_true, ↓reduceIte, Int32.reduceLT, Int32.reduceLE, li_10, or_true, true_or, e0, e1, e2]
    unfold apd at h
    rw [← nI_1, ← hn.1] at h
    have e3 : am_up M 2 (M 1 1).toNatClampNeg b 1 1 = M 1 1 := by rw [am_up_ne (by decide)]
    rw [e3]
    exact h
  · cases h
